theorem dL_moor_0 : decode cL_moor 0 = .ok (.aload 4, 2) := by decide +kernel
theorem dL_moor_2 : decode cL_moor 2 = .ok (.iconst 0, 1) := by decide +kernel
theorem dL_moor_3 : decode cL_moor 3 = .ok (.aload_n 0, 1) := by decide +kernel
theorem dL_moor_4 : decode cL_moor 4 = .ok (.iload_n 1, 1) := by decide +kernel
theorem dL_moor_5 : decode cL_moor 5 = .ok (.iload_n 2, 1) := by decide +kernel
theorem dL_moor_6 : decode cL_moor 6 = .ok (.iload_n 3, 1) := by decide +kernel
theorem dL_moor_7 : decode cL_moor 7 = .ok (.invokevirtual 7, 3) := by decide +kernel
theorem dL_moor_10 : decode cL_moor 10 = .ok (.i2l, 1) := by decide +kernel
theorem dL_moor_11 : decode cL_moor 11 = .ok (.lastore, 1) := by decide +kernel
theorem dL_moor_12 : decode cL_moor 12 = .ok (.goto 15, 3) := by decide +kernel
theorem dL_moor_15 : decode cL_moor 15 = .ok (.astore 5, 2) := by decide +kernel
theorem dL_moor_17 : decode cL_moor 17 = .ok (.iconst 1, 1) := by decide +kernel
theorem dL_moor_18 : decode cL_moor 18 = .ok (.ireturn, 1) := by decide +kernel
theorem dL_moor_19 : decode cL_moor 19 = .ok (.astore 5, 2) := by decide +kernel
theorem dL_moor_21 : decode cL_moor 21 = .ok (.iconst 2, 1) := by decide +kernel
theorem dL_moor_22 : decode cL_moor 22 = .ok (.ireturn, 1) := by decide +kernel
theorem dL_moor_23 : decode cL_moor 23 = .ok (.astore 5, 2) := by decide +kernel
theorem dL_moor_25 : decode cL_moor 25 = .ok (.iconst 3, 1) := by decide +kernel
theorem dL_moor_26 : decode cL_moor 26 = .ok (.ireturn, 1) := by decide +kernel
theorem dL_moor_27 : decode cL_moor 27 = .ok (.iconst 0, 1) := by decide +kernel
theorem dL_moor_28 : decode cL_moor 28 = .ok (.ireturn, 1) := by decide +kernel
set_option maxRecDepth 100000 in
set_option maxHeartbeats 4000000 in
theorem H_moor (l : Launch) (hst : l.stackTraces = false) (E : gE) (x : gX) {v1 v2 v3 : Int32} {M : gM} {oc : String ⊕ Int32} {M1 : gM} {z : Int32} {b : Int32} (hf : f_X6_moor v1 v2 v3 M = some (oc, M1)) (ha : gAns ["java/lang/IndexOutOfBoundsException", "java/lang/IllegalArgumentException", "java/lang/IllegalStateException"] oc z b) : gH0 l E yL_moor (.codeWith yL_moor cL_moor 6 (some .int) [(0, 12, 15, 13), (0, 12, 19, 15), (0, 12, 23, 17)]) (gRX 8 147 1 6) M x [.ref (E.2.1 132), .int v1, .int v2, .int v3, .ref (E.2.1 159)] z M1 (gXo x z b.toInt64) 1 6 := by
  refine gMetH (by decide +kernel) (Nat.le_of_ble_eq_true rfl) ?_
  intro p e s m args below meth c H locs ls Q hC hN hT hl hI kr
  replace hC : gC p s m args c cL_moor 6 RL E := hC
  replace hl : lv_has ls 6 [(0, .ref (E.2.1 132)), (1, .int v1), (2, .int v2), (3, .int v3), (4, .ref (E.2.1 159))] := hl
  have hx := hC.1
  have hb := hC.2.1
  refine lv_aload hx hb dL_moor_0 (lv_at hl 4 rfl) ?_
  refine lv_iconst (v := 0) hx hb dL_moor_2 (by decide) ?_
  refine lv_aload_n hx hb dL_moor_3 rfl (lv_at hl 0 rfl) ?_
  refine lv_iload_n hx hb dL_moor_4 rfl (lv_at hl 1 rfl) ?_
  refine lv_iload_n hx hb dL_moor_5 rfl (lv_at hl 2 rfl) ?_
  refine lv_iload_n hx hb dL_moor_6 rfl (lv_at hl 3 rfl) ?_
  have hm := C_X6_moor l hst E x hf
  rcases ha with ⟨e1, e2⟩ | ⟨i, En, hi, e1, e2⟩
  · subst e1 e2
    refine g_xV hC hI hm Y_X6_moor V_X6_moor w523 (rcv_X6 hC hI) ⟨rfl, rfl⟩ ⟨Nat.le_of_ble_eq_true rfl, Nat.le_of_ble_eq_true rfl⟩ rfl hl.1 rfl (Nat.le_of_ble_eq_true rfl) dL_moor_7 ⟨Nat.le_of_ble_eq_true rfl, Nat.le_of_ble_eq_true rfl⟩ (fun rv H locs ho hI => ?_) (fun En ce q H locs ho => nomatch ho)
    cases ho
    refine lv_i2l (v := b.toInt64) hx hb dL_moor_10 rfl ?_
    refine g_lastX hC hI dL_moor_11 (fun H locs hI => ?_)
    refine lv_goto (tgt := 27) hx hb dL_moor_12 rfl ?_
    refine lv_iconst (v := 0) hx hb dL_moor_27 (by decide) ?_
    exact kr _ _ _ _ _ _ _ _ nI_0.symm (by rw [gXo_0]) hI ⟨Nat.le_of_ble_eq_true rfl, Nat.le_of_ble_eq_true rfl⟩ dL_moor_28
  · subst e1 e2
    refine g_xV hC hI hm Y_X6_moor V_X6_moor w523 (rcv_X6 hC hI) ⟨rfl, rfl⟩ ⟨Nat.le_of_ble_eq_true rfl, Nat.le_of_ble_eq_true rfl⟩ rfl hl.1 rfl (Nat.le_of_ble_eq_true rfl) dL_moor_7 ⟨Nat.le_of_ble_eq_true rfl, Nat.le_of_ble_eq_true rfl⟩ (fun rv H locs ho => nomatch ho) (fun En2 ce q H locs ho hI hce hcv hcl => ?_)
    cases ho
    match i, hi with
    | 0, hi =>
      cases hi
      refine g_catch hC hT [] ⟨0, 12, 15, 13⟩ [⟨0, 12, 19, 15⟩, ⟨0, 12, 23, 17⟩] rfl (fun _ h => absurd h List.not_mem_nil) (by decide) (by decide) w442 (by decide +kernel) hce hcv hcl ?_
      refine lv_astore (lv' := [(5, .ref q), (0, .ref (E.2.1 132)), (1, .int v1), (2, .int v2), (3, .int v3), (4, .ref (E.2.1 159))]) hx hb dL_moor_15 hl (by decide) rfl (fun ls hl => ?_)
      refine lv_iconst (v := 1) hx hb dL_moor_17 (by decide) ?_
      exact kr _ _ _ _ _ _ _ _ rfl (by rw [gXo_n x (by decide)]) hI ⟨Nat.le_of_ble_eq_true rfl, Nat.le_of_ble_eq_true rfl⟩ dL_moor_18
    | 1, hi =>
      cases hi
      refine g_catch hC hT [⟨0, 12, 15, 13⟩] ⟨0, 12, 19, 15⟩ [⟨0, 12, 23, 17⟩] rfl (List.forall_mem_cons.mpr ⟨⟨by decide, _, w442, hN ("java/lang/IllegalArgumentException", "java/lang/IndexOutOfBoundsException") (by decide +kernel)⟩, (fun _ h => absurd h List.not_mem_nil)⟩) (by decide) (by decide) w521 (by decide +kernel) hce hcv hcl ?_
      refine lv_astore (lv' := [(5, .ref q), (0, .ref (E.2.1 132)), (1, .int v1), (2, .int v2), (3, .int v3), (4, .ref (E.2.1 159))]) hx hb dL_moor_19 hl (by decide) rfl (fun ls hl => ?_)
      refine lv_iconst (v := 2) hx hb dL_moor_21 (by decide) ?_
      exact kr _ _ _ _ _ _ _ _ rfl (by rw [gXo_n x (by decide)]) hI ⟨Nat.le_of_ble_eq_true rfl, Nat.le_of_ble_eq_true rfl⟩ dL_moor_22
    | 2, hi =>
      cases hi
      refine g_catch hC hT [⟨0, 12, 15, 13⟩, ⟨0, 12, 19, 15⟩] ⟨0, 12, 23, 17⟩ [] rfl (List.forall_mem_cons.mpr ⟨⟨by decide, _, w442, hN ("java/lang/IllegalStateException", "java/lang/IndexOutOfBoundsException") (by decide +kernel)⟩, (List.forall_mem_cons.mpr ⟨⟨by decide, _, w521, hN ("java/lang/IllegalStateException", "java/lang/IllegalArgumentException") (by decide +kernel)⟩, (fun _ h => absurd h List.not_mem_nil)⟩)⟩) (by decide) (by decide) w522 (by decide +kernel) hce hcv hcl ?_
      refine lv_astore (lv' := [(5, .ref q), (0, .ref (E.2.1 132)), (1, .int v1), (2, .int v2), (3, .int v3), (4, .ref (E.2.1 159))]) hx hb dL_moor_23 hl (by decide) rfl (fun ls hl => ?_)
      refine lv_iconst (v := 3) hx hb dL_moor_25 (by decide) ?_
      exact kr _ _ _ _ _ _ _ _ rfl (by rw [gXo_n x (by decide)]) hI ⟨Nat.le_of_ble_eq_true rfl, Nat.le_of_ble_eq_true rfl⟩ dL_moor_26
    | k + 3, hi => cases hi
theorem dL_stow_0 : decode cL_stow 0 = .ok (.aload 5, 2) := by decide +kernel
theorem dL_stow_2 : decode cL_stow 2 = .ok (.iconst 0, 1) := by decide +kernel
theorem dL_stow_3 : decode cL_stow 3 = .ok (.aload_n 0, 1) := by decide +kernel
theorem dL_stow_4 : decode cL_stow 4 = .ok (.iload_n 1, 1) := by decide +kernel
theorem dL_stow_5 : decode cL_stow 5 = .ok (.iload_n 2, 1) := by decide +kernel
theorem dL_stow_6 : decode cL_stow 6 = .ok (.iload_n 3, 1) := by decide +kernel
theorem dL_stow_7 : decode cL_stow 7 = .ok (.iload 4, 2) := by decide +kernel
theorem dL_stow_9 : decode cL_stow 9 = .ok (.invokevirtual 19, 3) := by decide +kernel
theorem dL_stow_12 : decode cL_stow 12 = .ok (.i2l, 1) := by decide +kernel
theorem dL_stow_13 : decode cL_stow 13 = .ok (.lastore, 1) := by decide +kernel
theorem dL_stow_14 : decode cL_stow 14 = .ok (.goto 15, 3) := by decide +kernel
theorem dL_stow_17 : decode cL_stow 17 = .ok (.astore 6, 2) := by decide +kernel
theorem dL_stow_19 : decode cL_stow 19 = .ok (.iconst 1, 1) := by decide +kernel
theorem dL_stow_20 : decode cL_stow 20 = .ok (.ireturn, 1) := by decide +kernel
theorem dL_stow_21 : decode cL_stow 21 = .ok (.astore 6, 2) := by decide +kernel
theorem dL_stow_23 : decode cL_stow 23 = .ok (.iconst 2, 1) := by decide +kernel
theorem dL_stow_24 : decode cL_stow 24 = .ok (.ireturn, 1) := by decide +kernel
theorem dL_stow_25 : decode cL_stow 25 = .ok (.astore 6, 2) := by decide +kernel
theorem dL_stow_27 : decode cL_stow 27 = .ok (.iconst 3, 1) := by decide +kernel
theorem dL_stow_28 : decode cL_stow 28 = .ok (.ireturn, 1) := by decide +kernel
theorem dL_stow_29 : decode cL_stow 29 = .ok (.iconst 0, 1) := by decide +kernel
theorem dL_stow_30 : decode cL_stow 30 = .ok (.ireturn, 1) := by decide +kernel
set_option maxRecDepth 100000 in
set_option maxHeartbeats 4000000 in
theorem H_stow (l : Launch) (hst : l.stackTraces = false) (E : gE) (x : gX) {v1 v2 v3 v4 : Int32} {M : gM} {oc : String ⊕ Int32} {M1 : gM} {z : Int32} {b : Int32} (hf : f_X6_stow v1 v2 v3 v4 M = some (oc, M1)) (ha : gAns ["java/lang/IndexOutOfBoundsException", "java/lang/IllegalArgumentException", "java/lang/IllegalStateException"] oc z b) : gH0 l E yL_stow (.codeWith yL_stow cL_stow 7 (some .int) [(0, 14, 17, 13), (0, 14, 21, 15), (0, 14, 25, 17)]) (gRX 8 148 1 6) M x [.ref (E.2.1 132), .int v1, .int v2, .int v3, .int v4, .ref (E.2.1 159)] z M1 (gXo x z b.toInt64) 1 6 := by
  refine gMetH (by decide +kernel) (Nat.le_of_ble_eq_true rfl) ?_
  intro p e s m args below meth c H locs ls Q hC hN hT hl hI kr
  replace hC : gC p s m args c cL_stow 7 RL E := hC
  replace hl : lv_has ls 7 [(0, .ref (E.2.1 132)), (1, .int v1), (2, .int v2), (3, .int v3), (4, .int v4), (5, .ref (E.2.1 159))] := hl
  have hx := hC.1
  have hb := hC.2.1
  refine lv_aload hx hb dL_stow_0 (lv_at hl 5 rfl) ?_
  refine lv_iconst (v := 0) hx hb dL_stow_2 (by decide) ?_
  refine lv_aload_n hx hb dL_stow_3 rfl (lv_at hl 0 rfl) ?_
  refine lv_iload_n hx hb dL_stow_4 rfl (lv_at hl 1 rfl) ?_
  refine lv_iload_n hx hb dL_stow_5 rfl (lv_at hl 2 rfl) ?_
  refine lv_iload_n hx hb dL_stow_6 rfl (lv_at hl 3 rfl) ?_
  refine lv_iload hx hb dL_stow_7 (lv_at hl 4 rfl) ?_
  have hm := C_X6_stow l hst E x hf
  rcases ha with ⟨e1, e2⟩ | ⟨i, En, hi, e1, e2⟩
  · subst e1 e2
    refine g_xV hC hI hm Y_X6_stow V_X6_stow w611 (rcv_X6 hC hI) ⟨rfl, rfl⟩ ⟨Nat.le_of_ble_eq_true rfl, Nat.le_of_ble_eq_true rfl⟩ rfl hl.1 rfl (Nat.le_of_ble_eq_true rfl) dL_stow_9 ⟨Nat.le_of_ble_eq_true rfl, Nat.le_of_ble_eq_true rfl⟩ (fun rv H locs ho hI => ?_) (fun En ce q H locs ho => nomatch ho)
    cases ho
    refine lv_i2l (v := b.toInt64) hx hb dL_stow_12 rfl ?_
    refine g_lastX hC hI dL_stow_13 (fun H locs hI => ?_)
    refine lv_goto (tgt := 29) hx hb dL_stow_14 rfl ?_
    refine lv_iconst (v := 0) hx hb dL_stow_29 (by decide) ?_
    exact kr _ _ _ _ _ _ _ _ nI_0.symm (by rw [gXo_0]) hI ⟨Nat.le_of_ble_eq_true rfl, Nat.le_of_ble_eq_true rfl⟩ dL_stow_30
  · subst e1 e2
    refine g_xV hC hI hm Y_X6_stow V_X6_stow w611 (rcv_X6 hC hI) ⟨rfl, rfl⟩ ⟨Nat.le_of_ble_eq_true rfl, Nat.le_of_ble_eq_true rfl⟩ rfl hl.1 rfl (Nat.le_of_ble_eq_true rfl) dL_stow_9 ⟨Nat.le_of_ble_eq_true rfl, Nat.le_of_ble_eq_true rfl⟩ (fun rv H locs ho => nomatch ho) (fun En2 ce q H locs ho hI hce hcv hcl => ?_)
    cases ho
    match i, hi with
    | 0, hi =>
      cases hi
      refine g_catch hC hT [] ⟨0, 14, 17, 13⟩ [⟨0, 14, 21, 15⟩, ⟨0, 14, 25, 17⟩] rfl (fun _ h => absurd h List.not_mem_nil) (by decide) (by decide) w442 (by decide +kernel) hce hcv hcl ?_
      refine lv_astore (lv' := [(6, .ref q), (0, .ref (E.2.1 132)), (1, .int v1), (2, .int v2), (3, .int v3), (4, .int v4), (5, .ref (E.2.1 159))]) hx hb dL_stow_17 hl (by decide) rfl (fun ls hl => ?_)
      refine lv_iconst (v := 1) hx hb dL_stow_19 (by decide) ?_
      exact kr _ _ _ _ _ _ _ _ rfl (by rw [gXo_n x (by decide)]) hI ⟨Nat.le_of_ble_eq_true rfl, Nat.le_of_ble_eq_true rfl⟩ dL_stow_20
    | 1, hi =>
      cases hi
      refine g_catch hC hT [⟨0, 14, 17, 13⟩] ⟨0, 14, 21, 15⟩ [⟨0, 14, 25, 17⟩] rfl (List.forall_mem_cons.mpr ⟨⟨by decide, _, w442, hN ("java/lang/IllegalArgumentException", "java/lang/IndexOutOfBoundsException") (by decide +kernel)⟩, (fun _ h => absurd h List.not_mem_nil)⟩) (by decide) (by decide) w521 (by decide +kernel) hce hcv hcl ?_
      refine lv_astore (lv' := [(6, .ref q), (0, .ref (E.2.1 132)), (1, .int v1), (2, .int v2), (3, .int v3), (4, .int v4), (5, .ref (E.2.1 159))]) hx hb dL_stow_21 hl (by decide) rfl (fun ls hl => ?_)
      refine lv_iconst (v := 2) hx hb dL_stow_23 (by decide) ?_
      exact kr _ _ _ _ _ _ _ _ rfl (by rw [gXo_n x (by decide)]) hI ⟨Nat.le_of_ble_eq_true rfl, Nat.le_of_ble_eq_true rfl⟩ dL_stow_24
    | 2, hi =>
      cases hi
      refine g_catch hC hT [⟨0, 14, 17, 13⟩, ⟨0, 14, 21, 15⟩] ⟨0, 14, 25, 17⟩ [] rfl (List.forall_mem_cons.mpr ⟨⟨by decide, _, w442, hN ("java/lang/IllegalStateException", "java/lang/IndexOutOfBoundsException") (by decide +kernel)⟩, (List.forall_mem_cons.mpr ⟨⟨by decide, _, w521, hN ("java/lang/IllegalStateException", "java/lang/IllegalArgumentException") (by decide +kernel)⟩, (fun _ h => absurd h List.not_mem_nil)⟩)⟩) (by decide) (by decide) w522 (by decide +kernel) hce hcv hcl ?_
      refine lv_astore (lv' := [(6, .ref q), (0, .ref (E.2.1 132)), (1, .int v1), (2, .int v2), (3, .int v3), (4, .int v4), (5, .ref (E.2.1 159))]) hx hb dL_stow_25 hl (by decide) rfl (fun ls hl => ?_)
      refine lv_iconst (v := 3) hx hb dL_stow_27 (by decide) ?_
      exact kr _ _ _ _ _ _ _ _ rfl (by rw [gXo_n x (by decide)]) hI ⟨Nat.le_of_ble_eq_true rfl, Nat.le_of_ble_eq_true rfl⟩ dL_stow_28
    | k + 3, hi => cases hi
theorem dL_clear_0 : decode cL_clear 0 = .ok (.aload 4, 2) := by decide +kernel
theorem dL_clear_2 : decode cL_clear 2 = .ok (.iconst 0, 1) := by decide +kernel
theorem dL_clear_3 : decode cL_clear 3 = .ok (.aload_n 0, 1) := by decide +kernel
theorem dL_clear_4 : decode cL_clear 4 = .ok (.iload_n 1, 1) := by decide +kernel
theorem dL_clear_5 : decode cL_clear 5 = .ok (.iload_n 2, 1) := by decide +kernel
theorem dL_clear_6 : decode cL_clear 6 = .ok (.iload_n 3, 1) := by decide +kernel
theorem dL_clear_7 : decode cL_clear 7 = .ok (.invokevirtual 23, 3) := by decide +kernel
theorem dL_clear_10 : decode cL_clear 10 = .ok (.ifCond .eq 7, 3) := by decide +kernel
theorem dL_clear_13 : decode cL_clear 13 = .ok (.lconst 1, 1) := by decide +kernel
theorem dL_clear_14 : decode cL_clear 14 = .ok (.goto 4, 3) := by decide +kernel
theorem dL_clear_17 : decode cL_clear 17 = .ok (.lconst 0, 1) := by decide +kernel
theorem dL_clear_18 : decode cL_clear 18 = .ok (.lastore, 1) := by decide +kernel
theorem dL_clear_19 : decode cL_clear 19 = .ok (.goto 15, 3) := by decide +kernel
theorem dL_clear_22 : decode cL_clear 22 = .ok (.astore 5, 2) := by decide +kernel
theorem dL_clear_24 : decode cL_clear 24 = .ok (.iconst 1, 1) := by decide +kernel
theorem dL_clear_25 : decode cL_clear 25 = .ok (.ireturn, 1) := by decide +kernel
theorem dL_clear_26 : decode cL_clear 26 = .ok (.astore 5, 2) := by decide +kernel
theorem dL_clear_28 : decode cL_clear 28 = .ok (.iconst 2, 1) := by decide +kernel
theorem dL_clear_29 : decode cL_clear 29 = .ok (.ireturn, 1) := by decide +kernel
theorem dL_clear_30 : decode cL_clear 30 = .ok (.astore 5, 2) := by decide +kernel
theorem dL_clear_32 : decode cL_clear 32 = .ok (.iconst 3, 1) := by decide +kernel
theorem dL_clear_33 : decode cL_clear 33 = .ok (.ireturn, 1) := by decide +kernel
theorem dL_clear_34 : decode cL_clear 34 = .ok (.iconst 0, 1) := by decide +kernel
theorem dL_clear_35 : decode cL_clear 35 = .ok (.ireturn, 1) := by decide +kernel
set_option maxRecDepth 100000 in
set_option maxHeartbeats 4000000 in
theorem H_clear (l : Launch) (hst : l.stackTraces = false) (E : gE) (x : gX) {v1 v2 v3 : Int32} {M : gM} {oc : String ⊕ Bool} {M1 : gM} {z : Int32} {b : Bool} (hf : f_X6_clear v1 v2 v3 M = some (oc, M1)) (ha : gAns ["java/lang/IndexOutOfBoundsException", "java/lang/IllegalArgumentException", "java/lang/IllegalStateException"] oc z b) : gH0 l E yL_clear (.codeWith yL_clear cL_clear 6 (some .int) [(0, 19, 22, 13), (0, 19, 26, 15), (0, 19, 30, 17)]) (gRX 8 147 1 6) M x [.ref (E.2.1 132), .int v1, .int v2, .int v3, .ref (E.2.1 159)] z M1 (gXo x z (if b then 1 else 0)) 1 6 := by
  refine gMetH (by decide +kernel) (Nat.le_of_ble_eq_true rfl) ?_
  intro p e s m args below meth c H locs ls Q hC hN hT hl hI kr
  replace hC : gC p s m args c cL_clear 6 RL E := hC
  replace hl : lv_has ls 6 [(0, .ref (E.2.1 132)), (1, .int v1), (2, .int v2), (3, .int v3), (4, .ref (E.2.1 159))] := hl
  have hx := hC.1
  have hb := hC.2.1
  refine lv_aload hx hb dL_clear_0 (lv_at hl 4 rfl) ?_
  refine lv_iconst (v := 0) hx hb dL_clear_2 (by decide) ?_
  refine lv_aload_n hx hb dL_clear_3 rfl (lv_at hl 0 rfl) ?_
  refine lv_iload_n hx hb dL_clear_4 rfl (lv_at hl 1 rfl) ?_
  refine lv_iload_n hx hb dL_clear_5 rfl (lv_at hl 2 rfl) ?_
  refine lv_iload_n hx hb dL_clear_6 rfl (lv_at hl 3 rfl) ?_
  have hm := C_X6_clear l hst E x hf
  rcases ha with ⟨e1, e2⟩ | ⟨i, En, hi, e1, e2⟩
  · subst e1 e2
    refine g_xV hC hI hm Y_X6_clear V_X6_clear w635 (rcv_X6 hC hI) ⟨rfl, rfl⟩ ⟨Nat.le_of_ble_eq_true rfl, Nat.le_of_ble_eq_true rfl⟩ rfl hl.1 rfl (Nat.le_of_ble_eq_true rfl) dL_clear_7 ⟨Nat.le_of_ble_eq_true rfl, Nat.le_of_ble_eq_true rfl⟩ (fun rv H locs ho hI => ?_) (fun En ce q H locs ho => nomatch ho)
    cases ho
    cases b
    · refine lv_if_eq (tgt := 17) hx hb dL_clear_10 rfl (fun h1 => ?_) (fun h1 => absurd rfl h1)
      refine lv_lconst (v := 0) hx hb dL_clear_17 rfl ?_
      refine g_lastX hC hI dL_clear_18 (fun H locs hI => ?_)
      refine lv_goto (tgt := 34) hx hb dL_clear_19 rfl ?_
      refine lv_iconst (v := 0) hx hb dL_clear_34 (by decide) ?_
      exact kr _ _ _ _ _ _ _ _ nI_0.symm (by rw [gXo_0]; rfl) hI ⟨Nat.le_of_ble_eq_true rfl, Nat.le_of_ble_eq_true rfl⟩ dL_clear_35
    · refine lv_if_eq (tgt := 17) hx hb dL_clear_10 rfl (fun h1 => absurd h1 (by decide)) (fun h1 => ?_)
      refine lv_lconst (v := 1) hx hb dL_clear_13 rfl ?_
      refine lv_goto (tgt := 18) hx hb dL_clear_14 rfl ?_
      refine g_lastX hC hI dL_clear_18 (fun H locs hI => ?_)
      refine lv_goto (tgt := 34) hx hb dL_clear_19 rfl ?_
      refine lv_iconst (v := 0) hx hb dL_clear_34 (by decide) ?_
      exact kr _ _ _ _ _ _ _ _ nI_0.symm (by rw [gXo_0]; rfl) hI ⟨Nat.le_of_ble_eq_true rfl, Nat.le_of_ble_eq_true rfl⟩ dL_clear_35
  · subst e1 e2
    refine g_xV hC hI hm Y_X6_clear V_X6_clear w635 (rcv_X6 hC hI) ⟨rfl, rfl⟩ ⟨Nat.le_of_ble_eq_true rfl, Nat.le_of_ble_eq_true rfl⟩ rfl hl.1 rfl (Nat.le_of_ble_eq_true rfl) dL_clear_7 ⟨Nat.le_of_ble_eq_true rfl, Nat.le_of_ble_eq_true rfl⟩ (fun rv H locs ho => nomatch ho) (fun En2 ce q H locs ho hI hce hcv hcl => ?_)
    cases ho
    match i, hi with
    | 0, hi =>
      cases hi
      refine g_catch hC hT [] ⟨0, 19, 22, 13⟩ [⟨0, 19, 26, 15⟩, ⟨0, 19, 30, 17⟩] rfl (fun _ h => absurd h List.not_mem_nil) (by decide) (by decide) w442 (by decide +kernel) hce hcv hcl ?_
      refine lv_astore (lv' := [(5, .ref q), (0, .ref (E.2.1 132)), (1, .int v1), (2, .int v2), (3, .int v3), (4, .ref (E.2.1 159))]) hx hb dL_clear_22 hl (by decide) rfl (fun ls hl => ?_)
      refine lv_iconst (v := 1) hx hb dL_clear_24 (by decide) ?_
      exact kr _ _ _ _ _ _ _ _ rfl (by rw [gXo_n x (by decide)]) hI ⟨Nat.le_of_ble_eq_true rfl, Nat.le_of_ble_eq_true rfl⟩ dL_clear_25
    | 1, hi =>
      cases hi
      refine g_catch hC hT [⟨0, 19, 22, 13⟩] ⟨0, 19, 26, 15⟩ [⟨0, 19, 30, 17⟩] rfl (List.forall_mem_cons.mpr ⟨⟨by decide, _, w442, hN ("java/lang/IllegalArgumentException", "java/lang/IndexOutOfBoundsException") (by decide +kernel)⟩, (fun _ h => absurd h List.not_mem_nil)⟩) (by decide) (by decide) w521 (by decide +kernel) hce hcv hcl ?_
      refine lv_astore (lv' := [(5, .ref q), (0, .ref (E.2.1 132)), (1, .int v1), (2, .int v2), (3, .int v3), (4, .ref (E.2.1 159))]) hx hb dL_clear_26 hl (by decide) rfl (fun ls hl => ?_)
      refine lv_iconst (v := 2) hx hb dL_clear_28 (by decide) ?_
      exact kr _ _ _ _ _ _ _ _ rfl (by rw [gXo_n x (by decide)]) hI ⟨Nat.le_of_ble_eq_true rfl, Nat.le_of_ble_eq_true rfl⟩ dL_clear_29
    | 2, hi =>
      cases hi
      refine g_catch hC hT [⟨0, 19, 22, 13⟩, ⟨0, 19, 26, 15⟩] ⟨0, 19, 30, 17⟩ [] rfl (List.forall_mem_cons.mpr ⟨⟨by decide, _, w442, hN ("java/lang/IllegalStateException", "java/lang/IndexOutOfBoundsException") (by decide +kernel)⟩, (List.forall_mem_cons.mpr ⟨⟨by decide, _, w521, hN ("java/lang/IllegalStateException", "java/lang/IllegalArgumentException") (by decide +kernel)⟩, (fun _ h => absurd h List.not_mem_nil)⟩)⟩) (by decide) (by decide) w522 (by decide +kernel) hce hcv hcl ?_
      refine lv_astore (lv' := [(5, .ref q), (0, .ref (E.2.1 132)), (1, .int v1), (2, .int v2), (3, .int v3), (4, .ref (E.2.1 159))]) hx hb dL_clear_30 hl (by decide) rfl (fun ls hl => ?_)
      refine lv_iconst (v := 3) hx hb dL_clear_32 (by decide) ?_
      exact kr _ _ _ _ _ _ _ _ rfl (by rw [gXo_n x (by decide)]) hI ⟨Nat.le_of_ble_eq_true rfl, Nat.le_of_ble_eq_true rfl⟩ dL_clear_33
    | k + 3, hi => cases hi
theorem dL_move_0 : decode cL_move 0 = .ok (.aload 4, 2) := by decide +kernel
theorem dL_move_2 : decode cL_move 2 = .ok (.iconst 0, 1) := by decide +kernel
theorem dL_move_3 : decode cL_move 3 = .ok (.aload_n 0, 1) := by decide +kernel
theorem dL_move_4 : decode cL_move 4 = .ok (.iload_n 1, 1) := by decide +kernel
theorem dL_move_5 : decode cL_move 5 = .ok (.iload_n 2, 1) := by decide +kernel
theorem dL_move_6 : decode cL_move 6 = .ok (.iload_n 3, 1) := by decide +kernel
theorem dL_move_7 : decode cL_move 7 = .ok (.invokevirtual 27, 3) := by decide +kernel
theorem dL_move_10 : decode cL_move 10 = .ok (.i2l, 1) := by decide +kernel
theorem dL_move_11 : decode cL_move 11 = .ok (.lastore, 1) := by decide +kernel
theorem dL_move_12 : decode cL_move 12 = .ok (.goto 15, 3) := by decide +kernel
theorem dL_move_15 : decode cL_move 15 = .ok (.astore 5, 2) := by decide +kernel
theorem dL_move_17 : decode cL_move 17 = .ok (.iconst 1, 1) := by decide +kernel
theorem dL_move_18 : decode cL_move 18 = .ok (.ireturn, 1) := by decide +kernel
theorem dL_move_19 : decode cL_move 19 = .ok (.astore 5, 2) := by decide +kernel
theorem dL_move_21 : decode cL_move 21 = .ok (.iconst 2, 1) := by decide +kernel
theorem dL_move_22 : decode cL_move 22 = .ok (.ireturn, 1) := by decide +kernel
theorem dL_move_23 : decode cL_move 23 = .ok (.astore 5, 2) := by decide +kernel
theorem dL_move_25 : decode cL_move 25 = .ok (.iconst 3, 1) := by decide +kernel
theorem dL_move_26 : decode cL_move 26 = .ok (.ireturn, 1) := by decide +kernel
theorem dL_move_27 : decode cL_move 27 = .ok (.iconst 0, 1) := by decide +kernel
theorem dL_move_28 : decode cL_move 28 = .ok (.ireturn, 1) := by decide +kernel
set_option maxRecDepth 100000 in
set_option maxHeartbeats 4000000 in
theorem H_move (l : Launch) (hst : l.stackTraces = false) (E : gE) (x : gX) {v1 v2 v3 : Int32} {M : gM} {oc : String ⊕ Int32} {M1 : gM} {z : Int32} {b : Int32} (hf : f_X6_move v1 v2 v3 M = some (oc, M1)) (ha : gAns ["java/lang/IndexOutOfBoundsException", "java/lang/IllegalArgumentException", "java/lang/IllegalStateException"] oc z b) : gH0 l E yL_move (.codeWith yL_move cL_move 6 (some .int) [(0, 12, 15, 13), (0, 12, 19, 15), (0, 12, 23, 17)]) (gRX 8 147 1 6) M x [.ref (E.2.1 132), .int v1, .int v2, .int v3, .ref (E.2.1 159)] z M1 (gXo x z b.toInt64) 1 6 := by
  refine gMetH (by decide +kernel) (Nat.le_of_ble_eq_true rfl) ?_
  intro p e s m args below meth c H locs ls Q hC hN hT hl hI kr
  replace hC : gC p s m args c cL_move 6 RL E := hC
  replace hl : lv_has ls 6 [(0, .ref (E.2.1 132)), (1, .int v1), (2, .int v2), (3, .int v3), (4, .ref (E.2.1 159))] := hl
  have hx := hC.1
  have hb := hC.2.1
  refine lv_aload hx hb dL_move_0 (lv_at hl 4 rfl) ?_
  refine lv_iconst (v := 0) hx hb dL_move_2 (by decide) ?_
  refine lv_aload_n hx hb dL_move_3 rfl (lv_at hl 0 rfl) ?_
  refine lv_iload_n hx hb dL_move_4 rfl (lv_at hl 1 rfl) ?_
  refine lv_iload_n hx hb dL_move_5 rfl (lv_at hl 2 rfl) ?_
  refine lv_iload_n hx hb dL_move_6 rfl (lv_at hl 3 rfl) ?_
  have hm := C_X6_move l hst E x hf
  rcases ha with ⟨e1, e2⟩ | ⟨i, En, hi, e1, e2⟩
  · subst e1 e2
    refine g_xV hC hI hm Y_X6_move V_X6_move w666 (rcv_X6 hC hI) ⟨rfl, rfl⟩ ⟨Nat.le_of_ble_eq_true rfl, Nat.le_of_ble_eq_true rfl⟩ rfl hl.1 rfl (Nat.le_of_ble_eq_true rfl) dL_move_7 ⟨Nat.le_of_ble_eq_true rfl, Nat.le_of_ble_eq_true rfl⟩ (fun rv H locs ho hI => ?_) (fun En ce q H locs ho => nomatch ho)
    cases ho
    refine lv_i2l (v := b.toInt64) hx hb dL_move_10 rfl ?_
    refine g_lastX hC hI dL_move_11 (fun H locs hI => ?_)
    refine lv_goto (tgt := 27) hx hb dL_move_12 rfl ?_
    refine lv_iconst (v := 0) hx hb dL_move_27 (by decide) ?_
    exact kr _ _ _ _ _ _ _ _ nI_0.symm (by rw [gXo_0]) hI ⟨Nat.le_of_ble_eq_true rfl, Nat.le_of_ble_eq_true rfl⟩ dL_move_28
  · subst e1 e2
    refine g_xV hC hI hm Y_X6_move V_X6_move w666 (rcv_X6 hC hI) ⟨rfl, rfl⟩ ⟨Nat.le_of_ble_eq_true rfl, Nat.le_of_ble_eq_true rfl⟩ rfl hl.1 rfl (Nat.le_of_ble_eq_true rfl) dL_move_7 ⟨Nat.le_of_ble_eq_true rfl, Nat.le_of_ble_eq_true rfl⟩ (fun rv H locs ho => nomatch ho) (fun En2 ce q H locs ho hI hce hcv hcl => ?_)
    cases ho
    match i, hi with
    | 0, hi =>
      cases hi
      refine g_catch hC hT [] ⟨0, 12, 15, 13⟩ [⟨0, 12, 19, 15⟩, ⟨0, 12, 23, 17⟩] rfl (fun _ h => absurd h List.not_mem_nil) (by decide) (by decide) w442 (by decide +kernel) hce hcv hcl ?_
      refine lv_astore (lv' := [(5, .ref q), (0, .ref (E.2.1 132)), (1, .int v1), (2, .int v2), (3, .int v3), (4, .ref (E.2.1 159))]) hx hb dL_move_15 hl (by decide) rfl (fun ls hl => ?_)
      refine lv_iconst (v := 1) hx hb dL_move_17 (by decide) ?_
      exact kr _ _ _ _ _ _ _ _ rfl (by rw [gXo_n x (by decide)]) hI ⟨Nat.le_of_ble_eq_true rfl, Nat.le_of_ble_eq_true rfl⟩ dL_move_18
    | 1, hi =>
      cases hi
      refine g_catch hC hT [⟨0, 12, 15, 13⟩] ⟨0, 12, 19, 15⟩ [⟨0, 12, 23, 17⟩] rfl (List.forall_mem_cons.mpr ⟨⟨by decide, _, w442, hN ("java/lang/IllegalArgumentException", "java/lang/IndexOutOfBoundsException") (by decide +kernel)⟩, (fun _ h => absurd h List.not_mem_nil)⟩) (by decide) (by decide) w521 (by decide +kernel) hce hcv hcl ?_
      refine lv_astore (lv' := [(5, .ref q), (0, .ref (E.2.1 132)), (1, .int v1), (2, .int v2), (3, .int v3), (4, .ref (E.2.1 159))]) hx hb dL_move_19 hl (by decide) rfl (fun ls hl => ?_)
      refine lv_iconst (v := 2) hx hb dL_move_21 (by decide) ?_
      exact kr _ _ _ _ _ _ _ _ rfl (by rw [gXo_n x (by decide)]) hI ⟨Nat.le_of_ble_eq_true rfl, Nat.le_of_ble_eq_true rfl⟩ dL_move_22
    | 2, hi =>
      cases hi
      refine g_catch hC hT [⟨0, 12, 15, 13⟩, ⟨0, 12, 19, 15⟩] ⟨0, 12, 23, 17⟩ [] rfl (List.forall_mem_cons.mpr ⟨⟨by decide, _, w442, hN ("java/lang/IllegalStateException", "java/lang/IndexOutOfBoundsException") (by decide +kernel)⟩, (List.forall_mem_cons.mpr ⟨⟨by decide, _, w521, hN ("java/lang/IllegalStateException", "java/lang/IllegalArgumentException") (by decide +kernel)⟩, (fun _ h => absurd h List.not_mem_nil)⟩)⟩) (by decide) (by decide) w522 (by decide +kernel) hce hcv hcl ?_
      refine lv_astore (lv' := [(5, .ref q), (0, .ref (E.2.1 132)), (1, .int v1), (2, .int v2), (3, .int v3), (4, .ref (E.2.1 159))]) hx hb dL_move_23 hl (by decide) rfl (fun ls hl => ?_)
      refine lv_iconst (v := 3) hx hb dL_move_25 (by decide) ?_
      exact kr _ _ _ _ _ _ _ _ rfl (by rw [gXo_n x (by decide)]) hI ⟨Nat.le_of_ble_eq_true rfl, Nat.le_of_ble_eq_true rfl⟩ dL_move_26
    | k + 3, hi => cases hi
theorem dL_deliver_0 : decode cL_deliver 0 = .ok (.aload_n 2, 1) := by decide +kernel
theorem dL_deliver_1 : decode cL_deliver 1 = .ok (.iconst 0, 1) := by decide +kernel
theorem dL_deliver_2 : decode cL_deliver 2 = .ok (.aload_n 0, 1) := by decide +kernel
theorem dL_deliver_3 : decode cL_deliver 3 = .ok (.iload_n 1, 1) := by decide +kernel
theorem dL_deliver_4 : decode cL_deliver 4 = .ok (.invokevirtual 30, 3) := by decide +kernel
theorem dL_deliver_7 : decode cL_deliver 7 = .ok (.i2l, 1) := by decide +kernel
theorem dL_deliver_8 : decode cL_deliver 8 = .ok (.lastore, 1) := by decide +kernel
theorem dL_deliver_9 : decode cL_deliver 9 = .ok (.goto 6, 3) := by decide +kernel
theorem dL_deliver_12 : decode cL_deliver 12 = .ok (.astore_n 3, 1) := by decide +kernel
theorem dL_deliver_13 : decode cL_deliver 13 = .ok (.iconst 1, 1) := by decide +kernel
theorem dL_deliver_14 : decode cL_deliver 14 = .ok (.ireturn, 1) := by decide +kernel
theorem dL_deliver_15 : decode cL_deliver 15 = .ok (.iconst 0, 1) := by decide +kernel
theorem dL_deliver_16 : decode cL_deliver 16 = .ok (.ireturn, 1) := by decide +kernel
set_option maxRecDepth 100000 in
set_option maxHeartbeats 4000000 in
theorem H_deliver (l : Launch) (hst : l.stackTraces = false) (E : gE) (x : gX) {v1 : Int32} {M : gM} {oc : String ⊕ Int32} {M1 : gM} {z : Int32} {b : Int32} (hf : f_X6_deliver v1 M = some (oc, M1)) (ha : gAns ["java/util/NoSuchElementException"] oc z b) : gH0 l E yL_deliver (.codeWith yL_deliver cL_deliver 4 (some .int) [(0, 9, 12, 34)]) (gRX 8 145 1 6) M x [.ref (E.2.1 132), .int v1, .ref (E.2.1 159)] z M1 (gXo x z b.toInt64) 1 6 := by
  refine gMetH (by decide +kernel) (Nat.le_of_ble_eq_true rfl) ?_
  intro p e s m args below meth c H locs ls Q hC hN hT hl hI kr
  replace hC : gC p s m args c cL_deliver 4 RL E := hC
  replace hl : lv_has ls 4 [(0, .ref (E.2.1 132)), (1, .int v1), (2, .ref (E.2.1 159))] := hl
  have hx := hC.1
  have hb := hC.2.1
  refine lv_aload_n hx hb dL_deliver_0 rfl (lv_at hl 2 rfl) ?_
  refine lv_iconst (v := 0) hx hb dL_deliver_1 (by decide) ?_
  refine lv_aload_n hx hb dL_deliver_2 rfl (lv_at hl 0 rfl) ?_
  refine lv_iload_n hx hb dL_deliver_3 rfl (lv_at hl 1 rfl) ?_
  have hm := C_X6_deliver l hst E x hf
  rcases ha with ⟨e1, e2⟩ | ⟨i, En, hi, e1, e2⟩
  · subst e1 e2
    refine g_xV hC hI hm Y_X6_deliver V_X6_deliver w683 (rcv_X6 hC hI) ⟨rfl, rfl⟩ ⟨Nat.le_of_ble_eq_true rfl, Nat.le_of_ble_eq_true rfl⟩ rfl hl.1 rfl (Nat.le_of_ble_eq_true rfl) dL_deliver_4 ⟨Nat.le_of_ble_eq_true rfl, Nat.le_of_ble_eq_true rfl⟩ (fun rv H locs ho hI => ?_) (fun En ce q H locs ho => nomatch ho)
    cases ho
    refine lv_i2l (v := b.toInt64) hx hb dL_deliver_7 rfl ?_
    refine g_lastX hC hI dL_deliver_8 (fun H locs hI => ?_)
    refine lv_goto (tgt := 15) hx hb dL_deliver_9 rfl ?_
    refine lv_iconst (v := 0) hx hb dL_deliver_15 (by decide) ?_
    exact kr _ _ _ _ _ _ _ _ nI_0.symm (by rw [gXo_0]) hI ⟨Nat.le_of_ble_eq_true rfl, Nat.le_of_ble_eq_true rfl⟩ dL_deliver_16
  · subst e1 e2
    refine g_xV hC hI hm Y_X6_deliver V_X6_deliver w683 (rcv_X6 hC hI) ⟨rfl, rfl⟩ ⟨Nat.le_of_ble_eq_true rfl, Nat.le_of_ble_eq_true rfl⟩ rfl hl.1 rfl (Nat.le_of_ble_eq_true rfl) dL_deliver_4 ⟨Nat.le_of_ble_eq_true rfl, Nat.le_of_ble_eq_true rfl⟩ (fun rv H locs ho => nomatch ho) (fun En2 ce q H locs ho hI hce hcv hcl => ?_)
    cases ho
    match i, hi with
    | 0, hi =>
      cases hi
      refine g_catch hC hT [] ⟨0, 9, 12, 34⟩ [] rfl (fun _ h => absurd h List.not_mem_nil) (by decide) (by decide) w682 (by decide +kernel) hce hcv hcl ?_
      refine lv_astore_n (lv' := [(3, .ref q), (0, .ref (E.2.1 132)), (1, .int v1), (2, .ref (E.2.1 159))]) hx hb dL_deliver_12 rfl hl (by decide) rfl (fun ls hl => ?_)
      refine lv_iconst (v := 1) hx hb dL_deliver_13 (by decide) ?_
      exact kr _ _ _ _ _ _ _ _ rfl (by rw [gXo_n x (by decide)]) hI ⟨Nat.le_of_ble_eq_true rfl, Nat.le_of_ble_eq_true rfl⟩ dL_deliver_14
    | k + 1, hi => cases hi
theorem dL_leave_0 : decode cL_leave 0 = .ok (.aload_n 2, 1) := by decide +kernel
theorem dL_leave_1 : decode cL_leave 1 = .ok (.iconst 0, 1) := by decide +kernel
theorem dL_leave_2 : decode cL_leave 2 = .ok (.aload_n 0, 1) := by decide +kernel
theorem dL_leave_3 : decode cL_leave 3 = .ok (.iload_n 1, 1) := by decide +kernel
theorem dL_leave_4 : decode cL_leave 4 = .ok (.invokevirtual 36, 3) := by decide +kernel
theorem dL_leave_7 : decode cL_leave 7 = .ok (.i2l, 1) := by decide +kernel
theorem dL_leave_8 : decode cL_leave 8 = .ok (.lastore, 1) := by decide +kernel
theorem dL_leave_9 : decode cL_leave 9 = .ok (.goto 9, 3) := by decide +kernel
theorem dL_leave_12 : decode cL_leave 12 = .ok (.astore_n 3, 1) := by decide +kernel
theorem dL_leave_13 : decode cL_leave 13 = .ok (.iconst 1, 1) := by decide +kernel
theorem dL_leave_14 : decode cL_leave 14 = .ok (.ireturn, 1) := by decide +kernel
theorem dL_leave_15 : decode cL_leave 15 = .ok (.astore_n 3, 1) := by decide +kernel
theorem dL_leave_16 : decode cL_leave 16 = .ok (.iconst 2, 1) := by decide +kernel
theorem dL_leave_17 : decode cL_leave 17 = .ok (.ireturn, 1) := by decide +kernel
theorem dL_leave_18 : decode cL_leave 18 = .ok (.iconst 0, 1) := by decide +kernel
theorem dL_leave_19 : decode cL_leave 19 = .ok (.ireturn, 1) := by decide +kernel
set_option maxRecDepth 100000 in
set_option maxHeartbeats 4000000 in
theorem H_leave (l : Launch) (hst : l.stackTraces = false) (E : gE) (x : gX) {v1 : Int32} {M : gM} {oc : String ⊕ Int32} {M1 : gM} {z : Int32} {b : Int32} (hf : f_X6_leave v1 M = some (oc, M1)) (ha : gAns ["java/lang/IndexOutOfBoundsException", "java/lang/IllegalStateException"] oc z b) : gH0 l E yL_leave (.codeWith yL_leave cL_leave 4 (some .int) [(0, 9, 12, 13), (0, 9, 15, 17)]) (gRX 8 145 1 6) M x [.ref (E.2.1 132), .int v1, .ref (E.2.1 159)] z M1 (gXo x z b.toInt64) 1 6 := by
  refine gMetH (by decide +kernel) (Nat.le_of_ble_eq_true rfl) ?_
  intro p e s m args below meth c H locs ls Q hC hN hT hl hI kr
  replace hC : gC p s m args c cL_leave 4 RL E := hC
  replace hl : lv_has ls 4 [(0, .ref (E.2.1 132)), (1, .int v1), (2, .ref (E.2.1 159))] := hl
  have hx := hC.1
  have hb := hC.2.1
  refine lv_aload_n hx hb dL_leave_0 rfl (lv_at hl 2 rfl) ?_
  refine lv_iconst (v := 0) hx hb dL_leave_1 (by decide) ?_
  refine lv_aload_n hx hb dL_leave_2 rfl (lv_at hl 0 rfl) ?_
  refine lv_iload_n hx hb dL_leave_3 rfl (lv_at hl 1 rfl) ?_
  have hm := C_X6_leave l hst E x hf
  rcases ha with ⟨e1, e2⟩ | ⟨i, En, hi, e1, e2⟩
  · subst e1 e2
    refine g_xV hC hI hm Y_X6_leave V_X6_leave w711 (rcv_X6 hC hI) ⟨rfl, rfl⟩ ⟨Nat.le_of_ble_eq_true rfl, Nat.le_of_ble_eq_true rfl⟩ rfl hl.1 rfl (Nat.le_of_ble_eq_true rfl) dL_leave_4 ⟨Nat.le_of_ble_eq_true rfl, Nat.le_of_ble_eq_true rfl⟩ (fun rv H locs ho hI => ?_) (fun En ce q H locs ho => nomatch ho)
    cases ho
    refine lv_i2l (v := b.toInt64) hx hb dL_leave_7 rfl ?_
    refine g_lastX hC hI dL_leave_8 (fun H locs hI => ?_)
    refine lv_goto (tgt := 18) hx hb dL_leave_9 rfl ?_
    refine lv_iconst (v := 0) hx hb dL_leave_18 (by decide) ?_
    exact kr _ _ _ _ _ _ _ _ nI_0.symm (by rw [gXo_0]) hI ⟨Nat.le_of_ble_eq_true rfl, Nat.le_of_ble_eq_true rfl⟩ dL_leave_19
  · subst e1 e2
    refine g_xV hC hI hm Y_X6_leave V_X6_leave w711 (rcv_X6 hC hI) ⟨rfl, rfl⟩ ⟨Nat.le_of_ble_eq_true rfl, Nat.le_of_ble_eq_true rfl⟩ rfl hl.1 rfl (Nat.le_of_ble_eq_true rfl) dL_leave_4 ⟨Nat.le_of_ble_eq_true rfl, Nat.le_of_ble_eq_true rfl⟩ (fun rv H locs ho => nomatch ho) (fun En2 ce q H locs ho hI hce hcv hcl => ?_)
    cases ho
    match i, hi with
    | 0, hi =>
      cases hi
      refine g_catch hC hT [] ⟨0, 9, 12, 13⟩ [⟨0, 9, 15, 17⟩] rfl (fun _ h => absurd h List.not_mem_nil) (by decide) (by decide) w442 (by decide +kernel) hce hcv hcl ?_
      refine lv_astore_n (lv' := [(3, .ref q), (0, .ref (E.2.1 132)), (1, .int v1), (2, .ref (E.2.1 159))]) hx hb dL_leave_12 rfl hl (by decide) rfl (fun ls hl => ?_)
      refine lv_iconst (v := 1) hx hb dL_leave_13 (by decide) ?_
      exact kr _ _ _ _ _ _ _ _ rfl (by rw [gXo_n x (by decide)]) hI ⟨Nat.le_of_ble_eq_true rfl, Nat.le_of_ble_eq_true rfl⟩ dL_leave_14
    | 1, hi =>
      cases hi
      refine g_catch hC hT [⟨0, 9, 12, 13⟩] ⟨0, 9, 15, 17⟩ [] rfl (List.forall_mem_cons.mpr ⟨⟨by decide, _, w442, hN ("java/lang/IllegalStateException", "java/lang/IndexOutOfBoundsException") (by decide +kernel)⟩, (fun _ h => absurd h List.not_mem_nil)⟩) (by decide) (by decide) w522 (by decide +kernel) hce hcv hcl ?_
      refine lv_astore_n (lv' := [(3, .ref q), (0, .ref (E.2.1 132)), (1, .int v1), (2, .ref (E.2.1 159))]) hx hb dL_leave_15 rfl hl (by decide) rfl (fun ls hl => ?_)
      refine lv_iconst (v := 2) hx hb dL_leave_16 (by decide) ?_
      exact kr _ _ _ _ _ _ _ _ rfl (by rw [gXo_n x (by decide)]) hI ⟨Nat.le_of_ble_eq_true rfl, Nat.le_of_ble_eq_true rfl⟩ dL_leave_17
    | k + 2, hi => cases hi
theorem dL_pass_0 : decode cL_pass 0 = .ok (.aload_n 2, 1) := by decide +kernel
theorem dL_pass_1 : decode cL_pass 1 = .ok (.iconst 0, 1) := by decide +kernel
theorem dL_pass_2 : decode cL_pass 2 = .ok (.aload_n 0, 1) := by decide +kernel
theorem dL_pass_3 : decode cL_pass 3 = .ok (.iload_n 1, 1) := by decide +kernel
theorem dL_pass_4 : decode cL_pass 4 = .ok (.invokevirtual 39, 3) := by decide +kernel
theorem dL_pass_7 : decode cL_pass 7 = .ok (.i2l, 1) := by decide +kernel
theorem dL_pass_8 : decode cL_pass 8 = .ok (.lastore, 1) := by decide +kernel
theorem dL_pass_9 : decode cL_pass 9 = .ok (.goto 6, 3) := by decide +kernel
theorem dL_pass_12 : decode cL_pass 12 = .ok (.astore_n 3, 1) := by decide +kernel
theorem dL_pass_13 : decode cL_pass 13 = .ok (.iconst 1, 1) := by decide +kernel
theorem dL_pass_14 : decode cL_pass 14 = .ok (.ireturn, 1) := by decide +kernel
theorem dL_pass_15 : decode cL_pass 15 = .ok (.iconst 0, 1) := by decide +kernel
theorem dL_pass_16 : decode cL_pass 16 = .ok (.ireturn, 1) := by decide +kernel
set_option maxRecDepth 100000 in
set_option maxHeartbeats 4000000 in
theorem H_pass (l : Launch) (hst : l.stackTraces = false) (E : gE) (x : gX) {v1 : Int32} {M : gM} {oc : String ⊕ Int32} {M1 : gM} {z : Int32} {b : Int32} (hf : f_X6_pass v1 M = some (oc, M1)) (ha : gAns ["java/lang/IllegalArgumentException"] oc z b) : gH0 l E yL_pass (.codeWith yL_pass cL_pass 4 (some .int) [(0, 9, 12, 15)]) (gRX 8 145 1 6) M x [.ref (E.2.1 132), .int v1, .ref (E.2.1 159)] z M1 (gXo x z b.toInt64) 1 6 := by
  refine gMetH (by decide +kernel) (Nat.le_of_ble_eq_true rfl) ?_
  intro p e s m args below meth c H locs ls Q hC hN hT hl hI kr
  replace hC : gC p s m args c cL_pass 4 RL E := hC
  replace hl : lv_has ls 4 [(0, .ref (E.2.1 132)), (1, .int v1), (2, .ref (E.2.1 159))] := hl
  have hx := hC.1
  have hb := hC.2.1
  refine lv_aload_n hx hb dL_pass_0 rfl (lv_at hl 2 rfl) ?_
  refine lv_iconst (v := 0) hx hb dL_pass_1 (by decide) ?_
  refine lv_aload_n hx hb dL_pass_2 rfl (lv_at hl 0 rfl) ?_
  refine lv_iload_n hx hb dL_pass_3 rfl (lv_at hl 1 rfl) ?_
  have hm := C_X6_pass l hst E x hf
  rcases ha with ⟨e1, e2⟩ | ⟨i, En, hi, e1, e2⟩
  · subst e1 e2
    refine g_xV hC hI hm Y_X6_pass V_X6_pass w730 (rcv_X6 hC hI) ⟨rfl, rfl⟩ ⟨Nat.le_of_ble_eq_true rfl, Nat.le_of_ble_eq_true rfl⟩ rfl hl.1 rfl (Nat.le_of_ble_eq_true rfl) dL_pass_4 ⟨Nat.le_of_ble_eq_true rfl, Nat.le_of_ble_eq_true rfl⟩ (fun rv H locs ho hI => ?_) (fun En ce q H locs ho => nomatch ho)
    cases ho
    refine lv_i2l (v := b.toInt64) hx hb dL_pass_7 rfl ?_
    refine g_lastX hC hI dL_pass_8 (fun H locs hI => ?_)
    refine lv_goto (tgt := 15) hx hb dL_pass_9 rfl ?_
    refine lv_iconst (v := 0) hx hb dL_pass_15 (by decide) ?_
    exact kr _ _ _ _ _ _ _ _ nI_0.symm (by rw [gXo_0]) hI ⟨Nat.le_of_ble_eq_true rfl, Nat.le_of_ble_eq_true rfl⟩ dL_pass_16
  · subst e1 e2
    refine g_xV hC hI hm Y_X6_pass V_X6_pass w730 (rcv_X6 hC hI) ⟨rfl, rfl⟩ ⟨Nat.le_of_ble_eq_true rfl, Nat.le_of_ble_eq_true rfl⟩ rfl hl.1 rfl (Nat.le_of_ble_eq_true rfl) dL_pass_4 ⟨Nat.le_of_ble_eq_true rfl, Nat.le_of_ble_eq_true rfl⟩ (fun rv H locs ho => nomatch ho) (fun En2 ce q H locs ho hI hce hcv hcl => ?_)
    cases ho
    match i, hi with
    | 0, hi =>
      cases hi
      refine g_catch hC hT [] ⟨0, 9, 12, 15⟩ [] rfl (fun _ h => absurd h List.not_mem_nil) (by decide) (by decide) w521 (by decide +kernel) hce hcv hcl ?_
      refine lv_astore_n (lv' := [(3, .ref q), (0, .ref (E.2.1 132)), (1, .int v1), (2, .ref (E.2.1 159))]) hx hb dL_pass_12 rfl hl (by decide) rfl (fun ls hl => ?_)
      refine lv_iconst (v := 1) hx hb dL_pass_13 (by decide) ?_
      exact kr _ _ _ _ _ _ _ _ rfl (by rw [gXo_n x (by decide)]) hI ⟨Nat.le_of_ble_eq_true rfl, Nat.le_of_ble_eq_true rfl⟩ dL_pass_14
    | k + 1, hi => cases hi
theorem dL_isMoored_0 : decode cL_isMoored 0 = .ok (.aload_n 2, 1) := by decide +kernel
theorem dL_isMoored_1 : decode cL_isMoored 1 = .ok (.iconst 0, 1) := by decide +kernel
theorem dL_isMoored_2 : decode cL_isMoored 2 = .ok (.aload_n 0, 1) := by decide +kernel
theorem dL_isMoored_3 : decode cL_isMoored 3 = .ok (.iload_n 1, 1) := by decide +kernel
theorem dL_isMoored_4 : decode cL_isMoored 4 = .ok (.invokevirtual 42, 3) := by decide +kernel
theorem dL_isMoored_7 : decode cL_isMoored 7 = .ok (.ifCond .eq 7, 3) := by decide +kernel
theorem dL_isMoored_10 : decode cL_isMoored 10 = .ok (.lconst 1, 1) := by decide +kernel
theorem dL_isMoored_11 : decode cL_isMoored 11 = .ok (.goto 4, 3) := by decide +kernel
theorem dL_isMoored_14 : decode cL_isMoored 14 = .ok (.lconst 0, 1) := by decide +kernel
theorem dL_isMoored_15 : decode cL_isMoored 15 = .ok (.lastore, 1) := by decide +kernel
theorem dL_isMoored_16 : decode cL_isMoored 16 = .ok (.goto 6, 3) := by decide +kernel
theorem dL_isMoored_19 : decode cL_isMoored 19 = .ok (.astore_n 3, 1) := by decide +kernel
theorem dL_isMoored_20 : decode cL_isMoored 20 = .ok (.iconst 1, 1) := by decide +kernel
theorem dL_isMoored_21 : decode cL_isMoored 21 = .ok (.ireturn, 1) := by decide +kernel
theorem dL_isMoored_22 : decode cL_isMoored 22 = .ok (.iconst 0, 1) := by decide +kernel
theorem dL_isMoored_23 : decode cL_isMoored 23 = .ok (.ireturn, 1) := by decide +kernel
set_option maxRecDepth 100000 in
set_option maxHeartbeats 4000000 in
theorem H_isMoored (l : Launch) (hst : l.stackTraces = false) (E : gE) (x : gX) {v1 : Int32} {M : gM} {oc : String ⊕ Bool} {M1 : gM} {z : Int32} {b : Bool} (hf : f_X6_isMoored v1 M = some (oc, M1)) (ha : gAns ["java/lang/IndexOutOfBoundsException"] oc z b) : gH0 l E yL_isMoored (.codeWith yL_isMoored cL_isMoored 4 (some .int) [(0, 16, 19, 13)]) (gRX 9 151 1 6) M x [.ref (E.2.1 132), .int v1, .ref (E.2.1 159)] z M1 (gXo x z (if b then 1 else 0)) 1 6 := by
  refine gMetH (by decide +kernel) (Nat.le_of_ble_eq_true rfl) ?_
  intro p e s m args below meth c H locs ls Q hC hN hT hl hI kr
  replace hC : gC p s m args c cL_isMoored 4 RL E := hC
  replace hl : lv_has ls 4 [(0, .ref (E.2.1 132)), (1, .int v1), (2, .ref (E.2.1 159))] := hl
  have hx := hC.1
  have hb := hC.2.1
  refine lv_aload_n hx hb dL_isMoored_0 rfl (lv_at hl 2 rfl) ?_
  refine lv_iconst (v := 0) hx hb dL_isMoored_1 (by decide) ?_
  refine lv_aload_n hx hb dL_isMoored_2 rfl (lv_at hl 0 rfl) ?_
  refine lv_iload_n hx hb dL_isMoored_3 rfl (lv_at hl 1 rfl) ?_
  have hm := C_X6_isMoored l hst E x hf
  rcases ha with ⟨e1, e2⟩ | ⟨i, En, hi, e1, e2⟩
  · subst e1 e2
    refine g_xV hC hI hm Y_X6_isMoored V_X6_isMoored w748 (rcv_X6 hC hI) ⟨rfl, rfl⟩ ⟨Nat.le_of_ble_eq_true rfl, Nat.le_of_ble_eq_true rfl⟩ rfl hl.1 rfl (Nat.le_of_ble_eq_true rfl) dL_isMoored_4 ⟨Nat.le_of_ble_eq_true rfl, Nat.le_of_ble_eq_true rfl⟩ (fun rv H locs ho hI => ?_) (fun En ce q H locs ho => nomatch ho)
    cases ho
    cases b
    · refine lv_if_eq (tgt := 14) hx hb dL_isMoored_7 rfl (fun h1 => ?_) (fun h1 => absurd rfl h1)
      refine lv_lconst (v := 0) hx hb dL_isMoored_14 rfl ?_
      refine g_lastX hC hI dL_isMoored_15 (fun H locs hI => ?_)
      refine lv_goto (tgt := 22) hx hb dL_isMoored_16 rfl ?_
      refine lv_iconst (v := 0) hx hb dL_isMoored_22 (by decide) ?_
      exact kr _ _ _ _ _ _ _ _ nI_0.symm (by rw [gXo_0]; rfl) hI ⟨Nat.le_of_ble_eq_true rfl, Nat.le_of_ble_eq_true rfl⟩ dL_isMoored_23
    · refine lv_if_eq (tgt := 14) hx hb dL_isMoored_7 rfl (fun h1 => absurd h1 (by decide)) (fun h1 => ?_)
      refine lv_lconst (v := 1) hx hb dL_isMoored_10 rfl ?_
      refine lv_goto (tgt := 15) hx hb dL_isMoored_11 rfl ?_
      refine g_lastX hC hI dL_isMoored_15 (fun H locs hI => ?_)
      refine lv_goto (tgt := 22) hx hb dL_isMoored_16 rfl ?_
      refine lv_iconst (v := 0) hx hb dL_isMoored_22 (by decide) ?_
      exact kr _ _ _ _ _ _ _ _ nI_0.symm (by rw [gXo_0]; rfl) hI ⟨Nat.le_of_ble_eq_true rfl, Nat.le_of_ble_eq_true rfl⟩ dL_isMoored_23
  · subst e1 e2
    refine g_xV hC hI hm Y_X6_isMoored V_X6_isMoored w748 (rcv_X6 hC hI) ⟨rfl, rfl⟩ ⟨Nat.le_of_ble_eq_true rfl, Nat.le_of_ble_eq_true rfl⟩ rfl hl.1 rfl (Nat.le_of_ble_eq_true rfl) dL_isMoored_4 ⟨Nat.le_of_ble_eq_true rfl, Nat.le_of_ble_eq_true rfl⟩ (fun rv H locs ho => nomatch ho) (fun En2 ce q H locs ho hI hce hcv hcl => ?_)
    cases ho
    match i, hi with
    | 0, hi =>
      cases hi
      refine g_catch hC hT [] ⟨0, 16, 19, 13⟩ [] rfl (fun _ h => absurd h List.not_mem_nil) (by decide) (by decide) w442 (by decide +kernel) hce hcv hcl ?_
      refine lv_astore_n (lv' := [(3, .ref q), (0, .ref (E.2.1 132)), (1, .int v1), (2, .ref (E.2.1 159))]) hx hb dL_isMoored_19 rfl hl (by decide) rfl (fun ls hl => ?_)
      refine lv_iconst (v := 1) hx hb dL_isMoored_20 (by decide) ?_
      exact kr _ _ _ _ _ _ _ _ rfl (by rw [gXo_n x (by decide)]) hI ⟨Nat.le_of_ble_eq_true rfl, Nat.le_of_ble_eq_true rfl⟩ dL_isMoored_21
    | k + 1, hi => cases hi
theorem dL_draught_0 : decode cL_draught 0 = .ok (.aload_n 2, 1) := by decide +kernel
theorem dL_draught_1 : decode cL_draught 1 = .ok (.iconst 0, 1) := by decide +kernel
theorem dL_draught_2 : decode cL_draught 2 = .ok (.aload_n 0, 1) := by decide +kernel
theorem dL_draught_3 : decode cL_draught 3 = .ok (.iload_n 1, 1) := by decide +kernel
theorem dL_draught_4 : decode cL_draught 4 = .ok (.invokevirtual 46, 3) := by decide +kernel
theorem dL_draught_7 : decode cL_draught 7 = .ok (.i2l, 1) := by decide +kernel
theorem dL_draught_8 : decode cL_draught 8 = .ok (.lastore, 1) := by decide +kernel
theorem dL_draught_9 : decode cL_draught 9 = .ok (.goto 9, 3) := by decide +kernel
theorem dL_draught_12 : decode cL_draught 12 = .ok (.astore_n 3, 1) := by decide +kernel
theorem dL_draught_13 : decode cL_draught 13 = .ok (.iconst 1, 1) := by decide +kernel
theorem dL_draught_14 : decode cL_draught 14 = .ok (.ireturn, 1) := by decide +kernel
theorem dL_draught_15 : decode cL_draught 15 = .ok (.astore_n 3, 1) := by decide +kernel
theorem dL_draught_16 : decode cL_draught 16 = .ok (.iconst 2, 1) := by decide +kernel
theorem dL_draught_17 : decode cL_draught 17 = .ok (.ireturn, 1) := by decide +kernel
theorem dL_draught_18 : decode cL_draught 18 = .ok (.iconst 0, 1) := by decide +kernel
theorem dL_draught_19 : decode cL_draught 19 = .ok (.ireturn, 1) := by decide +kernel
set_option maxRecDepth 100000 in
set_option maxHeartbeats 4000000 in
theorem H_draught (l : Launch) (hst : l.stackTraces = false) (E : gE) (x : gX) {v1 : Int32} {M : gM} {oc : String ⊕ Int32} {M1 : gM} {z : Int32} {b : Int32} (hf : f_X6_draught v1 M = some (oc, M1)) (ha : gAns ["java/lang/IndexOutOfBoundsException", "java/util/NoSuchElementException"] oc z b) : gH0 l E yL_draught (.codeWith yL_draught cL_draught 4 (some .int) [(0, 9, 12, 13), (0, 9, 15, 34)]) (gRX 10 172 2 12) M x [.ref (E.2.1 132), .int v1, .ref (E.2.1 159)] z M1 (gXo x z b.toInt64) 2 12 := by
  refine gMetH (by decide +kernel) (Nat.le_of_ble_eq_true rfl) ?_
  intro p e s m args below meth c H locs ls Q hC hN hT hl hI kr
  replace hC : gC p s m args c cL_draught 4 RL E := hC
  replace hl : lv_has ls 4 [(0, .ref (E.2.1 132)), (1, .int v1), (2, .ref (E.2.1 159))] := hl
  have hx := hC.1
  have hb := hC.2.1
  refine lv_aload_n hx hb dL_draught_0 rfl (lv_at hl 2 rfl) ?_
  refine lv_iconst (v := 0) hx hb dL_draught_1 (by decide) ?_
  refine lv_aload_n hx hb dL_draught_2 rfl (lv_at hl 0 rfl) ?_
  refine lv_iload_n hx hb dL_draught_3 rfl (lv_at hl 1 rfl) ?_
  have hm := C_X6_draught l hst E x hf
  rcases ha with ⟨e1, e2⟩ | ⟨i, En, hi, e1, e2⟩
  · subst e1 e2
    refine g_xV hC hI hm Y_X6_draught V_X6_draught w760 (rcv_X6 hC hI) ⟨rfl, rfl⟩ ⟨Nat.le_of_ble_eq_true rfl, Nat.le_of_ble_eq_true rfl⟩ rfl hl.1 rfl (Nat.le_of_ble_eq_true rfl) dL_draught_4 ⟨Nat.le_of_ble_eq_true rfl, Nat.le_of_ble_eq_true rfl⟩ (fun rv H locs ho hI => ?_) (fun En ce q H locs ho => nomatch ho)
    cases ho
    refine lv_i2l (v := b.toInt64) hx hb dL_draught_7 rfl ?_
    refine g_lastX hC hI dL_draught_8 (fun H locs hI => ?_)
    refine lv_goto (tgt := 18) hx hb dL_draught_9 rfl ?_
    refine lv_iconst (v := 0) hx hb dL_draught_18 (by decide) ?_
    exact kr _ _ _ _ _ _ _ _ nI_0.symm (by rw [gXo_0]) hI ⟨Nat.le_of_ble_eq_true rfl, Nat.le_of_ble_eq_true rfl⟩ dL_draught_19
  · subst e1 e2
    refine g_xV hC hI hm Y_X6_draught V_X6_draught w760 (rcv_X6 hC hI) ⟨rfl, rfl⟩ ⟨Nat.le_of_ble_eq_true rfl, Nat.le_of_ble_eq_true rfl⟩ rfl hl.1 rfl (Nat.le_of_ble_eq_true rfl) dL_draught_4 ⟨Nat.le_of_ble_eq_true rfl, Nat.le_of_ble_eq_true rfl⟩ (fun rv H locs ho => nomatch ho) (fun En2 ce q H locs ho hI hce hcv hcl => ?_)
    cases ho
    match i, hi with
    | 0, hi =>
      cases hi
      refine g_catch hC hT [] ⟨0, 9, 12, 13⟩ [⟨0, 9, 15, 34⟩] rfl (fun _ h => absurd h List.not_mem_nil) (by decide) (by decide) w442 (by decide +kernel) hce hcv hcl ?_
      refine lv_astore_n (lv' := [(3, .ref q), (0, .ref (E.2.1 132)), (1, .int v1), (2, .ref (E.2.1 159))]) hx hb dL_draught_12 rfl hl (by decide) rfl (fun ls hl => ?_)
      refine lv_iconst (v := 1) hx hb dL_draught_13 (by decide) ?_
      exact kr _ _ _ _ _ _ _ _ rfl (by rw [gXo_n x (by decide)]) hI ⟨Nat.le_of_ble_eq_true rfl, Nat.le_of_ble_eq_true rfl⟩ dL_draught_14
    | 1, hi =>
      cases hi
      refine g_catch hC hT [⟨0, 9, 12, 13⟩] ⟨0, 9, 15, 34⟩ [] rfl (List.forall_mem_cons.mpr ⟨⟨by decide, _, w442, hN ("java/util/NoSuchElementException", "java/lang/IndexOutOfBoundsException") (by decide +kernel)⟩, (fun _ h => absurd h List.not_mem_nil)⟩) (by decide) (by decide) w682 (by decide +kernel) hce hcv hcl ?_
      refine lv_astore_n (lv' := [(3, .ref q), (0, .ref (E.2.1 132)), (1, .int v1), (2, .ref (E.2.1 159))]) hx hb dL_draught_15 rfl hl (by decide) rfl (fun ls hl => ?_)
      refine lv_iconst (v := 2) hx hb dL_draught_16 (by decide) ?_
      exact kr _ _ _ _ _ _ _ _ rfl (by rw [gXo_n x (by decide)]) hI ⟨Nat.le_of_ble_eq_true rfl, Nat.le_of_ble_eq_true rfl⟩ dL_draught_17
    | k + 2, hi => cases hi
theorem dL_dueHour_0 : decode cL_dueHour 0 = .ok (.aload_n 2, 1) := by decide +kernel
theorem dL_dueHour_1 : decode cL_dueHour 1 = .ok (.iconst 0, 1) := by decide +kernel
theorem dL_dueHour_2 : decode cL_dueHour 2 = .ok (.aload_n 0, 1) := by decide +kernel
theorem dL_dueHour_3 : decode cL_dueHour 3 = .ok (.iload_n 1, 1) := by decide +kernel
theorem dL_dueHour_4 : decode cL_dueHour 4 = .ok (.invokevirtual 49, 3) := by decide +kernel
theorem dL_dueHour_7 : decode cL_dueHour 7 = .ok (.i2l, 1) := by decide +kernel
theorem dL_dueHour_8 : decode cL_dueHour 8 = .ok (.lastore, 1) := by decide +kernel
theorem dL_dueHour_9 : decode cL_dueHour 9 = .ok (.goto 9, 3) := by decide +kernel
theorem dL_dueHour_12 : decode cL_dueHour 12 = .ok (.astore_n 3, 1) := by decide +kernel
theorem dL_dueHour_13 : decode cL_dueHour 13 = .ok (.iconst 1, 1) := by decide +kernel
theorem dL_dueHour_14 : decode cL_dueHour 14 = .ok (.ireturn, 1) := by decide +kernel
theorem dL_dueHour_15 : decode cL_dueHour 15 = .ok (.astore_n 3, 1) := by decide +kernel
theorem dL_dueHour_16 : decode cL_dueHour 16 = .ok (.iconst 2, 1) := by decide +kernel
theorem dL_dueHour_17 : decode cL_dueHour 17 = .ok (.ireturn, 1) := by decide +kernel
theorem dL_dueHour_18 : decode cL_dueHour 18 = .ok (.iconst 0, 1) := by decide +kernel
theorem dL_dueHour_19 : decode cL_dueHour 19 = .ok (.ireturn, 1) := by decide +kernel
set_option maxRecDepth 100000 in
set_option maxHeartbeats 4000000 in
theorem H_dueHour (l : Launch) (hst : l.stackTraces = false) (E : gE) (x : gX) {v1 : Int32} {M : gM} {oc : String ⊕ Int32} {M1 : gM} {z : Int32} {b : Int32} (hf : f_X6_dueHour v1 M = some (oc, M1)) (ha : gAns ["java/lang/IndexOutOfBoundsException", "java/util/NoSuchElementException"] oc z b) : gH0 l E yL_dueHour (.codeWith yL_dueHour cL_dueHour 4 (some .int) [(0, 9, 12, 13), (0, 9, 15, 34)]) (gRX 10 172 2 12) M x [.ref (E.2.1 132), .int v1, .ref (E.2.1 159)] z M1 (gXo x z b.toInt64) 2 12 := by
  refine gMetH (by decide +kernel) (Nat.le_of_ble_eq_true rfl) ?_
  intro p e s m args below meth c H locs ls Q hC hN hT hl hI kr
  replace hC : gC p s m args c cL_dueHour 4 RL E := hC
  replace hl : lv_has ls 4 [(0, .ref (E.2.1 132)), (1, .int v1), (2, .ref (E.2.1 159))] := hl
  have hx := hC.1
  have hb := hC.2.1
  refine lv_aload_n hx hb dL_dueHour_0 rfl (lv_at hl 2 rfl) ?_
  refine lv_iconst (v := 0) hx hb dL_dueHour_1 (by decide) ?_
  refine lv_aload_n hx hb dL_dueHour_2 rfl (lv_at hl 0 rfl) ?_
  refine lv_iload_n hx hb dL_dueHour_3 rfl (lv_at hl 1 rfl) ?_
  have hm := C_X6_dueHour l hst E x hf
  rcases ha with ⟨e1, e2⟩ | ⟨i, En, hi, e1, e2⟩
  · subst e1 e2
    refine g_xV hC hI hm Y_X6_dueHour V_X6_dueHour w771 (rcv_X6 hC hI) ⟨rfl, rfl⟩ ⟨Nat.le_of_ble_eq_true rfl, Nat.le_of_ble_eq_true rfl⟩ rfl hl.1 rfl (Nat.le_of_ble_eq_true rfl) dL_dueHour_4 ⟨Nat.le_of_ble_eq_true rfl, Nat.le_of_ble_eq_true rfl⟩ (fun rv H locs ho hI => ?_) (fun En ce q H locs ho => nomatch ho)
    cases ho
    refine lv_i2l (v := b.toInt64) hx hb dL_dueHour_7 rfl ?_
    refine g_lastX hC hI dL_dueHour_8 (fun H locs hI => ?_)
    refine lv_goto (tgt := 18) hx hb dL_dueHour_9 rfl ?_
    refine lv_iconst (v := 0) hx hb dL_dueHour_18 (by decide) ?_
    exact kr _ _ _ _ _ _ _ _ nI_0.symm (by rw [gXo_0]) hI ⟨Nat.le_of_ble_eq_true rfl, Nat.le_of_ble_eq_true rfl⟩ dL_dueHour_19
  · subst e1 e2
    refine g_xV hC hI hm Y_X6_dueHour V_X6_dueHour w771 (rcv_X6 hC hI) ⟨rfl, rfl⟩ ⟨Nat.le_of_ble_eq_true rfl, Nat.le_of_ble_eq_true rfl⟩ rfl hl.1 rfl (Nat.le_of_ble_eq_true rfl) dL_dueHour_4 ⟨Nat.le_of_ble_eq_true rfl, Nat.le_of_ble_eq_true rfl⟩ (fun rv H locs ho => nomatch ho) (fun En2 ce q H locs ho hI hce hcv hcl => ?_)
    cases ho
    match i, hi with
    | 0, hi =>
      cases hi
      refine g_catch hC hT [] ⟨0, 9, 12, 13⟩ [⟨0, 9, 15, 34⟩] rfl (fun _ h => absurd h List.not_mem_nil) (by decide) (by decide) w442 (by decide +kernel) hce hcv hcl ?_
      refine lv_astore_n (lv' := [(3, .ref q), (0, .ref (E.2.1 132)), (1, .int v1), (2, .ref (E.2.1 159))]) hx hb dL_dueHour_12 rfl hl (by decide) rfl (fun ls hl => ?_)
      refine lv_iconst (v := 1) hx hb dL_dueHour_13 (by decide) ?_
      exact kr _ _ _ _ _ _ _ _ rfl (by rw [gXo_n x (by decide)]) hI ⟨Nat.le_of_ble_eq_true rfl, Nat.le_of_ble_eq_true rfl⟩ dL_dueHour_14
    | 1, hi =>
      cases hi
      refine g_catch hC hT [⟨0, 9, 12, 13⟩] ⟨0, 9, 15, 34⟩ [] rfl (List.forall_mem_cons.mpr ⟨⟨by decide, _, w442, hN ("java/util/NoSuchElementException", "java/lang/IndexOutOfBoundsException") (by decide +kernel)⟩, (fun _ h => absurd h List.not_mem_nil)⟩) (by decide) (by decide) w682 (by decide +kernel) hce hcv hcl ?_
      refine lv_astore_n (lv' := [(3, .ref q), (0, .ref (E.2.1 132)), (1, .int v1), (2, .ref (E.2.1 159))]) hx hb dL_dueHour_15 rfl hl (by decide) rfl (fun ls hl => ?_)
      refine lv_iconst (v := 2) hx hb dL_dueHour_16 (by decide) ?_
      exact kr _ _ _ _ _ _ _ _ rfl (by rw [gXo_n x (by decide)]) hI ⟨Nat.le_of_ble_eq_true rfl, Nat.le_of_ble_eq_true rfl⟩ dL_dueHour_17
    | k + 2, hi => cases hi
theorem dL_floats_0 : decode cL_floats 0 = .ok (.aload_n 2, 1) := by decide +kernel
theorem dL_floats_1 : decode cL_floats 1 = .ok (.iconst 0, 1) := by decide +kernel
theorem dL_floats_2 : decode cL_floats 2 = .ok (.aload_n 0, 1) := by decide +kernel
theorem dL_floats_3 : decode cL_floats 3 = .ok (.iload_n 1, 1) := by decide +kernel
theorem dL_floats_4 : decode cL_floats 4 = .ok (.invokevirtual 52, 3) := by decide +kernel
theorem dL_floats_7 : decode cL_floats 7 = .ok (.ifCond .eq 7, 3) := by decide +kernel
theorem dL_floats_10 : decode cL_floats 10 = .ok (.lconst 1, 1) := by decide +kernel
theorem dL_floats_11 : decode cL_floats 11 = .ok (.goto 4, 3) := by decide +kernel
theorem dL_floats_14 : decode cL_floats 14 = .ok (.lconst 0, 1) := by decide +kernel
theorem dL_floats_15 : decode cL_floats 15 = .ok (.lastore, 1) := by decide +kernel
theorem dL_floats_16 : decode cL_floats 16 = .ok (.goto 9, 3) := by decide +kernel
theorem dL_floats_19 : decode cL_floats 19 = .ok (.astore_n 3, 1) := by decide +kernel
theorem dL_floats_20 : decode cL_floats 20 = .ok (.iconst 1, 1) := by decide +kernel
theorem dL_floats_21 : decode cL_floats 21 = .ok (.ireturn, 1) := by decide +kernel
theorem dL_floats_22 : decode cL_floats 22 = .ok (.astore_n 3, 1) := by decide +kernel
theorem dL_floats_23 : decode cL_floats 23 = .ok (.iconst 2, 1) := by decide +kernel
theorem dL_floats_24 : decode cL_floats 24 = .ok (.ireturn, 1) := by decide +kernel
theorem dL_floats_25 : decode cL_floats 25 = .ok (.iconst 0, 1) := by decide +kernel
theorem dL_floats_26 : decode cL_floats 26 = .ok (.ireturn, 1) := by decide +kernel
set_option maxRecDepth 100000 in
set_option maxHeartbeats 4000000 in
theorem H_floats (l : Launch) (hst : l.stackTraces = false) (E : gE) (x : gX) {v1 : Int32} {M : gM} {oc : String ⊕ Bool} {M1 : gM} {z : Int32} {b : Bool} (hf : f_X6_floats v1 M = some (oc, M1)) (ha : gAns ["java/lang/IndexOutOfBoundsException", "java/util/NoSuchElementException"] oc z b) : gH0 l E yL_floats (.codeWith yL_floats cL_floats 4 (some .int) [(0, 16, 19, 13), (0, 16, 22, 34)]) (gRX 10 172 2 12) M x [.ref (E.2.1 132), .int v1, .ref (E.2.1 159)] z M1 (gXo x z (if b then 1 else 0)) 2 12 := by
  refine gMetH (by decide +kernel) (Nat.le_of_ble_eq_true rfl) ?_
  intro p e s m args below meth c H locs ls Q hC hN hT hl hI kr
  replace hC : gC p s m args c cL_floats 4 RL E := hC
  replace hl : lv_has ls 4 [(0, .ref (E.2.1 132)), (1, .int v1), (2, .ref (E.2.1 159))] := hl
  have hx := hC.1
  have hb := hC.2.1
  refine lv_aload_n hx hb dL_floats_0 rfl (lv_at hl 2 rfl) ?_
  refine lv_iconst (v := 0) hx hb dL_floats_1 (by decide) ?_
  refine lv_aload_n hx hb dL_floats_2 rfl (lv_at hl 0 rfl) ?_
  refine lv_iload_n hx hb dL_floats_3 rfl (lv_at hl 1 rfl) ?_
  have hm := C_X6_floats l hst E x hf
  rcases ha with ⟨e1, e2⟩ | ⟨i, En, hi, e1, e2⟩
  · subst e1 e2
    refine g_xV hC hI hm Y_X6_floats V_X6_floats w778 (rcv_X6 hC hI) ⟨rfl, rfl⟩ ⟨Nat.le_of_ble_eq_true rfl, Nat.le_of_ble_eq_true rfl⟩ rfl hl.1 rfl (Nat.le_of_ble_eq_true rfl) dL_floats_4 ⟨Nat.le_of_ble_eq_true rfl, Nat.le_of_ble_eq_true rfl⟩ (fun rv H locs ho hI => ?_) (fun En ce q H locs ho => nomatch ho)
    cases ho
    cases b
    · refine lv_if_eq (tgt := 14) hx hb dL_floats_7 rfl (fun h1 => ?_) (fun h1 => absurd rfl h1)
      refine lv_lconst (v := 0) hx hb dL_floats_14 rfl ?_
      refine g_lastX hC hI dL_floats_15 (fun H locs hI => ?_)
      refine lv_goto (tgt := 25) hx hb dL_floats_16 rfl ?_
      refine lv_iconst (v := 0) hx hb dL_floats_25 (by decide) ?_
      exact kr _ _ _ _ _ _ _ _ nI_0.symm (by rw [gXo_0]; rfl) hI ⟨Nat.le_of_ble_eq_true rfl, Nat.le_of_ble_eq_true rfl⟩ dL_floats_26
    · refine lv_if_eq (tgt := 14) hx hb dL_floats_7 rfl (fun h1 => absurd h1 (by decide)) (fun h1 => ?_)
      refine lv_lconst (v := 1) hx hb dL_floats_10 rfl ?_
      refine lv_goto (tgt := 15) hx hb dL_floats_11 rfl ?_
      refine g_lastX hC hI dL_floats_15 (fun H locs hI => ?_)
      refine lv_goto (tgt := 25) hx hb dL_floats_16 rfl ?_
      refine lv_iconst (v := 0) hx hb dL_floats_25 (by decide) ?_
      exact kr _ _ _ _ _ _ _ _ nI_0.symm (by rw [gXo_0]; rfl) hI ⟨Nat.le_of_ble_eq_true rfl, Nat.le_of_ble_eq_true rfl⟩ dL_floats_26
  · subst e1 e2
    refine g_xV hC hI hm Y_X6_floats V_X6_floats w778 (rcv_X6 hC hI) ⟨rfl, rfl⟩ ⟨Nat.le_of_ble_eq_true rfl, Nat.le_of_ble_eq_true rfl⟩ rfl hl.1 rfl (Nat.le_of_ble_eq_true rfl) dL_floats_4 ⟨Nat.le_of_ble_eq_true rfl, Nat.le_of_ble_eq_true rfl⟩ (fun rv H locs ho => nomatch ho) (fun En2 ce q H locs ho hI hce hcv hcl => ?_)
    cases ho
    match i, hi with
    | 0, hi =>
      cases hi
      refine g_catch hC hT [] ⟨0, 16, 19, 13⟩ [⟨0, 16, 22, 34⟩] rfl (fun _ h => absurd h List.not_mem_nil) (by decide) (by decide) w442 (by decide +kernel) hce hcv hcl ?_
      refine lv_astore_n (lv' := [(3, .ref q), (0, .ref (E.2.1 132)), (1, .int v1), (2, .ref (E.2.1 159))]) hx hb dL_floats_19 rfl hl (by decide) rfl (fun ls hl => ?_)
      refine lv_iconst (v := 1) hx hb dL_floats_20 (by decide) ?_
      exact kr _ _ _ _ _ _ _ _ rfl (by rw [gXo_n x (by decide)]) hI ⟨Nat.le_of_ble_eq_true rfl, Nat.le_of_ble_eq_true rfl⟩ dL_floats_21
    | 1, hi =>
      cases hi
      refine g_catch hC hT [⟨0, 16, 19, 13⟩] ⟨0, 16, 22, 34⟩ [] rfl (List.forall_mem_cons.mpr ⟨⟨by decide, _, w442, hN ("java/util/NoSuchElementException", "java/lang/IndexOutOfBoundsException") (by decide +kernel)⟩, (fun _ h => absurd h List.not_mem_nil)⟩) (by decide) (by decide) w682 (by decide +kernel) hce hcv hcl ?_
      refine lv_astore_n (lv' := [(3, .ref q), (0, .ref (E.2.1 132)), (1, .int v1), (2, .ref (E.2.1 159))]) hx hb dL_floats_22 rfl hl (by decide) rfl (fun ls hl => ?_)
      refine lv_iconst (v := 2) hx hb dL_floats_23 (by decide) ?_
      exact kr _ _ _ _ _ _ _ _ rfl (by rw [gXo_n x (by decide)]) hI ⟨Nat.le_of_ble_eq_true rfl, Nat.le_of_ble_eq_true rfl⟩ dL_floats_24
    | k + 2, hi => cases hi
theorem dL_hoursUntilFloating_0 : decode cL_hoursUntilFloating 0 = .ok (.aload_n 2, 1) := by decide +kernel
theorem dL_hoursUntilFloating_1 : decode cL_hoursUntilFloating 1 = .ok (.iconst 0, 1) := by decide +kernel
theorem dL_hoursUntilFloating_2 : decode cL_hoursUntilFloating 2 = .ok (.aload_n 0, 1) := by decide +kernel
theorem dL_hoursUntilFloating_3 : decode cL_hoursUntilFloating 3 = .ok (.iload_n 1, 1) := by decide +kernel
theorem dL_hoursUntilFloating_4 : decode cL_hoursUntilFloating 4 = .ok (.invokevirtual 55, 3) := by decide +kernel
theorem dL_hoursUntilFloating_7 : decode cL_hoursUntilFloating 7 = .ok (.i2l, 1) := by decide +kernel
theorem dL_hoursUntilFloating_8 : decode cL_hoursUntilFloating 8 = .ok (.lastore, 1) := by decide +kernel
theorem dL_hoursUntilFloating_9 : decode cL_hoursUntilFloating 9 = .ok (.goto 9, 3) := by decide +kernel
theorem dL_hoursUntilFloating_12 : decode cL_hoursUntilFloating 12 = .ok (.astore_n 3, 1) := by decide +kernel
theorem dL_hoursUntilFloating_13 : decode cL_hoursUntilFloating 13 = .ok (.iconst 1, 1) := by decide +kernel
theorem dL_hoursUntilFloating_14 : decode cL_hoursUntilFloating 14 = .ok (.ireturn, 1) := by decide +kernel
theorem dL_hoursUntilFloating_15 : decode cL_hoursUntilFloating 15 = .ok (.astore_n 3, 1) := by decide +kernel
theorem dL_hoursUntilFloating_16 : decode cL_hoursUntilFloating 16 = .ok (.iconst 2, 1) := by decide +kernel
theorem dL_hoursUntilFloating_17 : decode cL_hoursUntilFloating 17 = .ok (.ireturn, 1) := by decide +kernel
theorem dL_hoursUntilFloating_18 : decode cL_hoursUntilFloating 18 = .ok (.iconst 0, 1) := by decide +kernel
theorem dL_hoursUntilFloating_19 : decode cL_hoursUntilFloating 19 = .ok (.ireturn, 1) := by decide +kernel
set_option maxRecDepth 100000 in
set_option maxHeartbeats 4000000 in
theorem H_hoursUntilFloating (l : Launch) (hst : l.stackTraces = false) (E : gE) (x : gX) {v1 : Int32} {M : gM} {oc : String ⊕ Int32} {M1 : gM} {z : Int32} {b : Int32} (hf : f_X6_hoursUntilFloating v1 M = some (oc, M1)) (ha : gAns ["java/lang/IndexOutOfBoundsException", "java/util/NoSuchElementException"] oc z b) : gH0 l E yL_hoursUntilFloating (.codeWith yL_hoursUntilFloating cL_hoursUntilFloating 4 (some .int) [(0, 9, 12, 13), (0, 9, 15, 34)]) (gRX 10 172 2 12) M x [.ref (E.2.1 132), .int v1, .ref (E.2.1 159)] z M1 (gXo x z b.toInt64) 2 12 := by
  refine gMetH (by decide +kernel) (Nat.le_of_ble_eq_true rfl) ?_
  intro p e s m args below meth c H locs ls Q hC hN hT hl hI kr
  replace hC : gC p s m args c cL_hoursUntilFloating 4 RL E := hC
  replace hl : lv_has ls 4 [(0, .ref (E.2.1 132)), (1, .int v1), (2, .ref (E.2.1 159))] := hl
  have hx := hC.1
  have hb := hC.2.1
  refine lv_aload_n hx hb dL_hoursUntilFloating_0 rfl (lv_at hl 2 rfl) ?_
  refine lv_iconst (v := 0) hx hb dL_hoursUntilFloating_1 (by decide) ?_
  refine lv_aload_n hx hb dL_hoursUntilFloating_2 rfl (lv_at hl 0 rfl) ?_
  refine lv_iload_n hx hb dL_hoursUntilFloating_3 rfl (lv_at hl 1 rfl) ?_
  have hm := C_X6_hoursUntilFloating l hst E x hf
  rcases ha with ⟨e1, e2⟩ | ⟨i, En, hi, e1, e2⟩
  · subst e1 e2
    refine g_xV hC hI hm Y_X6_hoursUntilFloating V_X6_hoursUntilFloating w786 (rcv_X6 hC hI) ⟨rfl, rfl⟩ ⟨Nat.le_of_ble_eq_true rfl, Nat.le_of_ble_eq_true rfl⟩ rfl hl.1 rfl (Nat.le_of_ble_eq_true rfl) dL_hoursUntilFloating_4 ⟨Nat.le_of_ble_eq_true rfl, Nat.le_of_ble_eq_true rfl⟩ (fun rv H locs ho hI => ?_) (fun En ce q H locs ho => nomatch ho)
    cases ho
    refine lv_i2l (v := b.toInt64) hx hb dL_hoursUntilFloating_7 rfl ?_
    refine g_lastX hC hI dL_hoursUntilFloating_8 (fun H locs hI => ?_)
    refine lv_goto (tgt := 18) hx hb dL_hoursUntilFloating_9 rfl ?_
    refine lv_iconst (v := 0) hx hb dL_hoursUntilFloating_18 (by decide) ?_
    exact kr _ _ _ _ _ _ _ _ nI_0.symm (by rw [gXo_0]) hI ⟨Nat.le_of_ble_eq_true rfl, Nat.le_of_ble_eq_true rfl⟩ dL_hoursUntilFloating_19
  · subst e1 e2
    refine g_xV hC hI hm Y_X6_hoursUntilFloating V_X6_hoursUntilFloating w786 (rcv_X6 hC hI) ⟨rfl, rfl⟩ ⟨Nat.le_of_ble_eq_true rfl, Nat.le_of_ble_eq_true rfl⟩ rfl hl.1 rfl (Nat.le_of_ble_eq_true rfl) dL_hoursUntilFloating_4 ⟨Nat.le_of_ble_eq_true rfl, Nat.le_of_ble_eq_true rfl⟩ (fun rv H locs ho => nomatch ho) (fun En2 ce q H locs ho hI hce hcv hcl => ?_)
    cases ho
    match i, hi with
    | 0, hi =>
      cases hi
      refine g_catch hC hT [] ⟨0, 9, 12, 13⟩ [⟨0, 9, 15, 34⟩] rfl (fun _ h => absurd h List.not_mem_nil) (by decide) (by decide) w442 (by decide +kernel) hce hcv hcl ?_
      refine lv_astore_n (lv' := [(3, .ref q), (0, .ref (E.2.1 132)), (1, .int v1), (2, .ref (E.2.1 159))]) hx hb dL_hoursUntilFloating_12 rfl hl (by decide) rfl (fun ls hl => ?_)
      refine lv_iconst (v := 1) hx hb dL_hoursUntilFloating_13 (by decide) ?_
      exact kr _ _ _ _ _ _ _ _ rfl (by rw [gXo_n x (by decide)]) hI ⟨Nat.le_of_ble_eq_true rfl, Nat.le_of_ble_eq_true rfl⟩ dL_hoursUntilFloating_14
    | 1, hi =>
      cases hi
      refine g_catch hC hT [⟨0, 9, 12, 13⟩] ⟨0, 9, 15, 34⟩ [] rfl (List.forall_mem_cons.mpr ⟨⟨by decide, _, w442, hN ("java/util/NoSuchElementException", "java/lang/IndexOutOfBoundsException") (by decide +kernel)⟩, (fun _ h => absurd h List.not_mem_nil)⟩) (by decide) (by decide) w682 (by decide +kernel) hce hcv hcl ?_
      refine lv_astore_n (lv' := [(3, .ref q), (0, .ref (E.2.1 132)), (1, .int v1), (2, .ref (E.2.1 159))]) hx hb dL_hoursUntilFloating_15 rfl hl (by decide) rfl (fun ls hl => ?_)
      refine lv_iconst (v := 2) hx hb dL_hoursUntilFloating_16 (by decide) ?_
      exact kr _ _ _ _ _ _ _ _ rfl (by rw [gXo_n x (by decide)]) hI ⟨Nat.le_of_ble_eq_true rfl, Nat.le_of_ble_eq_true rfl⟩ dL_hoursUntilFloating_17
    | k + 2, hi => cases hi
