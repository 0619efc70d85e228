theorem dX6_isBerth_0 : decode cX6_isBerth 0 = .ok (.iload_n 0, 1) := by decide +kernel
theorem dX6_isBerth_1 : decode cX6_isBerth 1 = .ok (.ifCond .lt 12, 3) := by decide +kernel
theorem dX6_isBerth_4 : decode cX6_isBerth 4 = .ok (.iload_n 0, 1) := by decide +kernel
theorem dX6_isBerth_5 : decode cX6_isBerth 5 = .ok (.iconst 3, 1) := by decide +kernel
theorem dX6_isBerth_6 : decode cX6_isBerth 6 = .ok (.if_icmp .ge 7, 3) := by decide +kernel
theorem dX6_isBerth_9 : decode cX6_isBerth 9 = .ok (.iconst 1, 1) := by decide +kernel
theorem dX6_isBerth_10 : decode cX6_isBerth 10 = .ok (.goto 4, 3) := by decide +kernel
theorem dX6_isBerth_13 : decode cX6_isBerth 13 = .ok (.iconst 0, 1) := by decide +kernel
theorem dX6_isBerth_14 : decode cX6_isBerth 14 = .ok (.ireturn, 1) := by decide +kernel
set_option maxRecDepth 100000 in
set_option maxHeartbeats 4000000 in
theorem C_X6_isBerth (l : Launch) (E : gE) (x : gX) {v0 : Int32} {M : gM} {r : Bool} (hf : f_X6_isBerth v0 M = some r) : gM0 l E yX6_isBerth (.code yX6_isBerth cX6_isBerth 1 (some .boolean)) (gR 0 0) M x [.int v0] (some (.int (gb r))) M := by
  refine gMet (by decide +kernel) (Nat.le_of_ble_eq_true rfl) ?_
  intro p e s m args below meth c H locs ls Q hC hl hI kr kv
  replace hC : gC p s m args c cX6_isBerth 1 RX6 E := hC
  replace hl : lv_has ls 1 [(0, .int v0)] := hl
  have hx := hC.1
  have hb := hC.2.1
  unfold f_X6_isBerth at hf
  refine lv_iload_n hx hb dX6_isBerth_0 rfl (lv_at hl 0 rfl) ?_
  refine lv_if_lt (tgt := 13) hx hb dX6_isBerth_1 rfl (fun h1 => ?_) (fun h1 => ?_)
  · replace hf := gif h1 hf
    refine lv_iconst (v := 0) hx hb dX6_isBerth_13 (by decide) ?_
    exact kr _ _ _ _ _ _ (grb0 hf) hI ⟨.boolean, rfl, rfl⟩ dX6_isBerth_14
  · replace hf := gifn h1 hf
    refine lv_iload_n hx hb dX6_isBerth_4 rfl (lv_at hl 0 rfl) ?_
    refine lv_iconst (v := 3) hx hb dX6_isBerth_5 (by decide) ?_
    refine lv_icmp_ge (tgt := 13) hx hb dX6_isBerth_6 rfl (fun h2 => ?_) (fun h2 => ?_)
    · replace hf := gif h2 hf
      refine lv_iconst (v := 0) hx hb dX6_isBerth_13 (by decide) ?_
      exact kr _ _ _ _ _ _ (grb0 hf) hI ⟨.boolean, rfl, rfl⟩ dX6_isBerth_14
    · replace hf := gifn h2 hf
      refine lv_iconst (v := 1) hx hb dX6_isBerth_9 (by decide) ?_
      refine lv_goto (tgt := 14) hx hb dX6_isBerth_10 rfl ?_
      exact kr _ _ _ _ _ _ (grb1 hf) hI ⟨.boolean, rfl, rfl⟩ dX6_isBerth_14
theorem dX6_isStack_0 : decode cX6_isStack 0 = .ok (.iload_n 0, 1) := by decide +kernel
theorem dX6_isStack_1 : decode cX6_isStack 1 = .ok (.ifCond .lt 12, 3) := by decide +kernel
theorem dX6_isStack_4 : decode cX6_isStack 4 = .ok (.iload_n 0, 1) := by decide +kernel
theorem dX6_isStack_5 : decode cX6_isStack 5 = .ok (.iconst 4, 1) := by decide +kernel
theorem dX6_isStack_6 : decode cX6_isStack 6 = .ok (.if_icmp .ge 7, 3) := by decide +kernel
theorem dX6_isStack_9 : decode cX6_isStack 9 = .ok (.iconst 1, 1) := by decide +kernel
theorem dX6_isStack_10 : decode cX6_isStack 10 = .ok (.goto 4, 3) := by decide +kernel
theorem dX6_isStack_13 : decode cX6_isStack 13 = .ok (.iconst 0, 1) := by decide +kernel
theorem dX6_isStack_14 : decode cX6_isStack 14 = .ok (.ireturn, 1) := by decide +kernel
set_option maxRecDepth 100000 in
set_option maxHeartbeats 4000000 in
theorem C_X6_isStack (l : Launch) (E : gE) (x : gX) {v0 : Int32} {M : gM} {r : Bool} (hf : f_X6_isStack v0 M = some r) : gM0 l E yX6_isStack (.code yX6_isStack cX6_isStack 1 (some .boolean)) (gR 0 0) M x [.int v0] (some (.int (gb r))) M := by
  refine gMet (by decide +kernel) (Nat.le_of_ble_eq_true rfl) ?_
  intro p e s m args below meth c H locs ls Q hC hl hI kr kv
  replace hC : gC p s m args c cX6_isStack 1 RX6 E := hC
  replace hl : lv_has ls 1 [(0, .int v0)] := hl
  have hx := hC.1
  have hb := hC.2.1
  unfold f_X6_isStack at hf
  refine lv_iload_n hx hb dX6_isStack_0 rfl (lv_at hl 0 rfl) ?_
  refine lv_if_lt (tgt := 13) hx hb dX6_isStack_1 rfl (fun h1 => ?_) (fun h1 => ?_)
  · replace hf := gif h1 hf
    refine lv_iconst (v := 0) hx hb dX6_isStack_13 (by decide) ?_
    exact kr _ _ _ _ _ _ (grb0 hf) hI ⟨.boolean, rfl, rfl⟩ dX6_isStack_14
  · replace hf := gifn h1 hf
    refine lv_iload_n hx hb dX6_isStack_4 rfl (lv_at hl 0 rfl) ?_
    refine lv_iconst (v := 4) hx hb dX6_isStack_5 (by decide) ?_
    refine lv_icmp_ge (tgt := 13) hx hb dX6_isStack_6 rfl (fun h2 => ?_) (fun h2 => ?_)
    · replace hf := gif h2 hf
      refine lv_iconst (v := 0) hx hb dX6_isStack_13 (by decide) ?_
      exact kr _ _ _ _ _ _ (grb0 hf) hI ⟨.boolean, rfl, rfl⟩ dX6_isStack_14
    · replace hf := gifn h2 hf
      refine lv_iconst (v := 1) hx hb dX6_isStack_9 (by decide) ?_
      refine lv_goto (tgt := 14) hx hb dX6_isStack_10 rfl ?_
      exact kr _ _ _ _ _ _ (grb1 hf) hI ⟨.boolean, rfl, rfl⟩ dX6_isStack_14
theorem dX6_pileOf_0 : decode cX6_pileOf 0 = .ok (.iload_n 0, 1) := by decide +kernel
theorem dX6_pileOf_1 : decode cX6_pileOf 1 = .ok (.iconst 4, 1) := by decide +kernel
theorem dX6_pileOf_2 : decode cX6_pileOf 2 = .ok (.imul, 1) := by decide +kernel
theorem dX6_pileOf_3 : decode cX6_pileOf 3 = .ok (.iload_n 1, 1) := by decide +kernel
theorem dX6_pileOf_4 : decode cX6_pileOf 4 = .ok (.iadd, 1) := by decide +kernel
theorem dX6_pileOf_5 : decode cX6_pileOf 5 = .ok (.ireturn, 1) := by decide +kernel
set_option maxRecDepth 100000 in
set_option maxHeartbeats 4000000 in
theorem C_X6_pileOf (l : Launch) (E : gE) (x : gX) {v0 v1 : Int32} {M : gM} {r : Int32} (hf : f_X6_pileOf v0 v1 M = some r) : gM0 l E yX6_pileOf (.code yX6_pileOf cX6_pileOf 2 (some .int)) (gR 0 0) M x [.int v0, .int v1] (some (.int r)) M := by
  refine gMet (by decide +kernel) (Nat.le_of_ble_eq_true rfl) ?_
  intro p e s m args below meth c H locs ls Q hC hl hI kr kv
  replace hC : gC p s m args c cX6_pileOf 2 RX6 E := hC
  replace hl : lv_has ls 2 [(0, .int v0), (1, .int v1)] := hl
  have hx := hC.1
  have hb := hC.2.1
  unfold f_X6_pileOf at hf
  refine lv_iload_n hx hb dX6_pileOf_0 rfl (lv_at hl 0 rfl) ?_
  refine lv_iconst (v := 4) hx hb dX6_pileOf_1 (by decide) ?_
  refine lv_imul hx hb dX6_pileOf_2 ?_
  refine lv_iload_n hx hb dX6_pileOf_3 rfl (lv_at hl 1 rfl) ?_
  refine lv_iadd hx hb dX6_pileOf_4 ?_
  exact kr _ _ _ _ _ _ (gri hf) hI ⟨.int, rfl, rfl⟩ dX6_pileOf_5
theorem dX0_height_0 : decode cX0_height 0 = .ok (.iconst 0, 1) := by decide +kernel
theorem dX0_height_1 : decode cX0_height 1 = .ok (.istore_n 2, 1) := by decide +kernel
theorem dX0_height_2 : decode cX0_height 2 = .ok (.iconst 0, 1) := by decide +kernel
theorem dX0_height_3 : decode cX0_height 3 = .ok (.istore_n 3, 1) := by decide +kernel
theorem dX0_height_4 : decode cX0_height 4 = .ok (.iload_n 3, 1) := by decide +kernel
theorem dX0_height_5 : decode cX0_height 5 = .ok (.aload_n 0, 1) := by decide +kernel
theorem dX0_height_6 : decode cX0_height 6 = .ok (.getfield 30, 3) := by decide +kernel
theorem dX0_height_9 : decode cX0_height 9 = .ok (.if_icmp .ge 28, 3) := by decide +kernel
theorem dX0_height_12 : decode cX0_height 12 = .ok (.iload_n 3, 1) := by decide +kernel
theorem dX0_height_13 : decode cX0_height 13 = .ok (.bipush 75, 2) := by decide +kernel
theorem dX0_height_15 : decode cX0_height 15 = .ok (.if_icmp .ge 22, 3) := by decide +kernel
theorem dX0_height_18 : decode cX0_height 18 = .ok (.aload_n 0, 1) := by decide +kernel
theorem dX0_height_19 : decode cX0_height 19 = .ok (.getfield 21, 3) := by decide +kernel
theorem dX0_height_22 : decode cX0_height 22 = .ok (.iload_n 3, 1) := by decide +kernel
theorem dX0_height_23 : decode cX0_height 23 = .ok (.iaload, 1) := by decide +kernel
theorem dX0_height_24 : decode cX0_height 24 = .ok (.iload_n 1, 1) := by decide +kernel
theorem dX0_height_25 : decode cX0_height 25 = .ok (.if_icmp .ne 6, 3) := by decide +kernel
theorem dX0_height_28 : decode cX0_height 28 = .ok (.iinc 2 1, 3) := by decide +kernel
theorem dX0_height_31 : decode cX0_height 31 = .ok (.iinc 3 1, 3) := by decide +kernel
theorem dX0_height_34 : decode cX0_height 34 = .ok (.goto (-30), 3) := by decide +kernel
theorem dX0_height_37 : decode cX0_height 37 = .ok (.iload_n 2, 1) := by decide +kernel
theorem dX0_height_38 : decode cX0_height 38 = .ok (.ireturn, 1) := by decide +kernel
set_option maxRecDepth 100000 in
set_option maxHeartbeats 4000000 in
theorem C_X0_height (l : Launch) (E : gE) (x : gX) {o : Nat} (ho : gOk o) {v1 : Int32} {M : gM} {r : Int32} (hf : f_X0_height o v1 M = some r) : gM0 l E yX0_height (.code yX0_height cX0_height 4 (some .int)) (gR 0 0) M x [.ref (E.2.1 (o + 1)), .int v1] (some (.int r)) M := by
  refine gMet (by decide +kernel) (Nat.le_of_ble_eq_true rfl) ?_
  intro p e s m args below meth c H locs ls Q hC hl hI kr kv
  replace hC : gC p s m args c cX0_height 4 RX0 E := hC
  replace hl : lv_has ls 4 [(0, .ref (E.2.1 (o + 1))), (1, .int v1)] := hl
  have hx := hC.1
  have hb := hC.2.1
  have L4 : ∀ (v1 : Int32) (n : Nat) (v3 : Int32) (v2 : Int32), f_X0_height_L4 o M v1 n v3 v2 = some r → ∀ (H : Heap) (locs : List Loc) (ls : Array Slot), gI E s M x H locs → lv_has ls 4 [(3, .int v3), (2, .int v2), (0, .ref (E.2.1 (o + 1))), (1, .int v1)] → W p l e (gR 0 0) s m args below meth c H locs 0 0 Q (F0 m 4 ls []) := by
    intro v1 n
    induction n with
    | zero => intro v3 v2 hf; rw [f_X0_height_L4] at hf; cases hf
    | succ n ih =>
      intro v3 v2 hf H locs ls hI hl
      rw [f_X0_height_L4] at hf
      refine lv_iload_n hx hb dX0_height_4 rfl (lv_at hl 0 rfl) ?_
      refine lv_aload_n hx hb dX0_height_5 rfl (lv_at hl 2 rfl) ?_
      refine gt_X0_X0_count hC hI ho dX0_height_6 ?_
      refine lv_icmp_ge (tgt := 37) hx hb dX0_height_9 rfl (fun h1 => ?_) (fun h1 => ?_)
      · replace hf := gif h1 hf
        refine lv_iload_n hx hb dX0_height_37 rfl (lv_at hl 1 rfl) ?_
        exact kr _ _ _ _ _ _ (gri hf) hI ⟨.int, rfl, rfl⟩ dX0_height_38
      · replace hf := gifn h1 hf
        refine lv_iload_n hx hb dX0_height_12 rfl (lv_at hl 0 rfl) ?_
        refine lv_bipush (v := 75) hx hb dX0_height_13 (by decide) ?_
        refine lv_icmp_ge (tgt := 37) hx hb dX0_height_15 rfl (fun h2 => ?_) (fun h2 => ?_)
        · replace hf := gif h2 hf
          refine lv_iload_n hx hb dX0_height_37 rfl (lv_at hl 1 rfl) ?_
          exact kr _ _ _ _ _ _ (gri hf) hI ⟨.int, rfl, rfl⟩ dX0_height_38
        · replace hf := gifn h2 hf
          refine lv_aload_n hx hb dX0_height_18 rfl (lv_at hl 2 rfl) ?_
          refine gt_X0_X0_piles hC hI ho dX0_height_19 ?_
          refine lv_iload_n hx hb dX0_height_22 rfl (lv_at hl 0 rfl) ?_
          obtain ⟨h3, hf⟩ := gifN hf
          refine g_iald hC hI (k := v3.toNatClampNeg) (gIA_5 ho) h3 rfl dX0_height_23 ?_
          refine lv_iload_n hx hb dX0_height_24 rfl (lv_at hl 3 rfl) ?_
          refine lv_icmp_ne (tgt := 31) hx hb dX0_height_25 rfl (fun h4 => ?_) (fun h4 => ?_)
          · replace hf := gifn h4 hf
            refine lv_iinc (k := 0) (v := v3 + 1) (lv' := [(3, .int (v3 + 1)), (2, .int v2), (0, .ref (E.2.1 (o + 1))), (1, .int v1)]) hx hb dX0_height_31 hl rfl rfl (by decide) rfl (fun ls hl => ?_)
            refine lv_goto (tgt := 4) hx hb dX0_height_34 rfl ?_
            exact ih (v3 + 1) v2 hf _ _ _ hI (lv_sub hl [0, 1, 2, 3] rfl)
          · replace hf := gif h4 hf
            refine lv_iinc (k := 1) (v := v2 + 1) (lv' := [(2, .int (v2 + 1)), (3, .int v3), (0, .ref (E.2.1 (o + 1))), (1, .int v1)]) hx hb dX0_height_28 hl rfl rfl (by decide) rfl (fun ls hl => ?_)
            refine lv_iinc (k := 1) (v := v3 + 1) (lv' := [(3, .int (v3 + 1)), (2, .int (v2 + 1)), (0, .ref (E.2.1 (o + 1))), (1, .int v1)]) hx hb dX0_height_31 hl rfl rfl (by decide) rfl (fun ls hl => ?_)
            refine lv_goto (tgt := 4) hx hb dX0_height_34 rfl ?_
            exact ih (v3 + 1) (v2 + 1) hf _ _ _ hI (lv_sub hl [0, 1, 2, 3] rfl)
  unfold f_X0_height at hf
  refine lv_iconst (v := 0) hx hb dX0_height_0 (by decide) ?_
  refine lv_istore_n (lv' := [(2, .int 0), (0, .ref (E.2.1 (o + 1))), (1, .int v1)]) hx hb dX0_height_1 rfl hl (by decide) rfl (fun ls hl => ?_)
  refine lv_iconst (v := 0) hx hb dX0_height_2 (by decide) ?_
  refine lv_istore_n (lv' := [(3, .int 0), (2, .int 0), (0, .ref (E.2.1 (o + 1))), (1, .int v1)]) hx hb dX0_height_3 rfl hl (by decide) rfl (fun ls hl => ?_)
  exact L4 v1 gF 0 0 hf _ _ _ hI (lv_sub hl [0, 1, 2, 3] rfl)
theorem dX0_rowOf_0 : decode cX0_rowOf 0 = .ok (.iconst 0, 1) := by decide +kernel
theorem dX0_rowOf_1 : decode cX0_rowOf 1 = .ok (.istore_n 2, 1) := by decide +kernel
theorem dX0_rowOf_2 : decode cX0_rowOf 2 = .ok (.iload_n 2, 1) := by decide +kernel
theorem dX0_rowOf_3 : decode cX0_rowOf 3 = .ok (.aload_n 0, 1) := by decide +kernel
theorem dX0_rowOf_4 : decode cX0_rowOf 4 = .ok (.getfield 30, 3) := by decide +kernel
theorem dX0_rowOf_7 : decode cX0_rowOf 7 = .ok (.if_icmp .ge 27, 3) := by decide +kernel
theorem dX0_rowOf_10 : decode cX0_rowOf 10 = .ok (.iload_n 2, 1) := by decide +kernel
theorem dX0_rowOf_11 : decode cX0_rowOf 11 = .ok (.bipush 75, 2) := by decide +kernel
theorem dX0_rowOf_13 : decode cX0_rowOf 13 = .ok (.if_icmp .ge 21, 3) := by decide +kernel
theorem dX0_rowOf_16 : decode cX0_rowOf 16 = .ok (.aload_n 0, 1) := by decide +kernel
theorem dX0_rowOf_17 : decode cX0_rowOf 17 = .ok (.getfield 9, 3) := by decide +kernel
theorem dX0_rowOf_20 : decode cX0_rowOf 20 = .ok (.iload_n 2, 1) := by decide +kernel
theorem dX0_rowOf_21 : decode cX0_rowOf 21 = .ok (.iaload, 1) := by decide +kernel
theorem dX0_rowOf_22 : decode cX0_rowOf 22 = .ok (.iload_n 1, 1) := by decide +kernel
theorem dX0_rowOf_23 : decode cX0_rowOf 23 = .ok (.if_icmp .ne 5, 3) := by decide +kernel
theorem dX0_rowOf_26 : decode cX0_rowOf 26 = .ok (.iload_n 2, 1) := by decide +kernel
theorem dX0_rowOf_27 : decode cX0_rowOf 27 = .ok (.ireturn, 1) := by decide +kernel
theorem dX0_rowOf_28 : decode cX0_rowOf 28 = .ok (.iinc 2 1, 3) := by decide +kernel
theorem dX0_rowOf_31 : decode cX0_rowOf 31 = .ok (.goto (-29), 3) := by decide +kernel
theorem dX0_rowOf_34 : decode cX0_rowOf 34 = .ok (.iconst (-1), 1) := by decide +kernel
theorem dX0_rowOf_35 : decode cX0_rowOf 35 = .ok (.ireturn, 1) := by decide +kernel
set_option maxRecDepth 100000 in
set_option maxHeartbeats 4000000 in
theorem C_X0_rowOf (l : Launch) (E : gE) (x : gX) {o : Nat} (ho : gOk o) {v1 : Int32} {M : gM} {r : Int32} (hf : f_X0_rowOf o v1 M = some r) : gM0 l E yX0_rowOf (.code yX0_rowOf cX0_rowOf 3 (some .int)) (gR 0 0) M x [.ref (E.2.1 (o + 1)), .int v1] (some (.int r)) M := by
  refine gMet (by decide +kernel) (Nat.le_of_ble_eq_true rfl) ?_
  intro p e s m args below meth c H locs ls Q hC hl hI kr kv
  replace hC : gC p s m args c cX0_rowOf 3 RX0 E := hC
  replace hl : lv_has ls 3 [(0, .ref (E.2.1 (o + 1))), (1, .int v1)] := hl
  have hx := hC.1
  have hb := hC.2.1
  have L2 : ∀ (v1 : Int32) (n : Nat) (v2 : Int32), f_X0_rowOf_L2 o M v1 n v2 = some r → ∀ (H : Heap) (locs : List Loc) (ls : Array Slot), gI E s M x H locs → lv_has ls 3 [(2, .int v2), (0, .ref (E.2.1 (o + 1))), (1, .int v1)] → W p l e (gR 0 0) s m args below meth c H locs 0 0 Q (F0 m 2 ls []) := by
    intro v1 n
    induction n with
    | zero => intro v2 hf; rw [f_X0_rowOf_L2] at hf; cases hf
    | succ n ih =>
      intro v2 hf H locs ls hI hl
      rw [f_X0_rowOf_L2] at hf
      refine lv_iload_n hx hb dX0_rowOf_2 rfl (lv_at hl 0 rfl) ?_
      refine lv_aload_n hx hb dX0_rowOf_3 rfl (lv_at hl 1 rfl) ?_
      refine gt_X0_X0_count hC hI ho dX0_rowOf_4 ?_
      refine lv_icmp_ge (tgt := 34) hx hb dX0_rowOf_7 rfl (fun h1 => ?_) (fun h1 => ?_)
      · replace hf := gif h1 hf
        refine lv_iconst (v := (-1)) hx hb dX0_rowOf_34 (by decide) ?_
        exact kr _ _ _ _ _ _ (gri hf) hI ⟨.int, rfl, rfl⟩ dX0_rowOf_35
      · replace hf := gifn h1 hf
        refine lv_iload_n hx hb dX0_rowOf_10 rfl (lv_at hl 0 rfl) ?_
        refine lv_bipush (v := 75) hx hb dX0_rowOf_11 (by decide) ?_
        refine lv_icmp_ge (tgt := 34) hx hb dX0_rowOf_13 rfl (fun h2 => ?_) (fun h2 => ?_)
        · replace hf := gif h2 hf
          refine lv_iconst (v := (-1)) hx hb dX0_rowOf_34 (by decide) ?_
          exact kr _ _ _ _ _ _ (gri hf) hI ⟨.int, rfl, rfl⟩ dX0_rowOf_35
        · replace hf := gifn h2 hf
          refine lv_aload_n hx hb dX0_rowOf_16 rfl (lv_at hl 1 rfl) ?_
          refine gt_X0_X0_ids hC hI ho dX0_rowOf_17 ?_
          refine lv_iload_n hx hb dX0_rowOf_20 rfl (lv_at hl 0 rfl) ?_
          obtain ⟨h3, hf⟩ := gifN hf
          refine g_iald hC hI (k := v2.toNatClampNeg) (gIA_2 ho) h3 rfl dX0_rowOf_21 ?_
          refine lv_iload_n hx hb dX0_rowOf_22 rfl (lv_at hl 2 rfl) ?_
          refine lv_icmp_ne (tgt := 28) hx hb dX0_rowOf_23 rfl (fun h4 => ?_) (fun h4 => ?_)
          · replace hf := gifn h4 hf
            refine lv_iinc (k := 0) (v := v2 + 1) (lv' := [(2, .int (v2 + 1)), (0, .ref (E.2.1 (o + 1))), (1, .int v1)]) hx hb dX0_rowOf_28 hl rfl rfl (by decide) rfl (fun ls hl => ?_)
            refine lv_goto (tgt := 2) hx hb dX0_rowOf_31 rfl ?_
            exact ih (v2 + 1) hf _ _ _ hI (lv_sub hl [0, 1, 2] rfl)
          · replace hf := gif h4 hf
            refine lv_iload_n hx hb dX0_rowOf_26 rfl (lv_at hl 0 rfl) ?_
            exact kr _ _ _ _ _ _ (gri hf) hI ⟨.int, rfl, rfl⟩ dX0_rowOf_27
  unfold f_X0_rowOf at hf
  refine lv_iconst (v := 0) hx hb dX0_rowOf_0 (by decide) ?_
  refine lv_istore_n (lv' := [(2, .int 0), (0, .ref (E.2.1 (o + 1))), (1, .int v1)]) hx hb dX0_rowOf_1 rfl hl (by decide) rfl (fun ls hl => ?_)
  exact L2 v1 gF 0 hf _ _ _ hI (lv_sub hl [0, 1, 2] rfl)
theorem dX0_hasRow_0 : decode cX0_hasRow 0 = .ok (.iload_n 1, 1) := by decide +kernel
theorem dX0_hasRow_1 : decode cX0_hasRow 1 = .ok (.ifCond .lt 21, 3) := by decide +kernel
theorem dX0_hasRow_4 : decode cX0_hasRow 4 = .ok (.iload_n 1, 1) := by decide +kernel
theorem dX0_hasRow_5 : decode cX0_hasRow 5 = .ok (.aload_n 0, 1) := by decide +kernel
theorem dX0_hasRow_6 : decode cX0_hasRow 6 = .ok (.getfield 30, 3) := by decide +kernel
theorem dX0_hasRow_9 : decode cX0_hasRow 9 = .ok (.if_icmp .ge 13, 3) := by decide +kernel
theorem dX0_hasRow_12 : decode cX0_hasRow 12 = .ok (.iload_n 1, 1) := by decide +kernel
theorem dX0_hasRow_13 : decode cX0_hasRow 13 = .ok (.bipush 75, 2) := by decide +kernel
theorem dX0_hasRow_15 : decode cX0_hasRow 15 = .ok (.if_icmp .ge 7, 3) := by decide +kernel
theorem dX0_hasRow_18 : decode cX0_hasRow 18 = .ok (.iconst 1, 1) := by decide +kernel
theorem dX0_hasRow_19 : decode cX0_hasRow 19 = .ok (.goto 4, 3) := by decide +kernel
theorem dX0_hasRow_22 : decode cX0_hasRow 22 = .ok (.iconst 0, 1) := by decide +kernel
theorem dX0_hasRow_23 : decode cX0_hasRow 23 = .ok (.ireturn, 1) := by decide +kernel
set_option maxRecDepth 100000 in
set_option maxHeartbeats 4000000 in
theorem C_X0_hasRow (l : Launch) (E : gE) (x : gX) {o : Nat} (ho : gOk o) {v1 : Int32} {M : gM} {r : Bool} (hf : f_X0_hasRow o v1 M = some r) : gM0 l E yX0_hasRow (.code yX0_hasRow cX0_hasRow 2 (some .boolean)) (gR 0 0) M x [.ref (E.2.1 (o + 1)), .int v1] (some (.int (gb r))) M := by
  refine gMet (by decide +kernel) (Nat.le_of_ble_eq_true rfl) ?_
  intro p e s m args below meth c H locs ls Q hC hl hI kr kv
  replace hC : gC p s m args c cX0_hasRow 2 RX0 E := hC
  replace hl : lv_has ls 2 [(0, .ref (E.2.1 (o + 1))), (1, .int v1)] := hl
  have hx := hC.1
  have hb := hC.2.1
  unfold f_X0_hasRow at hf
  refine lv_iload_n hx hb dX0_hasRow_0 rfl (lv_at hl 1 rfl) ?_
  refine lv_if_lt (tgt := 22) hx hb dX0_hasRow_1 rfl (fun h1 => ?_) (fun h1 => ?_)
  · replace hf := gif h1 hf
    refine lv_iconst (v := 0) hx hb dX0_hasRow_22 (by decide) ?_
    exact kr _ _ _ _ _ _ (grb0 hf) hI ⟨.boolean, rfl, rfl⟩ dX0_hasRow_23
  · replace hf := gifn h1 hf
    refine lv_iload_n hx hb dX0_hasRow_4 rfl (lv_at hl 1 rfl) ?_
    refine lv_aload_n hx hb dX0_hasRow_5 rfl (lv_at hl 0 rfl) ?_
    refine gt_X0_X0_count hC hI ho dX0_hasRow_6 ?_
    refine lv_icmp_ge (tgt := 22) hx hb dX0_hasRow_9 rfl (fun h2 => ?_) (fun h2 => ?_)
    · replace hf := gif h2 hf
      refine lv_iconst (v := 0) hx hb dX0_hasRow_22 (by decide) ?_
      exact kr _ _ _ _ _ _ (grb0 hf) hI ⟨.boolean, rfl, rfl⟩ dX0_hasRow_23
    · replace hf := gifn h2 hf
      refine lv_iload_n hx hb dX0_hasRow_12 rfl (lv_at hl 1 rfl) ?_
      refine lv_bipush (v := 75) hx hb dX0_hasRow_13 (by decide) ?_
      refine lv_icmp_ge (tgt := 22) hx hb dX0_hasRow_15 rfl (fun h3 => ?_) (fun h3 => ?_)
      · replace hf := gif h3 hf
        refine lv_iconst (v := 0) hx hb dX0_hasRow_22 (by decide) ?_
        exact kr _ _ _ _ _ _ (grb0 hf) hI ⟨.boolean, rfl, rfl⟩ dX0_hasRow_23
      · replace hf := gifn h3 hf
        refine lv_iconst (v := 1) hx hb dX0_hasRow_18 (by decide) ?_
        refine lv_goto (tgt := 23) hx hb dX0_hasRow_19 rfl ?_
        exact kr _ _ _ _ _ _ (grb1 hf) hI ⟨.boolean, rfl, rfl⟩ dX0_hasRow_23
theorem dX0_pile_0 : decode cX0_pile 0 = .ok (.aload_n 0, 1) := by decide +kernel
theorem dX0_pile_1 : decode cX0_pile 1 = .ok (.iload_n 1, 1) := by decide +kernel
theorem dX0_pile_2 : decode cX0_pile 2 = .ok (.invokevirtual 44, 3) := by decide +kernel
theorem dX0_pile_5 : decode cX0_pile 5 = .ok (.ifCond .eq 12, 3) := by decide +kernel
theorem dX0_pile_8 : decode cX0_pile 8 = .ok (.aload_n 0, 1) := by decide +kernel
theorem dX0_pile_9 : decode cX0_pile 9 = .ok (.getfield 21, 3) := by decide +kernel
theorem dX0_pile_12 : decode cX0_pile 12 = .ok (.iload_n 1, 1) := by decide +kernel
theorem dX0_pile_13 : decode cX0_pile 13 = .ok (.iaload, 1) := by decide +kernel
theorem dX0_pile_14 : decode cX0_pile 14 = .ok (.goto 4, 3) := by decide +kernel
theorem dX0_pile_17 : decode cX0_pile 17 = .ok (.iconst (-1), 1) := by decide +kernel
theorem dX0_pile_18 : decode cX0_pile 18 = .ok (.ireturn, 1) := by decide +kernel
set_option maxRecDepth 100000 in
set_option maxHeartbeats 4000000 in
theorem C_X0_pile (l : Launch) (E : gE) (x : gX) {o : Nat} (ho : gOk o) {v1 : Int32} {M : gM} {r : Int32} (hf : f_X0_pile o v1 M = some r) : gM0 l E yX0_pile (.code yX0_pile cX0_pile 2 (some .int)) (gR 1 21) M x [.ref (E.2.1 (o + 1)), .int v1] (some (.int r)) M := by
  refine gMet (by decide +kernel) (Nat.le_of_ble_eq_true rfl) ?_
  intro p e s m args below meth c H locs ls Q hC hl hI kr kv
  replace hC : gC p s m args c cX0_pile 2 RX0 E := hC
  replace hl : lv_has ls 2 [(0, .ref (E.2.1 (o + 1))), (1, .int v1)] := hl
  have hx := hC.1
  have hb := hC.2.1
  unfold f_X0_pile at hf
  refine lv_aload_n hx hb dX0_pile_0 rfl (lv_at hl 0 rfl) ?_
  refine lv_iload_n hx hb dX0_pile_1 rfl (lv_at hl 1 rfl) ?_
  obtain ⟨r1, hr2, hf⟩ := gbind hf
  have hr2 := C_X0_hasRow l E x ho hr2
  refine g_callVi (rest := []) hC hI hr2 Y_X0_hasRow V_X0_hasRow w267 (rcv_X0 hC hI ho) ⟨rfl, rfl⟩ ⟨Nat.le_of_ble_eq_true rfl, Nat.le_of_ble_eq_true rfl⟩ rfl hl.1 rfl (Nat.le_of_ble_eq_true rfl) dX0_pile_2 ⟨Nat.zero_le _, Nat.zero_le _⟩ (fun H locs hI => ?_)
  refine lv_if_eq (tgt := 17) hx hb dX0_pile_5 rfl (fun h3 => ?_) (fun h3 => ?_)
  · replace hf := gif h3 hf
    refine lv_iconst (v := (-1)) hx hb dX0_pile_17 (by decide) ?_
    exact kr _ _ _ _ _ _ (gri hf) hI ⟨.int, rfl, rfl⟩ dX0_pile_18
  · replace hf := gifn h3 hf
    refine lv_aload_n hx hb dX0_pile_8 rfl (lv_at hl 0 rfl) ?_
    refine gt_X0_X0_piles hC hI ho dX0_pile_9 ?_
    refine lv_iload_n hx hb dX0_pile_12 rfl (lv_at hl 1 rfl) ?_
    obtain ⟨h4, hf⟩ := gifN hf
    refine g_iald hC hI (k := v1.toNatClampNeg) (gIA_5 ho) h4 rfl dX0_pile_13 ?_
    refine lv_goto (tgt := 18) hx hb dX0_pile_14 rfl ?_
    exact kr _ _ _ _ _ _ (gri hf) hI ⟨.int, rfl, rfl⟩ dX0_pile_18
theorem dX0_yardRowOf_0 : decode cX0_yardRowOf 0 = .ok (.aload_n 0, 1) := by decide +kernel
theorem dX0_yardRowOf_1 : decode cX0_yardRowOf 1 = .ok (.iload_n 1, 1) := by decide +kernel
theorem dX0_yardRowOf_2 : decode cX0_yardRowOf 2 = .ok (.invokevirtual 66, 3) := by decide +kernel
theorem dX0_yardRowOf_5 : decode cX0_yardRowOf 5 = .ok (.istore_n 2, 1) := by decide +kernel
theorem dX0_yardRowOf_6 : decode cX0_yardRowOf 6 = .ok (.aload_n 0, 1) := by decide +kernel
theorem dX0_yardRowOf_7 : decode cX0_yardRowOf 7 = .ok (.iload_n 2, 1) := by decide +kernel
theorem dX0_yardRowOf_8 : decode cX0_yardRowOf 8 = .ok (.invokevirtual 69, 3) := by decide +kernel
theorem dX0_yardRowOf_11 : decode cX0_yardRowOf 11 = .ok (.bipush 12, 2) := by decide +kernel
theorem dX0_yardRowOf_13 : decode cX0_yardRowOf 13 = .ok (.if_icmp .ne 7, 3) := by decide +kernel
theorem dX0_yardRowOf_16 : decode cX0_yardRowOf 16 = .ok (.iload_n 2, 1) := by decide +kernel
theorem dX0_yardRowOf_17 : decode cX0_yardRowOf 17 = .ok (.goto 4, 3) := by decide +kernel
theorem dX0_yardRowOf_20 : decode cX0_yardRowOf 20 = .ok (.iconst (-1), 1) := by decide +kernel
theorem dX0_yardRowOf_21 : decode cX0_yardRowOf 21 = .ok (.ireturn, 1) := by decide +kernel
set_option maxRecDepth 100000 in
set_option maxHeartbeats 4000000 in
theorem C_X0_yardRowOf (l : Launch) (E : gE) (x : gX) {o : Nat} (ho : gOk o) {v1 : Int32} {M : gM} {r : Int32} (hf : f_X0_yardRowOf o v1 M = some r) : gM0 l E yX0_yardRowOf (.code yX0_yardRowOf cX0_yardRowOf 3 (some .int)) (gR 2 42) M x [.ref (E.2.1 (o + 1)), .int v1] (some (.int r)) M := by
  refine gMet (by decide +kernel) (Nat.le_of_ble_eq_true rfl) ?_
  intro p e s m args below meth c H locs ls Q hC hl hI kr kv
  replace hC : gC p s m args c cX0_yardRowOf 3 RX0 E := hC
  replace hl : lv_has ls 3 [(0, .ref (E.2.1 (o + 1))), (1, .int v1)] := hl
  have hx := hC.1
  have hb := hC.2.1
  unfold f_X0_yardRowOf at hf
  refine lv_aload_n hx hb dX0_yardRowOf_0 rfl (lv_at hl 0 rfl) ?_
  refine lv_iload_n hx hb dX0_yardRowOf_1 rfl (lv_at hl 1 rfl) ?_
  obtain ⟨r1, hr2, hf⟩ := gbind hf
  have hr2 := C_X0_rowOf l E x ho hr2
  refine g_callVi (rest := []) hC hI hr2 Y_X0_rowOf V_X0_rowOf w259 (rcv_X0 hC hI ho) ⟨rfl, rfl⟩ ⟨Nat.le_of_ble_eq_true rfl, Nat.le_of_ble_eq_true rfl⟩ rfl hl.1 rfl (Nat.le_of_ble_eq_true rfl) dX0_yardRowOf_2 ⟨Nat.zero_le _, Nat.zero_le _⟩ (fun H locs hI => ?_)
  refine lv_istore_n (lv' := [(2, .int r1), (0, .ref (E.2.1 (o + 1))), (1, .int v1)]) hx hb dX0_yardRowOf_5 rfl hl (by decide) rfl (fun ls hl => ?_)
  refine lv_aload_n hx hb dX0_yardRowOf_6 rfl (lv_at hl 1 rfl) ?_
  refine lv_iload_n hx hb dX0_yardRowOf_7 rfl (lv_at hl 0 rfl) ?_
  obtain ⟨r3, hr4, hf⟩ := gbind hf
  have hr4 := C_X0_pile l E x ho hr4
  refine g_callVi (rest := []) hC hI hr4 Y_X0_pile V_X0_pile w263 (rcv_X0 hC hI ho) ⟨rfl, rfl⟩ ⟨Nat.le_of_ble_eq_true rfl, Nat.le_of_ble_eq_true rfl⟩ rfl hl.1 rfl (Nat.le_of_ble_eq_true rfl) dX0_yardRowOf_8 ⟨Nat.zero_le _, Nat.zero_le _⟩ (fun H locs hI => ?_)
  refine lv_bipush (v := 12) hx hb dX0_yardRowOf_11 (by decide) ?_
  refine lv_icmp_ne (tgt := 20) hx hb dX0_yardRowOf_13 rfl (fun h5 => ?_) (fun h5 => ?_)
  · replace hf := gifn h5 hf
    refine lv_iconst (v := (-1)) hx hb dX0_yardRowOf_20 (by decide) ?_
    exact kr _ _ _ _ _ _ (gri hf) hI ⟨.int, rfl, rfl⟩ dX0_yardRowOf_21
  · replace hf := gif h5 hf
    refine lv_iload_n hx hb dX0_yardRowOf_16 rfl (lv_at hl 0 rfl) ?_
    refine lv_goto (tgt := 21) hx hb dX0_yardRowOf_17 rfl ?_
    exact kr _ _ _ _ _ _ (gri hf) hI ⟨.int, rfl, rfl⟩ dX0_yardRowOf_21
theorem dX0_loadOf_0 : decode cX0_loadOf 0 = .ok (.iconst 0, 1) := by decide +kernel
theorem dX0_loadOf_1 : decode cX0_loadOf 1 = .ok (.istore_n 2, 1) := by decide +kernel
theorem dX0_loadOf_2 : decode cX0_loadOf 2 = .ok (.iconst 0, 1) := by decide +kernel
theorem dX0_loadOf_3 : decode cX0_loadOf 3 = .ok (.istore_n 3, 1) := by decide +kernel
theorem dX0_loadOf_4 : decode cX0_loadOf 4 = .ok (.iload_n 3, 1) := by decide +kernel
theorem dX0_loadOf_5 : decode cX0_loadOf 5 = .ok (.iconst 4, 1) := by decide +kernel
theorem dX0_loadOf_6 : decode cX0_loadOf 6 = .ok (.if_icmp .ge 21, 3) := by decide +kernel
theorem dX0_loadOf_9 : decode cX0_loadOf 9 = .ok (.iload_n 2, 1) := by decide +kernel
theorem dX0_loadOf_10 : decode cX0_loadOf 10 = .ok (.aload_n 0, 1) := by decide +kernel
theorem dX0_loadOf_11 : decode cX0_loadOf 11 = .ok (.iload_n 1, 1) := by decide +kernel
theorem dX0_loadOf_12 : decode cX0_loadOf 12 = .ok (.iload_n 3, 1) := by decide +kernel
theorem dX0_loadOf_13 : decode cX0_loadOf 13 = .ok (.invokestatic 76, 3) := by decide +kernel
theorem dX0_loadOf_16 : decode cX0_loadOf 16 = .ok (.invokevirtual 40, 3) := by decide +kernel
theorem dX0_loadOf_19 : decode cX0_loadOf 19 = .ok (.iadd, 1) := by decide +kernel
theorem dX0_loadOf_20 : decode cX0_loadOf 20 = .ok (.istore_n 2, 1) := by decide +kernel
theorem dX0_loadOf_21 : decode cX0_loadOf 21 = .ok (.iinc 3 1, 3) := by decide +kernel
theorem dX0_loadOf_24 : decode cX0_loadOf 24 = .ok (.goto (-20), 3) := by decide +kernel
theorem dX0_loadOf_27 : decode cX0_loadOf 27 = .ok (.iload_n 2, 1) := by decide +kernel
theorem dX0_loadOf_28 : decode cX0_loadOf 28 = .ok (.ireturn, 1) := by decide +kernel
set_option maxRecDepth 100000 in
set_option maxHeartbeats 4000000 in
theorem C_X0_loadOf (l : Launch) (E : gE) (x : gX) {o : Nat} (ho : gOk o) {v1 : Int32} {M : gM} {r : Int32} (hf : f_X0_loadOf o v1 M = some r) : gM0 l E yX0_loadOf (.code yX0_loadOf cX0_loadOf 4 (some .int)) (gR 1 23) M x [.ref (E.2.1 (o + 1)), .int v1] (some (.int r)) M := by
  refine gMet (by decide +kernel) (Nat.le_of_ble_eq_true rfl) ?_
  intro p e s m args below meth c H locs ls Q hC hl hI kr kv
  replace hC : gC p s m args c cX0_loadOf 4 RX0 E := hC
  replace hl : lv_has ls 4 [(0, .ref (E.2.1 (o + 1))), (1, .int v1)] := hl
  have hx := hC.1
  have hb := hC.2.1
  have L4 : ∀ (v1 : Int32) (n : Nat) (v3 : Int32) (v2 : Int32), f_X0_loadOf_L4 o M v1 n v3 v2 = some r → ∀ (H : Heap) (locs : List Loc) (ls : Array Slot), gI E s M x H locs → lv_has ls 4 [(3, .int v3), (2, .int v2), (0, .ref (E.2.1 (o + 1))), (1, .int v1)] → W p l e (gR 1 23) s m args below meth c H locs 0 0 Q (F0 m 4 ls []) := by
    intro v1 n
    induction n with
    | zero => intro v3 v2 hf; rw [f_X0_loadOf_L4] at hf; cases hf
    | succ n ih =>
      intro v3 v2 hf H locs ls hI hl
      rw [f_X0_loadOf_L4] at hf
      refine lv_iload_n hx hb dX0_loadOf_4 rfl (lv_at hl 0 rfl) ?_
      refine lv_iconst (v := 4) hx hb dX0_loadOf_5 (by decide) ?_
      refine lv_icmp_ge (tgt := 27) hx hb dX0_loadOf_6 rfl (fun h1 => ?_) (fun h1 => ?_)
      · replace hf := gif h1 hf
        refine lv_iload_n hx hb dX0_loadOf_27 rfl (lv_at hl 1 rfl) ?_
        exact kr _ _ _ _ _ _ (gri hf) hI ⟨.int, rfl, rfl⟩ dX0_loadOf_28
      · replace hf := gifn h1 hf
        refine lv_iload_n hx hb dX0_loadOf_9 rfl (lv_at hl 1 rfl) ?_
        refine lv_aload_n hx hb dX0_loadOf_10 rfl (lv_at hl 2 rfl) ?_
        refine lv_iload_n hx hb dX0_loadOf_11 rfl (lv_at hl 3 rfl) ?_
        refine lv_iload_n hx hb dX0_loadOf_12 rfl (lv_at hl 0 rfl) ?_
        obtain ⟨r2, hr3, hf⟩ := gbind hf
        have hr3 := C_X6_pileOf l E x  hr3
        refine g_callSNi (rest := [.ref (E.2.1 (o + 1)), .int v2]) hC hI hr3 Y_X6_pileOf S_X6_pileOf (List.mem_of_getElem? (i := 7) rfl) ⟨rfl, rfl⟩ ⟨Nat.le_of_ble_eq_true rfl, Nat.le_of_ble_eq_true rfl⟩ rfl hl.1 rfl (Nat.le_of_ble_eq_true rfl) dX0_loadOf_13 ⟨Nat.zero_le _, Nat.zero_le _⟩ (fun H locs hI => ?_)
        obtain ⟨r4, hr5, hf⟩ := gbind hf
        have hr5 := C_X0_height l E x ho hr5
        refine g_callVi (rest := [.int v2]) hC hI hr5 Y_X0_height V_X0_height w412 (rcv_X0 hC hI ho) ⟨rfl, rfl⟩ ⟨Nat.le_of_ble_eq_true rfl, Nat.le_of_ble_eq_true rfl⟩ rfl hl.1 rfl (Nat.le_of_ble_eq_true rfl) dX0_loadOf_16 ⟨Nat.zero_le _, Nat.zero_le _⟩ (fun H locs hI => ?_)
        refine lv_iadd hx hb dX0_loadOf_19 ?_
        obtain ⟨z6, ez6, hf⟩ := glet hf
        refine g_top ez6 ?_
        refine lv_istore_n (lv' := [(2, .int z6), (3, .int v3), (0, .ref (E.2.1 (o + 1))), (1, .int v1)]) hx hb dX0_loadOf_20 rfl hl (by decide) rfl (fun ls hl => ?_)
        refine lv_iinc (k := 1) (v := v3 + 1) (lv' := [(3, .int (v3 + 1)), (2, .int z6), (0, .ref (E.2.1 (o + 1))), (1, .int v1)]) hx hb dX0_loadOf_21 hl rfl rfl (by decide) rfl (fun ls hl => ?_)
        refine lv_goto (tgt := 4) hx hb dX0_loadOf_24 rfl ?_
        exact ih (v3 + 1) z6 hf _ _ _ hI (lv_sub hl [0, 1, 2, 3] rfl)
  unfold f_X0_loadOf at hf
  refine lv_iconst (v := 0) hx hb dX0_loadOf_0 (by decide) ?_
  refine lv_istore_n (lv' := [(2, .int 0), (0, .ref (E.2.1 (o + 1))), (1, .int v1)]) hx hb dX0_loadOf_1 rfl hl (by decide) rfl (fun ls hl => ?_)
  refine lv_iconst (v := 0) hx hb dX0_loadOf_2 (by decide) ?_
  refine lv_istore_n (lv' := [(3, .int 0), (2, .int 0), (0, .ref (E.2.1 (o + 1))), (1, .int v1)]) hx hb dX0_loadOf_3 rfl hl (by decide) rfl (fun ls hl => ?_)
  exact L4 v1 gF 0 0 hf _ _ _ hI (lv_sub hl [0, 1, 2, 3] rfl)
theorem dJ9_floorMod_7cf53_0 : decode cJ9_floorMod_7cf53 0 = .ok (.iload_n 0, 1) := by decide +kernel
theorem dJ9_floorMod_7cf53_1 : decode cJ9_floorMod_7cf53 1 = .ok (.iload_n 1, 1) := by decide +kernel
theorem dJ9_floorMod_7cf53_2 : decode cJ9_floorMod_7cf53 2 = .ok (.irem, 1) := by decide +kernel
theorem dJ9_floorMod_7cf53_3 : decode cJ9_floorMod_7cf53 3 = .ok (.istore_n 2, 1) := by decide +kernel
theorem dJ9_floorMod_7cf53_4 : decode cJ9_floorMod_7cf53 4 = .ok (.iload_n 0, 1) := by decide +kernel
theorem dJ9_floorMod_7cf53_5 : decode cJ9_floorMod_7cf53 5 = .ok (.iload_n 1, 1) := by decide +kernel
theorem dJ9_floorMod_7cf53_6 : decode cJ9_floorMod_7cf53 6 = .ok (.ixor, 1) := by decide +kernel
theorem dJ9_floorMod_7cf53_7 : decode cJ9_floorMod_7cf53 7 = .ok (.ifCond .ge 11, 3) := by decide +kernel
theorem dJ9_floorMod_7cf53_10 : decode cJ9_floorMod_7cf53 10 = .ok (.iload_n 2, 1) := by decide +kernel
theorem dJ9_floorMod_7cf53_11 : decode cJ9_floorMod_7cf53 11 = .ok (.ifCond .eq 7, 3) := by decide +kernel
theorem dJ9_floorMod_7cf53_14 : decode cJ9_floorMod_7cf53 14 = .ok (.iload_n 2, 1) := by decide +kernel
theorem dJ9_floorMod_7cf53_15 : decode cJ9_floorMod_7cf53 15 = .ok (.iload_n 1, 1) := by decide +kernel
theorem dJ9_floorMod_7cf53_16 : decode cJ9_floorMod_7cf53 16 = .ok (.iadd, 1) := by decide +kernel
theorem dJ9_floorMod_7cf53_17 : decode cJ9_floorMod_7cf53 17 = .ok (.ireturn, 1) := by decide +kernel
theorem dJ9_floorMod_7cf53_18 : decode cJ9_floorMod_7cf53 18 = .ok (.iload_n 2, 1) := by decide +kernel
theorem dJ9_floorMod_7cf53_19 : decode cJ9_floorMod_7cf53 19 = .ok (.ireturn, 1) := by decide +kernel
set_option maxRecDepth 100000 in
set_option maxHeartbeats 4000000 in
theorem C_J9_floorMod_7cf53 (l : Launch) (E : gE) (x : gX) {v0 v1 : Int32} {M : gM} {r : Int32} (hf : f_J9_floorMod_7cf53 v0 v1 M = some r) : gM0 l E yJ9_floorMod_7cf53 (.code yJ9_floorMod_7cf53 cJ9_floorMod_7cf53 3 (some .int)) (gR 0 0) M x [.int v0, .int v1] (some (.int r)) M := by
  refine gMet (by decide +kernel) (Nat.le_of_ble_eq_true rfl) ?_
  intro p e s m args below meth c H locs ls Q hC hl hI kr kv
  replace hC : gC p s m args c cJ9_floorMod_7cf53 3 RJ9 E := hC
  replace hl : lv_has ls 3 [(0, .int v0), (1, .int v1)] := hl
  have hx := hC.1
  have hb := hC.2.1
  unfold f_J9_floorMod_7cf53 at hf
  refine lv_iload_n hx hb dJ9_floorMod_7cf53_0 rfl (lv_at hl 0 rfl) ?_
  refine lv_iload_n hx hb dJ9_floorMod_7cf53_1 rfl (lv_at hl 1 rfl) ?_
  obtain ⟨h1, hf⟩ := gifNn hf
  refine lv_irem hx hb dJ9_floorMod_7cf53_2 h1 ?_
  obtain ⟨z2, ez2, hf⟩ := glet hf
  refine g_top ez2 ?_
  refine lv_istore_n (lv' := [(2, .int z2), (0, .int v0), (1, .int v1)]) hx hb dJ9_floorMod_7cf53_3 rfl hl (by decide) rfl (fun ls hl => ?_)
  refine lv_iload_n hx hb dJ9_floorMod_7cf53_4 rfl (lv_at hl 1 rfl) ?_
  refine lv_iload_n hx hb dJ9_floorMod_7cf53_5 rfl (lv_at hl 2 rfl) ?_
  refine lv_ixor hx hb dJ9_floorMod_7cf53_6 ?_
  refine lv_if_ge (tgt := 18) hx hb dJ9_floorMod_7cf53_7 rfl (fun h3 => ?_) (fun h3 => ?_)
  · replace hf := gif h3 hf
    refine lv_iload_n hx hb dJ9_floorMod_7cf53_18 rfl (lv_at hl 0 rfl) ?_
    exact kr _ _ _ _ _ _ (gri hf) hI ⟨.int, rfl, rfl⟩ dJ9_floorMod_7cf53_19
  · replace hf := gifn h3 hf
    refine lv_iload_n hx hb dJ9_floorMod_7cf53_10 rfl (lv_at hl 0 rfl) ?_
    refine lv_if_eq (tgt := 18) hx hb dJ9_floorMod_7cf53_11 rfl (fun h4 => ?_) (fun h4 => ?_)
    · replace hf := gif h4 hf
      refine lv_iload_n hx hb dJ9_floorMod_7cf53_18 rfl (lv_at hl 0 rfl) ?_
      exact kr _ _ _ _ _ _ (gri hf) hI ⟨.int, rfl, rfl⟩ dJ9_floorMod_7cf53_19
    · replace hf := gifn h4 hf
      refine lv_iload_n hx hb dJ9_floorMod_7cf53_14 rfl (lv_at hl 0 rfl) ?_
      refine lv_iload_n hx hb dJ9_floorMod_7cf53_15 rfl (lv_at hl 2 rfl) ?_
      refine lv_iadd hx hb dJ9_floorMod_7cf53_16 ?_
      exact kr _ _ _ _ _ _ (gri hf) hI ⟨.int, rfl, rfl⟩ dJ9_floorMod_7cf53_17
theorem dX6_tideAt_0 : decode cX6_tideAt 0 = .ok (.iload_n 0, 1) := by decide +kernel
theorem dX6_tideAt_1 : decode cX6_tideAt 1 = .ok (.bipush 12, 2) := by decide +kernel
theorem dX6_tideAt_3 : decode cX6_tideAt 3 = .ok (.invokestatic 366, 3) := by decide +kernel
theorem dX6_tideAt_6 : decode cX6_tideAt 6 = .ok (.istore_n 1, 1) := by decide +kernel
theorem dX6_tideAt_7 : decode cX6_tideAt 7 = .ok (.iload_n 1, 1) := by decide +kernel
theorem dX6_tideAt_8 : decode cX6_tideAt 8 = .ok (.bipush 6, 2) := by decide +kernel
theorem dX6_tideAt_10 : decode cX6_tideAt 10 = .ok (.if_icmp .gt 7, 3) := by decide +kernel
theorem dX6_tideAt_13 : decode cX6_tideAt 13 = .ok (.iload_n 1, 1) := by decide +kernel
theorem dX6_tideAt_14 : decode cX6_tideAt 14 = .ok (.goto 7, 3) := by decide +kernel
theorem dX6_tideAt_17 : decode cX6_tideAt 17 = .ok (.bipush 12, 2) := by decide +kernel
theorem dX6_tideAt_19 : decode cX6_tideAt 19 = .ok (.iload_n 1, 1) := by decide +kernel
theorem dX6_tideAt_20 : decode cX6_tideAt 20 = .ok (.isub, 1) := by decide +kernel
theorem dX6_tideAt_21 : decode cX6_tideAt 21 = .ok (.ireturn, 1) := by decide +kernel
set_option maxRecDepth 100000 in
set_option maxHeartbeats 4000000 in
theorem C_X6_tideAt (l : Launch) (E : gE) (x : gX) {v0 : Int32} {M : gM} {r : Int32} (hf : f_X6_tideAt v0 M = some r) : gM0 l E yX6_tideAt (.code yX6_tideAt cX6_tideAt 2 (some .int)) (gR 1 22) M x [.int v0] (some (.int r)) M := by
  refine gMet (by decide +kernel) (Nat.le_of_ble_eq_true rfl) ?_
  intro p e s m args below meth c H locs ls Q hC hl hI kr kv
  replace hC : gC p s m args c cX6_tideAt 2 RX6 E := hC
  replace hl : lv_has ls 2 [(0, .int v0)] := hl
  have hx := hC.1
  have hb := hC.2.1
  unfold f_X6_tideAt at hf
  refine lv_iload_n hx hb dX6_tideAt_0 rfl (lv_at hl 0 rfl) ?_
  refine lv_bipush (v := 12) hx hb dX6_tideAt_1 (by decide) ?_
  obtain ⟨r1, hr2, hf⟩ := gbind hf
  have hr2 := C_J9_floorMod_7cf53 l E x  hr2
  refine g_callSi (rest := []) hC hI hr2 Y_J9_floorMod_7cf53 S_J9_floorMod_7cf53 w233 ⟨rfl, rfl⟩ ⟨Nat.le_of_ble_eq_true rfl, Nat.le_of_ble_eq_true rfl⟩ rfl hl.1 rfl (Nat.le_of_ble_eq_true rfl) dX6_tideAt_3 ⟨Nat.zero_le _, Nat.zero_le _⟩ (fun H locs hI => ?_)
  refine lv_istore_n (lv' := [(1, .int r1), (0, .int v0)]) hx hb dX6_tideAt_6 rfl hl (by decide) rfl (fun ls hl => ?_)
  refine lv_iload_n hx hb dX6_tideAt_7 rfl (lv_at hl 0 rfl) ?_
  refine lv_bipush (v := 6) hx hb dX6_tideAt_8 (by decide) ?_
  refine lv_icmp_gt (tgt := 17) hx hb dX6_tideAt_10 rfl (fun h3 => ?_) (fun h3 => ?_)
  · replace hf := gif h3 hf
    refine lv_bipush (v := 12) hx hb dX6_tideAt_17 (by decide) ?_
    refine lv_iload_n hx hb dX6_tideAt_19 rfl (lv_at hl 0 rfl) ?_
    refine lv_isub hx hb dX6_tideAt_20 ?_
    exact kr _ _ _ _ _ _ (gri hf) hI ⟨.int, rfl, rfl⟩ dX6_tideAt_21
  · replace hf := gifn h3 hf
    refine lv_iload_n hx hb dX6_tideAt_13 rfl (lv_at hl 0 rfl) ?_
    refine lv_goto (tgt := 21) hx hb dX6_tideAt_14 rfl ?_
    exact kr _ _ _ _ _ _ (gri hf) hI ⟨.int, rfl, rfl⟩ dX6_tideAt_21
theorem dX6_passingFault_0 : decode cX6_passingFault 0 = .ok (.iload_n 0, 1) := by decide +kernel
theorem dX6_passingFault_1 : decode cX6_passingFault 1 = .ok (.iconst 1, 1) := by decide +kernel
theorem dX6_passingFault_2 : decode cX6_passingFault 2 = .ok (.if_icmp .lt 9, 3) := by decide +kernel
theorem dX6_passingFault_5 : decode cX6_passingFault 5 = .ok (.iload_n 0, 1) := by decide +kernel
theorem dX6_passingFault_6 : decode cX6_passingFault 6 = .ok (.bipush 100, 2) := by decide +kernel
theorem dX6_passingFault_8 : decode cX6_passingFault 8 = .ok (.if_icmp .le 7, 3) := by decide +kernel
theorem dX6_passingFault_11 : decode cX6_passingFault 11 = .ok (.iconst 2, 1) := by decide +kernel
theorem dX6_passingFault_12 : decode cX6_passingFault 12 = .ok (.goto 4, 3) := by decide +kernel
theorem dX6_passingFault_15 : decode cX6_passingFault 15 = .ok (.iconst 0, 1) := by decide +kernel
theorem dX6_passingFault_16 : decode cX6_passingFault 16 = .ok (.ireturn, 1) := by decide +kernel
set_option maxRecDepth 100000 in
set_option maxHeartbeats 4000000 in
theorem C_X6_passingFault (l : Launch) (E : gE) (x : gX) {v0 : Int32} {M : gM} {r : Int32} (hf : f_X6_passingFault v0 M = some r) : gM0 l E yX6_passingFault (.code yX6_passingFault cX6_passingFault 1 (some .int)) (gR 0 0) M x [.int v0] (some (.int r)) M := by
  refine gMet (by decide +kernel) (Nat.le_of_ble_eq_true rfl) ?_
  intro p e s m args below meth c H locs ls Q hC hl hI kr kv
  replace hC : gC p s m args c cX6_passingFault 1 RX6 E := hC
  replace hl : lv_has ls 1 [(0, .int v0)] := hl
  have hx := hC.1
  have hb := hC.2.1
  unfold f_X6_passingFault at hf
  refine lv_iload_n hx hb dX6_passingFault_0 rfl (lv_at hl 0 rfl) ?_
  refine lv_iconst (v := 1) hx hb dX6_passingFault_1 (by decide) ?_
  refine lv_icmp_lt (tgt := 11) hx hb dX6_passingFault_2 rfl (fun h1 => ?_) (fun h1 => ?_)
  · replace hf := gif h1 hf
    refine lv_iconst (v := 2) hx hb dX6_passingFault_11 (by decide) ?_
    refine lv_goto (tgt := 16) hx hb dX6_passingFault_12 rfl ?_
    exact kr _ _ _ _ _ _ (gri hf) hI ⟨.int, rfl, rfl⟩ dX6_passingFault_16
  · replace hf := gifn h1 hf
    refine lv_iload_n hx hb dX6_passingFault_5 rfl (lv_at hl 0 rfl) ?_
    refine lv_bipush (v := 100) hx hb dX6_passingFault_6 (by decide) ?_
    refine lv_icmp_le (tgt := 15) hx hb dX6_passingFault_8 rfl (fun h2 => ?_) (fun h2 => ?_)
    · replace hf := gif h2 hf
      refine lv_iconst (v := 0) hx hb dX6_passingFault_15 (by decide) ?_
      exact kr _ _ _ _ _ _ (gri hf) hI ⟨.int, rfl, rfl⟩ dX6_passingFault_16
    · replace hf := gifn h2 hf
      refine lv_iconst (v := 2) hx hb dX6_passingFault_11 (by decide) ?_
      refine lv_goto (tgt := 16) hx hb dX6_passingFault_12 rfl ?_
      exact kr _ _ _ _ _ _ (gri hf) hI ⟨.int, rfl, rfl⟩ dX6_passingFault_16
theorem dX0_shipRowOf_0 : decode cX0_shipRowOf 0 = .ok (.aload_n 0, 1) := by decide +kernel
theorem dX0_shipRowOf_1 : decode cX0_shipRowOf 1 = .ok (.iload_n 1, 1) := by decide +kernel
theorem dX0_shipRowOf_2 : decode cX0_shipRowOf 2 = .ok (.invokevirtual 66, 3) := by decide +kernel
theorem dX0_shipRowOf_5 : decode cX0_shipRowOf 5 = .ok (.istore_n 2, 1) := by decide +kernel
theorem dX0_shipRowOf_6 : decode cX0_shipRowOf 6 = .ok (.aload_n 0, 1) := by decide +kernel
theorem dX0_shipRowOf_7 : decode cX0_shipRowOf 7 = .ok (.iload_n 2, 1) := by decide +kernel
theorem dX0_shipRowOf_8 : decode cX0_shipRowOf 8 = .ok (.invokevirtual 69, 3) := by decide +kernel
theorem dX0_shipRowOf_11 : decode cX0_shipRowOf 11 = .ok (.bipush 12, 2) := by decide +kernel
theorem dX0_shipRowOf_13 : decode cX0_shipRowOf 13 = .ok (.if_icmp .ne 7, 3) := by decide +kernel
theorem dX0_shipRowOf_16 : decode cX0_shipRowOf 16 = .ok (.iconst (-1), 1) := by decide +kernel
theorem dX0_shipRowOf_17 : decode cX0_shipRowOf 17 = .ok (.goto 4, 3) := by decide +kernel
theorem dX0_shipRowOf_20 : decode cX0_shipRowOf 20 = .ok (.iload_n 2, 1) := by decide +kernel
theorem dX0_shipRowOf_21 : decode cX0_shipRowOf 21 = .ok (.ireturn, 1) := by decide +kernel
set_option maxRecDepth 100000 in
set_option maxHeartbeats 4000000 in
theorem C_X0_shipRowOf (l : Launch) (E : gE) (x : gX) {o : Nat} (ho : gOk o) {v1 : Int32} {M : gM} {r : Int32} (hf : f_X0_shipRowOf o v1 M = some r) : gM0 l E yX0_shipRowOf (.code yX0_shipRowOf cX0_shipRowOf 3 (some .int)) (gR 2 42) M x [.ref (E.2.1 (o + 1)), .int v1] (some (.int r)) M := by
  refine gMet (by decide +kernel) (Nat.le_of_ble_eq_true rfl) ?_
  intro p e s m args below meth c H locs ls Q hC hl hI kr kv
  replace hC : gC p s m args c cX0_shipRowOf 3 RX0 E := hC
  replace hl : lv_has ls 3 [(0, .ref (E.2.1 (o + 1))), (1, .int v1)] := hl
  have hx := hC.1
  have hb := hC.2.1
  unfold f_X0_shipRowOf at hf
  refine lv_aload_n hx hb dX0_shipRowOf_0 rfl (lv_at hl 0 rfl) ?_
  refine lv_iload_n hx hb dX0_shipRowOf_1 rfl (lv_at hl 1 rfl) ?_
  obtain ⟨r1, hr2, hf⟩ := gbind hf
  have hr2 := C_X0_rowOf l E x ho hr2
  refine g_callVi (rest := []) hC hI hr2 Y_X0_rowOf V_X0_rowOf w259 (rcv_X0 hC hI ho) ⟨rfl, rfl⟩ ⟨Nat.le_of_ble_eq_true rfl, Nat.le_of_ble_eq_true rfl⟩ rfl hl.1 rfl (Nat.le_of_ble_eq_true rfl) dX0_shipRowOf_2 ⟨Nat.zero_le _, Nat.zero_le _⟩ (fun H locs hI => ?_)
  refine lv_istore_n (lv' := [(2, .int r1), (0, .ref (E.2.1 (o + 1))), (1, .int v1)]) hx hb dX0_shipRowOf_5 rfl hl (by decide) rfl (fun ls hl => ?_)
  refine lv_aload_n hx hb dX0_shipRowOf_6 rfl (lv_at hl 1 rfl) ?_
  refine lv_iload_n hx hb dX0_shipRowOf_7 rfl (lv_at hl 0 rfl) ?_
  obtain ⟨r3, hr4, hf⟩ := gbind hf
  have hr4 := C_X0_pile l E x ho hr4
  refine g_callVi (rest := []) hC hI hr4 Y_X0_pile V_X0_pile w263 (rcv_X0 hC hI ho) ⟨rfl, rfl⟩ ⟨Nat.le_of_ble_eq_true rfl, Nat.le_of_ble_eq_true rfl⟩ rfl hl.1 rfl (Nat.le_of_ble_eq_true rfl) dX0_shipRowOf_8 ⟨Nat.zero_le _, Nat.zero_le _⟩ (fun H locs hI => ?_)
  refine lv_bipush (v := 12) hx hb dX0_shipRowOf_11 (by decide) ?_
  refine lv_icmp_ne (tgt := 20) hx hb dX0_shipRowOf_13 rfl (fun h5 => ?_) (fun h5 => ?_)
  · replace hf := gifn h5 hf
    refine lv_iload_n hx hb dX0_shipRowOf_20 rfl (lv_at hl 0 rfl) ?_
    exact kr _ _ _ _ _ _ (gri hf) hI ⟨.int, rfl, rfl⟩ dX0_shipRowOf_21
  · replace hf := gif h5 hf
    refine lv_iconst (v := (-1)) hx hb dX0_shipRowOf_16 (by decide) ?_
    refine lv_goto (tgt := 21) hx hb dX0_shipRowOf_17 rfl ?_
    exact kr _ _ _ _ _ _ (gri hf) hI ⟨.int, rfl, rfl⟩ dX0_shipRowOf_21
theorem dX0_weight_0 : decode cX0_weight 0 = .ok (.aload_n 0, 1) := by decide +kernel
theorem dX0_weight_1 : decode cX0_weight 1 = .ok (.iload_n 1, 1) := by decide +kernel
theorem dX0_weight_2 : decode cX0_weight 2 = .ok (.invokevirtual 44, 3) := by decide +kernel
theorem dX0_weight_5 : decode cX0_weight 5 = .ok (.ifCond .eq 12, 3) := by decide +kernel
theorem dX0_weight_8 : decode cX0_weight 8 = .ok (.aload_n 0, 1) := by decide +kernel
theorem dX0_weight_9 : decode cX0_weight 9 = .ok (.getfield 15, 3) := by decide +kernel
theorem dX0_weight_12 : decode cX0_weight 12 = .ok (.iload_n 1, 1) := by decide +kernel
theorem dX0_weight_13 : decode cX0_weight 13 = .ok (.iaload, 1) := by decide +kernel
theorem dX0_weight_14 : decode cX0_weight 14 = .ok (.goto 4, 3) := by decide +kernel
theorem dX0_weight_17 : decode cX0_weight 17 = .ok (.iconst 0, 1) := by decide +kernel
theorem dX0_weight_18 : decode cX0_weight 18 = .ok (.ireturn, 1) := by decide +kernel
set_option maxRecDepth 100000 in
set_option maxHeartbeats 4000000 in
theorem C_X0_weight (l : Launch) (E : gE) (x : gX) {o : Nat} (ho : gOk o) {v1 : Int32} {M : gM} {r : Int32} (hf : f_X0_weight o v1 M = some r) : gM0 l E yX0_weight (.code yX0_weight cX0_weight 2 (some .int)) (gR 1 21) M x [.ref (E.2.1 (o + 1)), .int v1] (some (.int r)) M := by
  refine gMet (by decide +kernel) (Nat.le_of_ble_eq_true rfl) ?_
  intro p e s m args below meth c H locs ls Q hC hl hI kr kv
  replace hC : gC p s m args c cX0_weight 2 RX0 E := hC
  replace hl : lv_has ls 2 [(0, .ref (E.2.1 (o + 1))), (1, .int v1)] := hl
  have hx := hC.1
  have hb := hC.2.1
  unfold f_X0_weight at hf
  refine lv_aload_n hx hb dX0_weight_0 rfl (lv_at hl 0 rfl) ?_
  refine lv_iload_n hx hb dX0_weight_1 rfl (lv_at hl 1 rfl) ?_
  obtain ⟨r1, hr2, hf⟩ := gbind hf
  have hr2 := C_X0_hasRow l E x ho hr2
  refine g_callVi (rest := []) hC hI hr2 Y_X0_hasRow V_X0_hasRow w267 (rcv_X0 hC hI ho) ⟨rfl, rfl⟩ ⟨Nat.le_of_ble_eq_true rfl, Nat.le_of_ble_eq_true rfl⟩ rfl hl.1 rfl (Nat.le_of_ble_eq_true rfl) dX0_weight_2 ⟨Nat.zero_le _, Nat.zero_le _⟩ (fun H locs hI => ?_)
  refine lv_if_eq (tgt := 17) hx hb dX0_weight_5 rfl (fun h3 => ?_) (fun h3 => ?_)
  · replace hf := gif h3 hf
    refine lv_iconst (v := 0) hx hb dX0_weight_17 (by decide) ?_
    exact kr _ _ _ _ _ _ (gri hf) hI ⟨.int, rfl, rfl⟩ dX0_weight_18
  · replace hf := gifn h3 hf
    refine lv_aload_n hx hb dX0_weight_8 rfl (lv_at hl 0 rfl) ?_
    refine gt_X0_X0_weights hC hI ho dX0_weight_9 ?_
    refine lv_iload_n hx hb dX0_weight_12 rfl (lv_at hl 1 rfl) ?_
    obtain ⟨h4, hf⟩ := gifN hf
    refine g_iald hC hI (k := v1.toNatClampNeg) (gIA_3 ho) h4 rfl dX0_weight_13 ?_
    refine lv_goto (tgt := 18) hx hb dX0_weight_14 rfl ?_
    exact kr _ _ _ _ _ _ (gri hf) hI ⟨.int, rfl, rfl⟩ dX0_weight_18
theorem dX0_rankOf_0 : decode cX0_rankOf 0 = .ok (.iconst 0, 1) := by decide +kernel
theorem dX0_rankOf_1 : decode cX0_rankOf 1 = .ok (.istore_n 2, 1) := by decide +kernel
theorem dX0_rankOf_2 : decode cX0_rankOf 2 = .ok (.iconst 0, 1) := by decide +kernel
theorem dX0_rankOf_3 : decode cX0_rankOf 3 = .ok (.istore_n 3, 1) := by decide +kernel
theorem dX0_rankOf_4 : decode cX0_rankOf 4 = .ok (.iload_n 3, 1) := by decide +kernel
theorem dX0_rankOf_5 : decode cX0_rankOf 5 = .ok (.aload_n 0, 1) := by decide +kernel
theorem dX0_rankOf_6 : decode cX0_rankOf 6 = .ok (.getfield 30, 3) := by decide +kernel
theorem dX0_rankOf_9 : decode cX0_rankOf 9 = .ok (.if_icmp .ge 65, 3) := by decide +kernel
theorem dX0_rankOf_12 : decode cX0_rankOf 12 = .ok (.aload_n 0, 1) := by decide +kernel
theorem dX0_rankOf_13 : decode cX0_rankOf 13 = .ok (.iload_n 3, 1) := by decide +kernel
theorem dX0_rankOf_14 : decode cX0_rankOf 14 = .ok (.invokevirtual 63, 3) := by decide +kernel
theorem dX0_rankOf_17 : decode cX0_rankOf 17 = .ok (.aload_n 0, 1) := by decide +kernel
theorem dX0_rankOf_18 : decode cX0_rankOf 18 = .ok (.iload_n 1, 1) := by decide +kernel
theorem dX0_rankOf_19 : decode cX0_rankOf 19 = .ok (.invokevirtual 63, 3) := by decide +kernel
theorem dX0_rankOf_22 : decode cX0_rankOf 22 = .ok (.if_icmp .gt 21, 3) := by decide +kernel
theorem dX0_rankOf_25 : decode cX0_rankOf 25 = .ok (.aload_n 0, 1) := by decide +kernel
theorem dX0_rankOf_26 : decode cX0_rankOf 26 = .ok (.iload_n 3, 1) := by decide +kernel
theorem dX0_rankOf_27 : decode cX0_rankOf 27 = .ok (.invokevirtual 63, 3) := by decide +kernel
theorem dX0_rankOf_30 : decode cX0_rankOf 30 = .ok (.aload_n 0, 1) := by decide +kernel
theorem dX0_rankOf_31 : decode cX0_rankOf 31 = .ok (.iload_n 1, 1) := by decide +kernel
theorem dX0_rankOf_32 : decode cX0_rankOf 32 = .ok (.invokevirtual 63, 3) := by decide +kernel
theorem dX0_rankOf_35 : decode cX0_rankOf 35 = .ok (.if_icmp .ne 12, 3) := by decide +kernel
theorem dX0_rankOf_38 : decode cX0_rankOf 38 = .ok (.iload_n 3, 1) := by decide +kernel
theorem dX0_rankOf_39 : decode cX0_rankOf 39 = .ok (.iload_n 1, 1) := by decide +kernel
theorem dX0_rankOf_40 : decode cX0_rankOf 40 = .ok (.if_icmp .ge 7, 3) := by decide +kernel
theorem dX0_rankOf_43 : decode cX0_rankOf 43 = .ok (.iconst 1, 1) := by decide +kernel
theorem dX0_rankOf_44 : decode cX0_rankOf 44 = .ok (.goto 4, 3) := by decide +kernel
theorem dX0_rankOf_47 : decode cX0_rankOf 47 = .ok (.iconst 0, 1) := by decide +kernel
theorem dX0_rankOf_48 : decode cX0_rankOf 48 = .ok (.istore 4, 2) := by decide +kernel
theorem dX0_rankOf_50 : decode cX0_rankOf 50 = .ok (.iload 4, 2) := by decide +kernel
theorem dX0_rankOf_52 : decode cX0_rankOf 52 = .ok (.ifCond .eq 16, 3) := by decide +kernel
theorem dX0_rankOf_55 : decode cX0_rankOf 55 = .ok (.aload_n 0, 1) := by decide +kernel
theorem dX0_rankOf_56 : decode cX0_rankOf 56 = .ok (.iload_n 3, 1) := by decide +kernel
theorem dX0_rankOf_57 : decode cX0_rankOf 57 = .ok (.invokevirtual 69, 3) := by decide +kernel
theorem dX0_rankOf_60 : decode cX0_rankOf 60 = .ok (.bipush 12, 2) := by decide +kernel
theorem dX0_rankOf_62 : decode cX0_rankOf 62 = .ok (.if_icmp .eq 6, 3) := by decide +kernel
theorem dX0_rankOf_65 : decode cX0_rankOf 65 = .ok (.iinc 2 1, 3) := by decide +kernel
theorem dX0_rankOf_68 : decode cX0_rankOf 68 = .ok (.iinc 3 1, 3) := by decide +kernel
theorem dX0_rankOf_71 : decode cX0_rankOf 71 = .ok (.goto (-67), 3) := by decide +kernel
theorem dX0_rankOf_74 : decode cX0_rankOf 74 = .ok (.iload_n 2, 1) := by decide +kernel
theorem dX0_rankOf_75 : decode cX0_rankOf 75 = .ok (.ireturn, 1) := by decide +kernel
set_option maxRecDepth 100000 in
set_option maxHeartbeats 4000000 in
theorem C_X0_rankOf (l : Launch) (E : gE) (x : gX) {o : Nat} (ho : gOk o) {v1 : Int32} {M : gM} {r : Int32} (hf : f_X0_rankOf o v1 M = some r) : gM0 l E yX0_rankOf (.code yX0_rankOf cX0_rankOf 5 (some .int)) (gR 2 42) M x [.ref (E.2.1 (o + 1)), .int v1] (some (.int r)) M := by
  refine gMet (by decide +kernel) (Nat.le_of_ble_eq_true rfl) ?_
  intro p e s m args below meth c H locs ls Q hC hl hI kr kv
  replace hC : gC p s m args c cX0_rankOf 5 RX0 E := hC
  replace hl : lv_has ls 5 [(0, .ref (E.2.1 (o + 1))), (1, .int v1)] := hl
  have hx := hC.1
  have hb := hC.2.1
  have L4 : ∀ (v1 : Int32) (n : Nat) (v3 : Int32) (v2 : Int32), f_X0_rankOf_L4 o M v1 n v3 v2 = some r → ∀ (H : Heap) (locs : List Loc) (ls : Array Slot), gI E s M x H locs → lv_has ls 5 [(3, .int v3), (2, .int v2), (0, .ref (E.2.1 (o + 1))), (1, .int v1)] → W p l e (gR 2 42) s m args below meth c H locs 0 0 Q (F0 m 4 ls []) := by
    intro v1 n
    induction n with
    | zero => intro v3 v2 hf; rw [f_X0_rankOf_L4] at hf; cases hf
    | succ n ih =>
      intro v3 v2 hf H locs ls hI hl
      rw [f_X0_rankOf_L4] at hf
      refine lv_iload_n hx hb dX0_rankOf_4 rfl (lv_at hl 0 rfl) ?_
      refine lv_aload_n hx hb dX0_rankOf_5 rfl (lv_at hl 2 rfl) ?_
      refine gt_X0_X0_count hC hI ho dX0_rankOf_6 ?_
      refine lv_icmp_ge (tgt := 74) hx hb dX0_rankOf_9 rfl (fun h1 => ?_) (fun h1 => ?_)
      · replace hf := gif h1 hf
        refine lv_iload_n hx hb dX0_rankOf_74 rfl (lv_at hl 1 rfl) ?_
        exact kr _ _ _ _ _ _ (gri hf) hI ⟨.int, rfl, rfl⟩ dX0_rankOf_75
      · replace hf := gifn h1 hf
        refine lv_aload_n hx hb dX0_rankOf_12 rfl (lv_at hl 2 rfl) ?_
        refine lv_iload_n hx hb dX0_rankOf_13 rfl (lv_at hl 0 rfl) ?_
        obtain ⟨r2, hr3, hf⟩ := gbind hf
        have hr3 := C_X0_weight l E x ho hr3
        refine g_callVi (rest := []) hC hI hr3 Y_X0_weight V_X0_weight w307 (rcv_X0 hC hI ho) ⟨rfl, rfl⟩ ⟨Nat.le_of_ble_eq_true rfl, Nat.le_of_ble_eq_true rfl⟩ rfl hl.1 rfl (Nat.le_of_ble_eq_true rfl) dX0_rankOf_14 ⟨Nat.zero_le _, Nat.zero_le _⟩ (fun H locs hI => ?_)
        refine lv_aload_n hx hb dX0_rankOf_17 rfl (lv_at hl 2 rfl) ?_
        refine lv_iload_n hx hb dX0_rankOf_18 rfl (lv_at hl 3 rfl) ?_
        obtain ⟨r4, hr5, hf⟩ := gbind hf
        have hr5 := C_X0_weight l E x ho hr5
        refine g_callVi (rest := [.int r2]) hC hI hr5 Y_X0_weight V_X0_weight w307 (rcv_X0 hC hI ho) ⟨rfl, rfl⟩ ⟨Nat.le_of_ble_eq_true rfl, Nat.le_of_ble_eq_true rfl⟩ rfl hl.1 rfl (Nat.le_of_ble_eq_true rfl) dX0_rankOf_19 ⟨Nat.zero_le _, Nat.zero_le _⟩ (fun H locs hI => ?_)
        refine lv_icmp_gt (tgt := 43) hx hb dX0_rankOf_22 rfl (fun h6 => ?_) (fun h6 => ?_)
        · replace hf := gif h6 hf
          refine lv_iconst (v := 1) hx hb dX0_rankOf_43 (by decide) ?_
          refine lv_goto (tgt := 48) hx hb dX0_rankOf_44 rfl ?_
          refine lv_istore (lv' := [(4, .int 1), (3, .int v3), (2, .int v2), (0, .ref (E.2.1 (o + 1))), (1, .int v1)]) hx hb dX0_rankOf_48 hl (by decide) rfl (fun ls hl => ?_)
          refine lv_iload hx hb dX0_rankOf_50 (lv_at hl 0 rfl) ?_
          refine lv_if_eq (tgt := 68) hx hb dX0_rankOf_52 rfl (fun h7 => absurd h7 (by decide)) (fun h7 => ?_)
          refine lv_aload_n hx hb dX0_rankOf_55 rfl (lv_at hl 3 rfl) ?_
          refine lv_iload_n hx hb dX0_rankOf_56 rfl (lv_at hl 1 rfl) ?_
          obtain ⟨r8, hr9, hf⟩ := gbind hf
          have hr9 := C_X0_pile l E x ho hr9
          refine g_callVi (rest := []) hC hI hr9 Y_X0_pile V_X0_pile w263 (rcv_X0 hC hI ho) ⟨rfl, rfl⟩ ⟨Nat.le_of_ble_eq_true rfl, Nat.le_of_ble_eq_true rfl⟩ rfl hl.1 rfl (Nat.le_of_ble_eq_true rfl) dX0_rankOf_57 ⟨Nat.zero_le _, Nat.zero_le _⟩ (fun H locs hI => ?_)
          refine lv_bipush (v := 12) hx hb dX0_rankOf_60 (by decide) ?_
          refine lv_icmp_eq (tgt := 68) hx hb dX0_rankOf_62 rfl (fun h10 => ?_) (fun h10 => ?_)
          · replace hf := gif h10 hf
            refine lv_iinc (k := 1) (v := v3 + 1) (lv' := [(3, .int (v3 + 1)), (4, .int 1), (2, .int v2), (0, .ref (E.2.1 (o + 1))), (1, .int v1)]) hx hb dX0_rankOf_68 hl rfl rfl (by decide) rfl (fun ls hl => ?_)
            refine lv_goto (tgt := 4) hx hb dX0_rankOf_71 rfl ?_
            exact ih (v3 + 1) v2 hf _ _ _ hI (lv_sub hl [0, 2, 3, 4] rfl)
          · replace hf := gifn h10 hf
            refine lv_iinc (k := 2) (v := v2 + 1) (lv' := [(2, .int (v2 + 1)), (4, .int 1), (3, .int v3), (0, .ref (E.2.1 (o + 1))), (1, .int v1)]) hx hb dX0_rankOf_65 hl rfl rfl (by decide) rfl (fun ls hl => ?_)
            refine lv_iinc (k := 2) (v := v3 + 1) (lv' := [(3, .int (v3 + 1)), (2, .int (v2 + 1)), (4, .int 1), (0, .ref (E.2.1 (o + 1))), (1, .int v1)]) hx hb dX0_rankOf_68 hl rfl rfl (by decide) rfl (fun ls hl => ?_)
            refine lv_goto (tgt := 4) hx hb dX0_rankOf_71 rfl ?_
            exact ih (v3 + 1) (v2 + 1) hf _ _ _ hI (lv_sub hl [0, 1, 3, 4] rfl)
        · replace hf := gifn h6 hf
          refine lv_aload_n hx hb dX0_rankOf_25 rfl (lv_at hl 2 rfl) ?_
          refine lv_iload_n hx hb dX0_rankOf_26 rfl (lv_at hl 0 rfl) ?_
          obtain ⟨r11, hr12, hf⟩ := gbind hf
          have hr12 := C_X0_weight l E x ho hr12
          refine g_callVi (rest := []) hC hI hr12 Y_X0_weight V_X0_weight w307 (rcv_X0 hC hI ho) ⟨rfl, rfl⟩ ⟨Nat.le_of_ble_eq_true rfl, Nat.le_of_ble_eq_true rfl⟩ rfl hl.1 rfl (Nat.le_of_ble_eq_true rfl) dX0_rankOf_27 ⟨Nat.zero_le _, Nat.zero_le _⟩ (fun H locs hI => ?_)
          refine lv_aload_n hx hb dX0_rankOf_30 rfl (lv_at hl 2 rfl) ?_
          refine lv_iload_n hx hb dX0_rankOf_31 rfl (lv_at hl 3 rfl) ?_
          obtain ⟨r13, hr14, hf⟩ := gbind hf
          have hr14 := C_X0_weight l E x ho hr14
          refine g_callVi (rest := [.int r11]) hC hI hr14 Y_X0_weight V_X0_weight w307 (rcv_X0 hC hI ho) ⟨rfl, rfl⟩ ⟨Nat.le_of_ble_eq_true rfl, Nat.le_of_ble_eq_true rfl⟩ rfl hl.1 rfl (Nat.le_of_ble_eq_true rfl) dX0_rankOf_32 ⟨Nat.zero_le _, Nat.zero_le _⟩ (fun H locs hI => ?_)
          refine lv_icmp_ne (tgt := 47) hx hb dX0_rankOf_35 rfl (fun h15 => ?_) (fun h15 => ?_)
          · replace hf := gifn h15 hf
            refine lv_iconst (v := 0) hx hb dX0_rankOf_47 (by decide) ?_
            refine lv_istore (lv' := [(4, .int 0), (3, .int v3), (2, .int v2), (0, .ref (E.2.1 (o + 1))), (1, .int v1)]) hx hb dX0_rankOf_48 hl (by decide) rfl (fun ls hl => ?_)
            refine lv_iload hx hb dX0_rankOf_50 (lv_at hl 0 rfl) ?_
            refine lv_if_eq (tgt := 68) hx hb dX0_rankOf_52 rfl (fun h16 => ?_) (fun h16 => absurd (by decide) h16)
            refine lv_iinc (k := 1) (v := v3 + 1) (lv' := [(3, .int (v3 + 1)), (4, .int 0), (2, .int v2), (0, .ref (E.2.1 (o + 1))), (1, .int v1)]) hx hb dX0_rankOf_68 hl rfl rfl (by decide) rfl (fun ls hl => ?_)
            refine lv_goto (tgt := 4) hx hb dX0_rankOf_71 rfl ?_
            exact ih (v3 + 1) v2 hf _ _ _ hI (lv_sub hl [0, 2, 3, 4] rfl)
          · replace hf := gif h15 hf
            refine lv_iload_n hx hb dX0_rankOf_38 rfl (lv_at hl 0 rfl) ?_
            refine lv_iload_n hx hb dX0_rankOf_39 rfl (lv_at hl 3 rfl) ?_
            refine lv_icmp_ge (tgt := 47) hx hb dX0_rankOf_40 rfl (fun h17 => ?_) (fun h17 => ?_)
            · replace hf := gif h17 hf
              refine lv_iconst (v := 0) hx hb dX0_rankOf_47 (by decide) ?_
              refine lv_istore (lv' := [(4, .int 0), (3, .int v3), (2, .int v2), (0, .ref (E.2.1 (o + 1))), (1, .int v1)]) hx hb dX0_rankOf_48 hl (by decide) rfl (fun ls hl => ?_)
              refine lv_iload hx hb dX0_rankOf_50 (lv_at hl 0 rfl) ?_
              refine lv_if_eq (tgt := 68) hx hb dX0_rankOf_52 rfl (fun h18 => ?_) (fun h18 => absurd (by decide) h18)
              refine lv_iinc (k := 1) (v := v3 + 1) (lv' := [(3, .int (v3 + 1)), (4, .int 0), (2, .int v2), (0, .ref (E.2.1 (o + 1))), (1, .int v1)]) hx hb dX0_rankOf_68 hl rfl rfl (by decide) rfl (fun ls hl => ?_)
              refine lv_goto (tgt := 4) hx hb dX0_rankOf_71 rfl ?_
              exact ih (v3 + 1) v2 hf _ _ _ hI (lv_sub hl [0, 2, 3, 4] rfl)
            · replace hf := gifn h17 hf
              refine lv_iconst (v := 1) hx hb dX0_rankOf_43 (by decide) ?_
              refine lv_goto (tgt := 48) hx hb dX0_rankOf_44 rfl ?_
              refine lv_istore (lv' := [(4, .int 1), (3, .int v3), (2, .int v2), (0, .ref (E.2.1 (o + 1))), (1, .int v1)]) hx hb dX0_rankOf_48 hl (by decide) rfl (fun ls hl => ?_)
              refine lv_iload hx hb dX0_rankOf_50 (lv_at hl 0 rfl) ?_
              refine lv_if_eq (tgt := 68) hx hb dX0_rankOf_52 rfl (fun h19 => absurd h19 (by decide)) (fun h19 => ?_)
              refine lv_aload_n hx hb dX0_rankOf_55 rfl (lv_at hl 3 rfl) ?_
              refine lv_iload_n hx hb dX0_rankOf_56 rfl (lv_at hl 1 rfl) ?_
              obtain ⟨r20, hr21, hf⟩ := gbind hf
              have hr21 := C_X0_pile l E x ho hr21
              refine g_callVi (rest := []) hC hI hr21 Y_X0_pile V_X0_pile w263 (rcv_X0 hC hI ho) ⟨rfl, rfl⟩ ⟨Nat.le_of_ble_eq_true rfl, Nat.le_of_ble_eq_true rfl⟩ rfl hl.1 rfl (Nat.le_of_ble_eq_true rfl) dX0_rankOf_57 ⟨Nat.zero_le _, Nat.zero_le _⟩ (fun H locs hI => ?_)
              refine lv_bipush (v := 12) hx hb dX0_rankOf_60 (by decide) ?_
              refine lv_icmp_eq (tgt := 68) hx hb dX0_rankOf_62 rfl (fun h22 => ?_) (fun h22 => ?_)
              · replace hf := gif h22 hf
                refine lv_iinc (k := 1) (v := v3 + 1) (lv' := [(3, .int (v3 + 1)), (4, .int 1), (2, .int v2), (0, .ref (E.2.1 (o + 1))), (1, .int v1)]) hx hb dX0_rankOf_68 hl rfl rfl (by decide) rfl (fun ls hl => ?_)
                refine lv_goto (tgt := 4) hx hb dX0_rankOf_71 rfl ?_
                exact ih (v3 + 1) v2 hf _ _ _ hI (lv_sub hl [0, 2, 3, 4] rfl)
              · replace hf := gifn h22 hf
                refine lv_iinc (k := 2) (v := v2 + 1) (lv' := [(2, .int (v2 + 1)), (4, .int 1), (3, .int v3), (0, .ref (E.2.1 (o + 1))), (1, .int v1)]) hx hb dX0_rankOf_65 hl rfl rfl (by decide) rfl (fun ls hl => ?_)
                refine lv_iinc (k := 2) (v := v3 + 1) (lv' := [(3, .int (v3 + 1)), (2, .int (v2 + 1)), (4, .int 1), (0, .ref (E.2.1 (o + 1))), (1, .int v1)]) hx hb dX0_rankOf_68 hl rfl rfl (by decide) rfl (fun ls hl => ?_)
                refine lv_goto (tgt := 4) hx hb dX0_rankOf_71 rfl ?_
                exact ih (v3 + 1) (v2 + 1) hf _ _ _ hI (lv_sub hl [0, 1, 3, 4] rfl)
  unfold f_X0_rankOf at hf
  refine lv_iconst (v := 0) hx hb dX0_rankOf_0 (by decide) ?_
  refine lv_istore_n (lv' := [(2, .int 0), (0, .ref (E.2.1 (o + 1))), (1, .int v1)]) hx hb dX0_rankOf_1 rfl hl (by decide) rfl (fun ls hl => ?_)
  refine lv_iconst (v := 0) hx hb dX0_rankOf_2 (by decide) ?_
  refine lv_istore_n (lv' := [(3, .int 0), (2, .int 0), (0, .ref (E.2.1 (o + 1))), (1, .int v1)]) hx hb dX0_rankOf_3 rfl hl (by decide) rfl (fun ls hl => ?_)
  exact L4 v1 gF 0 0 hf _ _ _ hI (lv_sub hl [0, 1, 2, 3] rfl)
theorem dX0_rowByWeight_0 : decode cX0_rowByWeight 0 = .ok (.iconst 0, 1) := by decide +kernel
theorem dX0_rowByWeight_1 : decode cX0_rowByWeight 1 = .ok (.istore_n 2, 1) := by decide +kernel
theorem dX0_rowByWeight_2 : decode cX0_rowByWeight 2 = .ok (.iload_n 2, 1) := by decide +kernel
theorem dX0_rowByWeight_3 : decode cX0_rowByWeight 3 = .ok (.aload_n 0, 1) := by decide +kernel
theorem dX0_rowByWeight_4 : decode cX0_rowByWeight 4 = .ok (.getfield 30, 3) := by decide +kernel
theorem dX0_rowByWeight_7 : decode cX0_rowByWeight 7 = .ok (.if_icmp .ge 30, 3) := by decide +kernel
theorem dX0_rowByWeight_10 : decode cX0_rowByWeight 10 = .ok (.aload_n 0, 1) := by decide +kernel
theorem dX0_rowByWeight_11 : decode cX0_rowByWeight 11 = .ok (.iload_n 2, 1) := by decide +kernel
theorem dX0_rowByWeight_12 : decode cX0_rowByWeight 12 = .ok (.invokevirtual 69, 3) := by decide +kernel
theorem dX0_rowByWeight_15 : decode cX0_rowByWeight 15 = .ok (.bipush 12, 2) := by decide +kernel
theorem dX0_rowByWeight_17 : decode cX0_rowByWeight 17 = .ok (.if_icmp .eq 14, 3) := by decide +kernel
theorem dX0_rowByWeight_20 : decode cX0_rowByWeight 20 = .ok (.aload_n 0, 1) := by decide +kernel
theorem dX0_rowByWeight_21 : decode cX0_rowByWeight 21 = .ok (.iload_n 2, 1) := by decide +kernel
theorem dX0_rowByWeight_22 : decode cX0_rowByWeight 22 = .ok (.invokevirtual 94, 3) := by decide +kernel
theorem dX0_rowByWeight_25 : decode cX0_rowByWeight 25 = .ok (.iload_n 1, 1) := by decide +kernel
theorem dX0_rowByWeight_26 : decode cX0_rowByWeight 26 = .ok (.if_icmp .ne 5, 3) := by decide +kernel
theorem dX0_rowByWeight_29 : decode cX0_rowByWeight 29 = .ok (.iload_n 2, 1) := by decide +kernel
theorem dX0_rowByWeight_30 : decode cX0_rowByWeight 30 = .ok (.ireturn, 1) := by decide +kernel
theorem dX0_rowByWeight_31 : decode cX0_rowByWeight 31 = .ok (.iinc 2 1, 3) := by decide +kernel
theorem dX0_rowByWeight_34 : decode cX0_rowByWeight 34 = .ok (.goto (-32), 3) := by decide +kernel
theorem dX0_rowByWeight_37 : decode cX0_rowByWeight 37 = .ok (.iconst (-1), 1) := by decide +kernel
theorem dX0_rowByWeight_38 : decode cX0_rowByWeight 38 = .ok (.ireturn, 1) := by decide +kernel
set_option maxRecDepth 100000 in
set_option maxHeartbeats 4000000 in
theorem C_X0_rowByWeight (l : Launch) (E : gE) (x : gX) {o : Nat} (ho : gOk o) {v1 : Int32} {M : gM} {r : Int32} (hf : f_X0_rowByWeight o v1 M = some r) : gM0 l E yX0_rowByWeight (.code yX0_rowByWeight cX0_rowByWeight 3 (some .int)) (gR 3 66) M x [.ref (E.2.1 (o + 1)), .int v1] (some (.int r)) M := by
  refine gMet (by decide +kernel) (Nat.le_of_ble_eq_true rfl) ?_
  intro p e s m args below meth c H locs ls Q hC hl hI kr kv
  replace hC : gC p s m args c cX0_rowByWeight 3 RX0 E := hC
  replace hl : lv_has ls 3 [(0, .ref (E.2.1 (o + 1))), (1, .int v1)] := hl
  have hx := hC.1
  have hb := hC.2.1
  have L2 : ∀ (v1 : Int32) (n : Nat) (v2 : Int32), f_X0_rowByWeight_L2 o M v1 n v2 = some r → ∀ (H : Heap) (locs : List Loc) (ls : Array Slot), gI E s M x H locs → lv_has ls 3 [(2, .int v2), (0, .ref (E.2.1 (o + 1))), (1, .int v1)] → W p l e (gR 3 66) s m args below meth c H locs 0 0 Q (F0 m 2 ls []) := by
    intro v1 n
    induction n with
    | zero => intro v2 hf; rw [f_X0_rowByWeight_L2] at hf; cases hf
    | succ n ih =>
      intro v2 hf H locs ls hI hl
      rw [f_X0_rowByWeight_L2] at hf
      refine lv_iload_n hx hb dX0_rowByWeight_2 rfl (lv_at hl 0 rfl) ?_
      refine lv_aload_n hx hb dX0_rowByWeight_3 rfl (lv_at hl 1 rfl) ?_
      refine gt_X0_X0_count hC hI ho dX0_rowByWeight_4 ?_
      refine lv_icmp_ge (tgt := 37) hx hb dX0_rowByWeight_7 rfl (fun h1 => ?_) (fun h1 => ?_)
      · replace hf := gif h1 hf
        refine lv_iconst (v := (-1)) hx hb dX0_rowByWeight_37 (by decide) ?_
        exact kr _ _ _ _ _ _ (gri hf) hI ⟨.int, rfl, rfl⟩ dX0_rowByWeight_38
      · replace hf := gifn h1 hf
        refine lv_aload_n hx hb dX0_rowByWeight_10 rfl (lv_at hl 1 rfl) ?_
        refine lv_iload_n hx hb dX0_rowByWeight_11 rfl (lv_at hl 0 rfl) ?_
        obtain ⟨r2, hr3, hf⟩ := gbind hf
        have hr3 := C_X0_pile l E x ho hr3
        refine g_callVi (rest := []) hC hI hr3 Y_X0_pile V_X0_pile w263 (rcv_X0 hC hI ho) ⟨rfl, rfl⟩ ⟨Nat.le_of_ble_eq_true rfl, Nat.le_of_ble_eq_true rfl⟩ rfl hl.1 rfl (Nat.le_of_ble_eq_true rfl) dX0_rowByWeight_12 ⟨Nat.zero_le _, Nat.zero_le _⟩ (fun H locs hI => ?_)
        refine lv_bipush (v := 12) hx hb dX0_rowByWeight_15 (by decide) ?_
        refine lv_icmp_eq (tgt := 31) hx hb dX0_rowByWeight_17 rfl (fun h4 => ?_) (fun h4 => ?_)
        · replace hf := gif h4 hf
          refine lv_iinc (k := 0) (v := v2 + 1) (lv' := [(2, .int (v2 + 1)), (0, .ref (E.2.1 (o + 1))), (1, .int v1)]) hx hb dX0_rowByWeight_31 hl rfl rfl (by decide) rfl (fun ls hl => ?_)
          refine lv_goto (tgt := 2) hx hb dX0_rowByWeight_34 rfl ?_
          exact ih (v2 + 1) hf _ _ _ hI (lv_sub hl [0, 1, 2] rfl)
        · replace hf := gifn h4 hf
          refine lv_aload_n hx hb dX0_rowByWeight_20 rfl (lv_at hl 1 rfl) ?_
          refine lv_iload_n hx hb dX0_rowByWeight_21 rfl (lv_at hl 0 rfl) ?_
          obtain ⟨r5, hr6, hf⟩ := gbind hf
          have hr6 := C_X0_rankOf l E x ho hr6
          refine g_callVi (rest := []) hC hI hr6 Y_X0_rankOf V_X0_rankOf w980 (rcv_X0 hC hI ho) ⟨rfl, rfl⟩ ⟨Nat.le_of_ble_eq_true rfl, Nat.le_of_ble_eq_true rfl⟩ rfl hl.1 rfl (Nat.le_of_ble_eq_true rfl) dX0_rowByWeight_22 ⟨Nat.zero_le _, Nat.zero_le _⟩ (fun H locs hI => ?_)
          refine lv_iload_n hx hb dX0_rowByWeight_25 rfl (lv_at hl 2 rfl) ?_
          refine lv_icmp_ne (tgt := 31) hx hb dX0_rowByWeight_26 rfl (fun h7 => ?_) (fun h7 => ?_)
          · replace hf := gifn h7 hf
            refine lv_iinc (k := 0) (v := v2 + 1) (lv' := [(2, .int (v2 + 1)), (0, .ref (E.2.1 (o + 1))), (1, .int v1)]) hx hb dX0_rowByWeight_31 hl rfl rfl (by decide) rfl (fun ls hl => ?_)
            refine lv_goto (tgt := 2) hx hb dX0_rowByWeight_34 rfl ?_
            exact ih (v2 + 1) hf _ _ _ hI (lv_sub hl [0, 1, 2] rfl)
          · replace hf := gif h7 hf
            refine lv_iload_n hx hb dX0_rowByWeight_29 rfl (lv_at hl 0 rfl) ?_
            exact kr _ _ _ _ _ _ (gri hf) hI ⟨.int, rfl, rfl⟩ dX0_rowByWeight_30
  unfold f_X0_rowByWeight at hf
  refine lv_iconst (v := 0) hx hb dX0_rowByWeight_0 (by decide) ?_
  refine lv_istore_n (lv' := [(2, .int 0), (0, .ref (E.2.1 (o + 1))), (1, .int v1)]) hx hb dX0_rowByWeight_1 rfl hl (by decide) rfl (fun ls hl => ?_)
  exact L2 v1 gF 0 hf _ _ _ hI (lv_sub hl [0, 1, 2] rfl)
theorem dX0_key_0 : decode cX0_key 0 = .ok (.aload_n 0, 1) := by decide +kernel
theorem dX0_key_1 : decode cX0_key 1 = .ok (.iload_n 1, 1) := by decide +kernel
theorem dX0_key_2 : decode cX0_key 2 = .ok (.invokevirtual 44, 3) := by decide +kernel
theorem dX0_key_5 : decode cX0_key 5 = .ok (.ifCond .eq 12, 3) := by decide +kernel
theorem dX0_key_8 : decode cX0_key 8 = .ok (.aload_n 0, 1) := by decide +kernel
theorem dX0_key_9 : decode cX0_key 9 = .ok (.getfield 18, 3) := by decide +kernel
theorem dX0_key_12 : decode cX0_key 12 = .ok (.iload_n 1, 1) := by decide +kernel
theorem dX0_key_13 : decode cX0_key 13 = .ok (.iaload, 1) := by decide +kernel
theorem dX0_key_14 : decode cX0_key 14 = .ok (.goto 4, 3) := by decide +kernel
theorem dX0_key_17 : decode cX0_key 17 = .ok (.iconst 0, 1) := by decide +kernel
theorem dX0_key_18 : decode cX0_key 18 = .ok (.ireturn, 1) := by decide +kernel
set_option maxRecDepth 100000 in
set_option maxHeartbeats 4000000 in
theorem C_X0_key (l : Launch) (E : gE) (x : gX) {o : Nat} (ho : gOk o) {v1 : Int32} {M : gM} {r : Int32} (hf : f_X0_key o v1 M = some r) : gM0 l E yX0_key (.code yX0_key cX0_key 2 (some .int)) (gR 1 21) M x [.ref (E.2.1 (o + 1)), .int v1] (some (.int r)) M := by
  refine gMet (by decide +kernel) (Nat.le_of_ble_eq_true rfl) ?_
  intro p e s m args below meth c H locs ls Q hC hl hI kr kv
  replace hC : gC p s m args c cX0_key 2 RX0 E := hC
  replace hl : lv_has ls 2 [(0, .ref (E.2.1 (o + 1))), (1, .int v1)] := hl
  have hx := hC.1
  have hb := hC.2.1
  unfold f_X0_key at hf
  refine lv_aload_n hx hb dX0_key_0 rfl (lv_at hl 0 rfl) ?_
  refine lv_iload_n hx hb dX0_key_1 rfl (lv_at hl 1 rfl) ?_
  obtain ⟨r1, hr2, hf⟩ := gbind hf
  have hr2 := C_X0_hasRow l E x ho hr2
  refine g_callVi (rest := []) hC hI hr2 Y_X0_hasRow V_X0_hasRow w267 (rcv_X0 hC hI ho) ⟨rfl, rfl⟩ ⟨Nat.le_of_ble_eq_true rfl, Nat.le_of_ble_eq_true rfl⟩ rfl hl.1 rfl (Nat.le_of_ble_eq_true rfl) dX0_key_2 ⟨Nat.zero_le _, Nat.zero_le _⟩ (fun H locs hI => ?_)
  refine lv_if_eq (tgt := 17) hx hb dX0_key_5 rfl (fun h3 => ?_) (fun h3 => ?_)
  · replace hf := gif h3 hf
    refine lv_iconst (v := 0) hx hb dX0_key_17 (by decide) ?_
    exact kr _ _ _ _ _ _ (gri hf) hI ⟨.int, rfl, rfl⟩ dX0_key_18
  · replace hf := gifn h3 hf
    refine lv_aload_n hx hb dX0_key_8 rfl (lv_at hl 0 rfl) ?_
    refine gt_X0_X0_keys hC hI ho dX0_key_9 ?_
    refine lv_iload_n hx hb dX0_key_12 rfl (lv_at hl 1 rfl) ?_
    obtain ⟨h4, hf⟩ := gifN hf
    refine g_iald hC hI (k := v1.toNatClampNeg) (gIA_4 ho) h4 rfl dX0_key_13 ?_
    refine lv_goto (tgt := 18) hx hb dX0_key_14 rfl ?_
    exact kr _ _ _ _ _ _ (gri hf) hI ⟨.int, rfl, rfl⟩ dX0_key_18
theorem dX0_isFirstWithKey_0 : decode cX0_isFirstWithKey 0 = .ok (.iconst 0, 1) := by decide +kernel
theorem dX0_isFirstWithKey_1 : decode cX0_isFirstWithKey 1 = .ok (.istore_n 2, 1) := by decide +kernel
theorem dX0_isFirstWithKey_2 : decode cX0_isFirstWithKey 2 = .ok (.iload_n 2, 1) := by decide +kernel
theorem dX0_isFirstWithKey_3 : decode cX0_isFirstWithKey 3 = .ok (.iload_n 1, 1) := by decide +kernel
theorem dX0_isFirstWithKey_4 : decode cX0_isFirstWithKey 4 = .ok (.if_icmp .ge 24, 3) := by decide +kernel
theorem dX0_isFirstWithKey_7 : decode cX0_isFirstWithKey 7 = .ok (.aload_n 0, 1) := by decide +kernel
theorem dX0_isFirstWithKey_8 : decode cX0_isFirstWithKey 8 = .ok (.iload_n 2, 1) := by decide +kernel
theorem dX0_isFirstWithKey_9 : decode cX0_isFirstWithKey 9 = .ok (.invokevirtual 60, 3) := by decide +kernel
theorem dX0_isFirstWithKey_12 : decode cX0_isFirstWithKey 12 = .ok (.aload_n 0, 1) := by decide +kernel
theorem dX0_isFirstWithKey_13 : decode cX0_isFirstWithKey 13 = .ok (.iload_n 1, 1) := by decide +kernel
theorem dX0_isFirstWithKey_14 : decode cX0_isFirstWithKey 14 = .ok (.invokevirtual 60, 3) := by decide +kernel
theorem dX0_isFirstWithKey_17 : decode cX0_isFirstWithKey 17 = .ok (.if_icmp .ne 5, 3) := by decide +kernel
theorem dX0_isFirstWithKey_20 : decode cX0_isFirstWithKey 20 = .ok (.iconst 0, 1) := by decide +kernel
theorem dX0_isFirstWithKey_21 : decode cX0_isFirstWithKey 21 = .ok (.ireturn, 1) := by decide +kernel
theorem dX0_isFirstWithKey_22 : decode cX0_isFirstWithKey 22 = .ok (.iinc 2 1, 3) := by decide +kernel
theorem dX0_isFirstWithKey_25 : decode cX0_isFirstWithKey 25 = .ok (.goto (-23), 3) := by decide +kernel
theorem dX0_isFirstWithKey_28 : decode cX0_isFirstWithKey 28 = .ok (.iconst 1, 1) := by decide +kernel
theorem dX0_isFirstWithKey_29 : decode cX0_isFirstWithKey 29 = .ok (.ireturn, 1) := by decide +kernel
set_option maxRecDepth 100000 in
set_option maxHeartbeats 4000000 in
theorem C_X0_isFirstWithKey (l : Launch) (E : gE) (x : gX) {o : Nat} (ho : gOk o) {v1 : Int32} {M : gM} {r : Bool} (hf : f_X0_isFirstWithKey o v1 M = some r) : gM0 l E yX0_isFirstWithKey (.code yX0_isFirstWithKey cX0_isFirstWithKey 3 (some .boolean)) (gR 2 42) M x [.ref (E.2.1 (o + 1)), .int v1] (some (.int (gb r))) M := by
  refine gMet (by decide +kernel) (Nat.le_of_ble_eq_true rfl) ?_
  intro p e s m args below meth c H locs ls Q hC hl hI kr kv
  replace hC : gC p s m args c cX0_isFirstWithKey 3 RX0 E := hC
  replace hl : lv_has ls 3 [(0, .ref (E.2.1 (o + 1))), (1, .int v1)] := hl
  have hx := hC.1
  have hb := hC.2.1
  have L2 : ∀ (v1 : Int32) (n : Nat) (v2 : Int32), f_X0_isFirstWithKey_L2 o M v1 n v2 = some r → ∀ (H : Heap) (locs : List Loc) (ls : Array Slot), gI E s M x H locs → lv_has ls 3 [(2, .int v2), (0, .ref (E.2.1 (o + 1))), (1, .int v1)] → W p l e (gR 2 42) s m args below meth c H locs 0 0 Q (F0 m 2 ls []) := by
    intro v1 n
    induction n with
    | zero => intro v2 hf; rw [f_X0_isFirstWithKey_L2] at hf; cases hf
    | succ n ih =>
      intro v2 hf H locs ls hI hl
      rw [f_X0_isFirstWithKey_L2] at hf
      refine lv_iload_n hx hb dX0_isFirstWithKey_2 rfl (lv_at hl 0 rfl) ?_
      refine lv_iload_n hx hb dX0_isFirstWithKey_3 rfl (lv_at hl 2 rfl) ?_
      refine lv_icmp_ge (tgt := 28) hx hb dX0_isFirstWithKey_4 rfl (fun h1 => ?_) (fun h1 => ?_)
      · replace hf := gif h1 hf
        refine lv_iconst (v := 1) hx hb dX0_isFirstWithKey_28 (by decide) ?_
        exact kr _ _ _ _ _ _ (grb1 hf) hI ⟨.boolean, rfl, rfl⟩ dX0_isFirstWithKey_29
      · replace hf := gifn h1 hf
        refine lv_aload_n hx hb dX0_isFirstWithKey_7 rfl (lv_at hl 1 rfl) ?_
        refine lv_iload_n hx hb dX0_isFirstWithKey_8 rfl (lv_at hl 0 rfl) ?_
        obtain ⟨r2, hr3, hf⟩ := gbind hf
        have hr3 := C_X0_key l E x ho hr3
        refine g_callVi (rest := []) hC hI hr3 Y_X0_key V_X0_key w291 (rcv_X0 hC hI ho) ⟨rfl, rfl⟩ ⟨Nat.le_of_ble_eq_true rfl, Nat.le_of_ble_eq_true rfl⟩ rfl hl.1 rfl (Nat.le_of_ble_eq_true rfl) dX0_isFirstWithKey_9 ⟨Nat.zero_le _, Nat.zero_le _⟩ (fun H locs hI => ?_)
        refine lv_aload_n hx hb dX0_isFirstWithKey_12 rfl (lv_at hl 1 rfl) ?_
        refine lv_iload_n hx hb dX0_isFirstWithKey_13 rfl (lv_at hl 2 rfl) ?_
        obtain ⟨r4, hr5, hf⟩ := gbind hf
        have hr5 := C_X0_key l E x ho hr5
        refine g_callVi (rest := [.int r2]) hC hI hr5 Y_X0_key V_X0_key w291 (rcv_X0 hC hI ho) ⟨rfl, rfl⟩ ⟨Nat.le_of_ble_eq_true rfl, Nat.le_of_ble_eq_true rfl⟩ rfl hl.1 rfl (Nat.le_of_ble_eq_true rfl) dX0_isFirstWithKey_14 ⟨Nat.zero_le _, Nat.zero_le _⟩ (fun H locs hI => ?_)
        refine lv_icmp_ne (tgt := 22) hx hb dX0_isFirstWithKey_17 rfl (fun h6 => ?_) (fun h6 => ?_)
        · replace hf := gifn h6 hf
          refine lv_iinc (k := 0) (v := v2 + 1) (lv' := [(2, .int (v2 + 1)), (0, .ref (E.2.1 (o + 1))), (1, .int v1)]) hx hb dX0_isFirstWithKey_22 hl rfl rfl (by decide) rfl (fun ls hl => ?_)
          refine lv_goto (tgt := 2) hx hb dX0_isFirstWithKey_25 rfl ?_
          exact ih (v2 + 1) hf _ _ _ hI (lv_sub hl [0, 1, 2] rfl)
        · replace hf := gif h6 hf
          refine lv_iconst (v := 0) hx hb dX0_isFirstWithKey_20 (by decide) ?_
          exact kr _ _ _ _ _ _ (grb0 hf) hI ⟨.boolean, rfl, rfl⟩ dX0_isFirstWithKey_21
  unfold f_X0_isFirstWithKey at hf
  refine lv_iconst (v := 0) hx hb dX0_isFirstWithKey_0 (by decide) ?_
  refine lv_istore_n (lv' := [(2, .int 0), (0, .ref (E.2.1 (o + 1))), (1, .int v1)]) hx hb dX0_isFirstWithKey_1 rfl hl (by decide) rfl (fun ls hl => ?_)
  exact L2 v1 gF 0 hf _ _ _ hI (lv_sub hl [0, 1, 2] rfl)
theorem dX0_countKeys_0 : decode cX0_countKeys 0 = .ok (.iconst 0, 1) := by decide +kernel
theorem dX0_countKeys_1 : decode cX0_countKeys 1 = .ok (.istore_n 1, 1) := by decide +kernel
theorem dX0_countKeys_2 : decode cX0_countKeys 2 = .ok (.iconst 0, 1) := by decide +kernel
theorem dX0_countKeys_3 : decode cX0_countKeys 3 = .ok (.istore_n 2, 1) := by decide +kernel
theorem dX0_countKeys_4 : decode cX0_countKeys 4 = .ok (.iload_n 2, 1) := by decide +kernel
theorem dX0_countKeys_5 : decode cX0_countKeys 5 = .ok (.aload_n 0, 1) := by decide +kernel
theorem dX0_countKeys_6 : decode cX0_countKeys 6 = .ok (.getfield 30, 3) := by decide +kernel
theorem dX0_countKeys_9 : decode cX0_countKeys 9 = .ok (.if_icmp .ge 20, 3) := by decide +kernel
theorem dX0_countKeys_12 : decode cX0_countKeys 12 = .ok (.aload_n 0, 1) := by decide +kernel
theorem dX0_countKeys_13 : decode cX0_countKeys 13 = .ok (.iload_n 2, 1) := by decide +kernel
theorem dX0_countKeys_14 : decode cX0_countKeys 14 = .ok (.invokevirtual 97, 3) := by decide +kernel
theorem dX0_countKeys_17 : decode cX0_countKeys 17 = .ok (.ifCond .eq 6, 3) := by decide +kernel
theorem dX0_countKeys_20 : decode cX0_countKeys 20 = .ok (.iinc 1 1, 3) := by decide +kernel
theorem dX0_countKeys_23 : decode cX0_countKeys 23 = .ok (.iinc 2 1, 3) := by decide +kernel
theorem dX0_countKeys_26 : decode cX0_countKeys 26 = .ok (.goto (-22), 3) := by decide +kernel
theorem dX0_countKeys_29 : decode cX0_countKeys 29 = .ok (.iload_n 1, 1) := by decide +kernel
theorem dX0_countKeys_30 : decode cX0_countKeys 30 = .ok (.ireturn, 1) := by decide +kernel
set_option maxRecDepth 100000 in
set_option maxHeartbeats 4000000 in
theorem C_X0_countKeys (l : Launch) (E : gE) (x : gX) {o : Nat} (ho : gOk o) {M : gM} {r : Int32} (hf : f_X0_countKeys o M = some r) : gM0 l E yX0_countKeys (.code yX0_countKeys cX0_countKeys 3 (some .int)) (gR 3 64) M x [.ref (E.2.1 (o + 1))] (some (.int r)) M := by
  refine gMet (by decide +kernel) (Nat.le_of_ble_eq_true rfl) ?_
  intro p e s m args below meth c H locs ls Q hC hl hI kr kv
  replace hC : gC p s m args c cX0_countKeys 3 RX0 E := hC
  replace hl : lv_has ls 3 [(0, .ref (E.2.1 (o + 1)))] := hl
  have hx := hC.1
  have hb := hC.2.1
  have L4 : ∀ (n : Nat) (v2 : Int32) (v1 : Int32), f_X0_countKeys_L4 o M n v2 v1 = some r → ∀ (H : Heap) (locs : List Loc) (ls : Array Slot), gI E s M x H locs → lv_has ls 3 [(2, .int v2), (1, .int v1), (0, .ref (E.2.1 (o + 1)))] → W p l e (gR 3 64) s m args below meth c H locs 0 0 Q (F0 m 4 ls []) := by
    intro  n
    induction n with
    | zero => intro v2 v1 hf; rw [f_X0_countKeys_L4] at hf; cases hf
    | succ n ih =>
      intro v2 v1 hf H locs ls hI hl
      rw [f_X0_countKeys_L4] at hf
      refine lv_iload_n hx hb dX0_countKeys_4 rfl (lv_at hl 0 rfl) ?_
      refine lv_aload_n hx hb dX0_countKeys_5 rfl (lv_at hl 2 rfl) ?_
      refine gt_X0_X0_count hC hI ho dX0_countKeys_6 ?_
      refine lv_icmp_ge (tgt := 29) hx hb dX0_countKeys_9 rfl (fun h1 => ?_) (fun h1 => ?_)
      · replace hf := gif h1 hf
        refine lv_iload_n hx hb dX0_countKeys_29 rfl (lv_at hl 1 rfl) ?_
        exact kr _ _ _ _ _ _ (gri hf) hI ⟨.int, rfl, rfl⟩ dX0_countKeys_30
      · replace hf := gifn h1 hf
        refine lv_aload_n hx hb dX0_countKeys_12 rfl (lv_at hl 2 rfl) ?_
        refine lv_iload_n hx hb dX0_countKeys_13 rfl (lv_at hl 0 rfl) ?_
        obtain ⟨r2, hr3, hf⟩ := gbind hf
        have hr3 := C_X0_isFirstWithKey l E x ho hr3
        refine g_callVi (rest := []) hC hI hr3 Y_X0_isFirstWithKey V_X0_isFirstWithKey w287 (rcv_X0 hC hI ho) ⟨rfl, rfl⟩ ⟨Nat.le_of_ble_eq_true rfl, Nat.le_of_ble_eq_true rfl⟩ rfl hl.1 rfl (Nat.le_of_ble_eq_true rfl) dX0_countKeys_14 ⟨Nat.zero_le _, Nat.zero_le _⟩ (fun H locs hI => ?_)
        refine lv_if_eq (tgt := 23) hx hb dX0_countKeys_17 rfl (fun h4 => ?_) (fun h4 => ?_)
        · replace hf := gif h4 hf
          refine lv_iinc (k := 0) (v := v2 + 1) (lv' := [(2, .int (v2 + 1)), (1, .int v1), (0, .ref (E.2.1 (o + 1)))]) hx hb dX0_countKeys_23 hl rfl rfl (by decide) rfl (fun ls hl => ?_)
          refine lv_goto (tgt := 4) hx hb dX0_countKeys_26 rfl ?_
          exact ih (v2 + 1) v1 hf _ _ _ hI (lv_sub hl [0, 1, 2] rfl)
        · replace hf := gifn h4 hf
          refine lv_iinc (k := 1) (v := v1 + 1) (lv' := [(1, .int (v1 + 1)), (2, .int v2), (0, .ref (E.2.1 (o + 1)))]) hx hb dX0_countKeys_20 hl rfl rfl (by decide) rfl (fun ls hl => ?_)
          refine lv_iinc (k := 1) (v := v2 + 1) (lv' := [(2, .int (v2 + 1)), (1, .int (v1 + 1)), (0, .ref (E.2.1 (o + 1)))]) hx hb dX0_countKeys_23 hl rfl rfl (by decide) rfl (fun ls hl => ?_)
          refine lv_goto (tgt := 4) hx hb dX0_countKeys_26 rfl ?_
          exact ih (v2 + 1) (v1 + 1) hf _ _ _ hI (lv_sub hl [0, 1, 2] rfl)
  unfold f_X0_countKeys at hf
  refine lv_iconst (v := 0) hx hb dX0_countKeys_0 (by decide) ?_
  refine lv_istore_n (lv' := [(1, .int 0), (0, .ref (E.2.1 (o + 1)))]) hx hb dX0_countKeys_1 rfl hl (by decide) rfl (fun ls hl => ?_)
  refine lv_iconst (v := 0) hx hb dX0_countKeys_2 (by decide) ?_
  refine lv_istore_n (lv' := [(2, .int 0), (1, .int 0), (0, .ref (E.2.1 (o + 1)))]) hx hb dX0_countKeys_3 rfl hl (by decide) rfl (fun ls hl => ?_)
  exact L4 gF 0 0 hf _ _ _ hI (lv_sub hl [0, 1, 2] rfl)
theorem dX0_areTwins_0 : decode cX0_areTwins 0 = .ok (.aload_n 0, 1) := by decide +kernel
theorem dX0_areTwins_1 : decode cX0_areTwins 1 = .ok (.iload_n 1, 1) := by decide +kernel
theorem dX0_areTwins_2 : decode cX0_areTwins 2 = .ok (.invokevirtual 60, 3) := by decide +kernel
theorem dX0_areTwins_5 : decode cX0_areTwins 5 = .ok (.aload_n 0, 1) := by decide +kernel
theorem dX0_areTwins_6 : decode cX0_areTwins 6 = .ok (.iload_n 2, 1) := by decide +kernel
theorem dX0_areTwins_7 : decode cX0_areTwins 7 = .ok (.invokevirtual 60, 3) := by decide +kernel
theorem dX0_areTwins_10 : decode cX0_areTwins 10 = .ok (.if_icmp .ne 20, 3) := by decide +kernel
theorem dX0_areTwins_13 : decode cX0_areTwins 13 = .ok (.aload_n 0, 1) := by decide +kernel
theorem dX0_areTwins_14 : decode cX0_areTwins 14 = .ok (.iload_n 1, 1) := by decide +kernel
theorem dX0_areTwins_15 : decode cX0_areTwins 15 = .ok (.invokevirtual 63, 3) := by decide +kernel
theorem dX0_areTwins_18 : decode cX0_areTwins 18 = .ok (.aload_n 0, 1) := by decide +kernel
theorem dX0_areTwins_19 : decode cX0_areTwins 19 = .ok (.iload_n 2, 1) := by decide +kernel
theorem dX0_areTwins_20 : decode cX0_areTwins 20 = .ok (.invokevirtual 63, 3) := by decide +kernel
theorem dX0_areTwins_23 : decode cX0_areTwins 23 = .ok (.if_icmp .ne 7, 3) := by decide +kernel
theorem dX0_areTwins_26 : decode cX0_areTwins 26 = .ok (.iconst 1, 1) := by decide +kernel
theorem dX0_areTwins_27 : decode cX0_areTwins 27 = .ok (.goto 4, 3) := by decide +kernel
theorem dX0_areTwins_30 : decode cX0_areTwins 30 = .ok (.iconst 0, 1) := by decide +kernel
theorem dX0_areTwins_31 : decode cX0_areTwins 31 = .ok (.ireturn, 1) := by decide +kernel
set_option maxRecDepth 100000 in
set_option maxHeartbeats 4000000 in
theorem C_X0_areTwins (l : Launch) (E : gE) (x : gX) {o : Nat} (ho : gOk o) {v1 v2 : Int32} {M : gM} {r : Bool} (hf : f_X0_areTwins o v1 v2 M = some r) : gM0 l E yX0_areTwins (.code yX0_areTwins cX0_areTwins 3 (some .boolean)) (gR 2 42) M x [.ref (E.2.1 (o + 1)), .int v1, .int v2] (some (.int (gb r))) M := by
  refine gMet (by decide +kernel) (Nat.le_of_ble_eq_true rfl) ?_
  intro p e s m args below meth c H locs ls Q hC hl hI kr kv
  replace hC : gC p s m args c cX0_areTwins 3 RX0 E := hC
  replace hl : lv_has ls 3 [(0, .ref (E.2.1 (o + 1))), (1, .int v1), (2, .int v2)] := hl
  have hx := hC.1
  have hb := hC.2.1
  unfold f_X0_areTwins at hf
  refine lv_aload_n hx hb dX0_areTwins_0 rfl (lv_at hl 0 rfl) ?_
  refine lv_iload_n hx hb dX0_areTwins_1 rfl (lv_at hl 1 rfl) ?_
  obtain ⟨r1, hr2, hf⟩ := gbind hf
  have hr2 := C_X0_key l E x ho hr2
  refine g_callVi (rest := []) hC hI hr2 Y_X0_key V_X0_key w291 (rcv_X0 hC hI ho) ⟨rfl, rfl⟩ ⟨Nat.le_of_ble_eq_true rfl, Nat.le_of_ble_eq_true rfl⟩ rfl hl.1 rfl (Nat.le_of_ble_eq_true rfl) dX0_areTwins_2 ⟨Nat.zero_le _, Nat.zero_le _⟩ (fun H locs hI => ?_)
  refine lv_aload_n hx hb dX0_areTwins_5 rfl (lv_at hl 0 rfl) ?_
  refine lv_iload_n hx hb dX0_areTwins_6 rfl (lv_at hl 2 rfl) ?_
  obtain ⟨r3, hr4, hf⟩ := gbind hf
  have hr4 := C_X0_key l E x ho hr4
  refine g_callVi (rest := [.int r1]) hC hI hr4 Y_X0_key V_X0_key w291 (rcv_X0 hC hI ho) ⟨rfl, rfl⟩ ⟨Nat.le_of_ble_eq_true rfl, Nat.le_of_ble_eq_true rfl⟩ rfl hl.1 rfl (Nat.le_of_ble_eq_true rfl) dX0_areTwins_7 ⟨Nat.zero_le _, Nat.zero_le _⟩ (fun H locs hI => ?_)
  refine lv_icmp_ne (tgt := 30) hx hb dX0_areTwins_10 rfl (fun h5 => ?_) (fun h5 => ?_)
  · replace hf := gifn h5 hf
    refine lv_iconst (v := 0) hx hb dX0_areTwins_30 (by decide) ?_
    exact kr _ _ _ _ _ _ (grb0 hf) hI ⟨.boolean, rfl, rfl⟩ dX0_areTwins_31
  · replace hf := gif h5 hf
    refine lv_aload_n hx hb dX0_areTwins_13 rfl (lv_at hl 0 rfl) ?_
    refine lv_iload_n hx hb dX0_areTwins_14 rfl (lv_at hl 1 rfl) ?_
    obtain ⟨r6, hr7, hf⟩ := gbind hf
    have hr7 := C_X0_weight l E x ho hr7
    refine g_callVi (rest := []) hC hI hr7 Y_X0_weight V_X0_weight w307 (rcv_X0 hC hI ho) ⟨rfl, rfl⟩ ⟨Nat.le_of_ble_eq_true rfl, Nat.le_of_ble_eq_true rfl⟩ rfl hl.1 rfl (Nat.le_of_ble_eq_true rfl) dX0_areTwins_15 ⟨Nat.zero_le _, Nat.zero_le _⟩ (fun H locs hI => ?_)
    refine lv_aload_n hx hb dX0_areTwins_18 rfl (lv_at hl 0 rfl) ?_
    refine lv_iload_n hx hb dX0_areTwins_19 rfl (lv_at hl 2 rfl) ?_
    obtain ⟨r8, hr9, hf⟩ := gbind hf
    have hr9 := C_X0_weight l E x ho hr9
    refine g_callVi (rest := [.int r6]) hC hI hr9 Y_X0_weight V_X0_weight w307 (rcv_X0 hC hI ho) ⟨rfl, rfl⟩ ⟨Nat.le_of_ble_eq_true rfl, Nat.le_of_ble_eq_true rfl⟩ rfl hl.1 rfl (Nat.le_of_ble_eq_true rfl) dX0_areTwins_20 ⟨Nat.zero_le _, Nat.zero_le _⟩ (fun H locs hI => ?_)
    refine lv_icmp_ne (tgt := 30) hx hb dX0_areTwins_23 rfl (fun h10 => ?_) (fun h10 => ?_)
    · replace hf := gifn h10 hf
      refine lv_iconst (v := 0) hx hb dX0_areTwins_30 (by decide) ?_
      exact kr _ _ _ _ _ _ (grb0 hf) hI ⟨.boolean, rfl, rfl⟩ dX0_areTwins_31
    · replace hf := gif h10 hf
      refine lv_iconst (v := 1) hx hb dX0_areTwins_26 (by decide) ?_
      refine lv_goto (tgt := 31) hx hb dX0_areTwins_27 rfl ?_
      exact kr _ _ _ _ _ _ (grb1 hf) hI ⟨.boolean, rfl, rfl⟩ dX0_areTwins_31
theorem dX0_twinsByPairs_0 : decode cX0_twinsByPairs 0 = .ok (.iconst 0, 1) := by decide +kernel
theorem dX0_twinsByPairs_1 : decode cX0_twinsByPairs 1 = .ok (.istore_n 1, 1) := by decide +kernel
theorem dX0_twinsByPairs_2 : decode cX0_twinsByPairs 2 = .ok (.iconst 1, 1) := by decide +kernel
theorem dX0_twinsByPairs_3 : decode cX0_twinsByPairs 3 = .ok (.istore_n 2, 1) := by decide +kernel
theorem dX0_twinsByPairs_4 : decode cX0_twinsByPairs 4 = .ok (.iload_n 2, 1) := by decide +kernel
theorem dX0_twinsByPairs_5 : decode cX0_twinsByPairs 5 = .ok (.aload_n 0, 1) := by decide +kernel
theorem dX0_twinsByPairs_6 : decode cX0_twinsByPairs 6 = .ok (.getfield 30, 3) := by decide +kernel
theorem dX0_twinsByPairs_9 : decode cX0_twinsByPairs 9 = .ok (.if_icmp .ge 34, 3) := by decide +kernel
theorem dX0_twinsByPairs_12 : decode cX0_twinsByPairs 12 = .ok (.iconst 0, 1) := by decide +kernel
theorem dX0_twinsByPairs_13 : decode cX0_twinsByPairs 13 = .ok (.istore_n 3, 1) := by decide +kernel
theorem dX0_twinsByPairs_14 : decode cX0_twinsByPairs 14 = .ok (.iload_n 3, 1) := by decide +kernel
theorem dX0_twinsByPairs_15 : decode cX0_twinsByPairs 15 = .ok (.iload_n 2, 1) := by decide +kernel
theorem dX0_twinsByPairs_16 : decode cX0_twinsByPairs 16 = .ok (.if_icmp .ge 21, 3) := by decide +kernel
theorem dX0_twinsByPairs_19 : decode cX0_twinsByPairs 19 = .ok (.aload_n 0, 1) := by decide +kernel
theorem dX0_twinsByPairs_20 : decode cX0_twinsByPairs 20 = .ok (.iload_n 3, 1) := by decide +kernel
theorem dX0_twinsByPairs_21 : decode cX0_twinsByPairs 21 = .ok (.iload_n 2, 1) := by decide +kernel
theorem dX0_twinsByPairs_22 : decode cX0_twinsByPairs 22 = .ok (.invokevirtual 100, 3) := by decide +kernel
theorem dX0_twinsByPairs_25 : decode cX0_twinsByPairs 25 = .ok (.ifCond .eq 6, 3) := by decide +kernel
theorem dX0_twinsByPairs_28 : decode cX0_twinsByPairs 28 = .ok (.iinc 1 1, 3) := by decide +kernel
theorem dX0_twinsByPairs_31 : decode cX0_twinsByPairs 31 = .ok (.iinc 3 1, 3) := by decide +kernel
theorem dX0_twinsByPairs_34 : decode cX0_twinsByPairs 34 = .ok (.goto (-20), 3) := by decide +kernel
theorem dX0_twinsByPairs_37 : decode cX0_twinsByPairs 37 = .ok (.iinc 2 1, 3) := by decide +kernel
theorem dX0_twinsByPairs_40 : decode cX0_twinsByPairs 40 = .ok (.goto (-36), 3) := by decide +kernel
theorem dX0_twinsByPairs_43 : decode cX0_twinsByPairs 43 = .ok (.iload_n 1, 1) := by decide +kernel
theorem dX0_twinsByPairs_44 : decode cX0_twinsByPairs 44 = .ok (.ireturn, 1) := by decide +kernel
set_option maxRecDepth 100000 in
set_option maxHeartbeats 4000000 in
theorem C_X0_twinsByPairs (l : Launch) (E : gE) (x : gX) {o : Nat} (ho : gOk o) {M : gM} {r : Int32} (hf : f_X0_twinsByPairs o M = some r) : gM0 l E yX0_twinsByPairs (.code yX0_twinsByPairs cX0_twinsByPairs 4 (some .int)) (gR 3 64) M x [.ref (E.2.1 (o + 1))] (some (.int r)) M := by
  refine gMet (by decide +kernel) (Nat.le_of_ble_eq_true rfl) ?_
  intro p e s m args below meth c H locs ls Q hC hl hI kr kv
  replace hC : gC p s m args c cX0_twinsByPairs 4 RX0 E := hC
  replace hl : lv_has ls 4 [(0, .ref (E.2.1 (o + 1)))] := hl
  have hx := hC.1
  have hb := hC.2.1
  have L14 : ∀ (v2 : Int32) (n : Nat) (v3 : Int32) (v1 : Int32) (q : Int32 × Int32), f_X0_twinsByPairs_L14 o M v2 n v3 v1 = some q → ∀ (H : Heap) (locs : List Loc) (ls : Array Slot), gI E s M x H locs → lv_has ls 4 [(3, .int v3), (2, .int v2), (1, .int v1), (0, .ref (E.2.1 (o + 1)))] → (∀ (H : Heap) (locs : List Loc) (ls : Array Slot), gI E s M x H locs → lv_has ls 4 [(3, .int q.1), (2, .int v2), (1, .int q.2), (0, .ref (E.2.1 (o + 1)))] → W p l e (gR 3 64) s m args below meth c H locs 0 0 Q (F0 m 37 ls [])) → W p l e (gR 3 64) s m args below meth c H locs 0 0 Q (F0 m 14 ls []) := by
    intro v2 n
    induction n with
    | zero => intro v3 v1 q hf; rw [f_X0_twinsByPairs_L14] at hf; cases hf
    | succ n ih =>
      intro v3 v1 q hf H locs ls hI hl hk
      rw [f_X0_twinsByPairs_L14] at hf
      refine lv_iload_n hx hb dX0_twinsByPairs_14 rfl (lv_at hl 0 rfl) ?_
      refine lv_iload_n hx hb dX0_twinsByPairs_15 rfl (lv_at hl 1 rfl) ?_
      refine lv_icmp_ge (tgt := 37) hx hb dX0_twinsByPairs_16 rfl (fun h2 => ?_) (fun h2 => ?_)
      · replace hf := gif h2 hf
        obtain rfl := Option.some.inj hf
        exact hk _ _ _ hI (lv_sub hl [0, 1, 2, 3] rfl)
      · replace hf := gifn h2 hf
        refine lv_aload_n hx hb dX0_twinsByPairs_19 rfl (lv_at hl 3 rfl) ?_
        refine lv_iload_n hx hb dX0_twinsByPairs_20 rfl (lv_at hl 0 rfl) ?_
        refine lv_iload_n hx hb dX0_twinsByPairs_21 rfl (lv_at hl 1 rfl) ?_
        obtain ⟨r3, hr4, hf⟩ := gbind hf
        have hr4 := C_X0_areTwins l E x ho hr4
        refine g_callVi (rest := []) hC hI hr4 Y_X0_areTwins V_X0_areTwins w303 (rcv_X0 hC hI ho) ⟨rfl, rfl⟩ ⟨Nat.le_of_ble_eq_true rfl, Nat.le_of_ble_eq_true rfl⟩ rfl hl.1 rfl (Nat.le_of_ble_eq_true rfl) dX0_twinsByPairs_22 ⟨Nat.zero_le _, Nat.zero_le _⟩ (fun H locs hI => ?_)
        refine lv_if_eq (tgt := 31) hx hb dX0_twinsByPairs_25 rfl (fun h5 => ?_) (fun h5 => ?_)
        · replace hf := gif h5 hf
          refine lv_iinc (k := 0) (v := v3 + 1) (lv' := [(3, .int (v3 + 1)), (2, .int v2), (1, .int v1), (0, .ref (E.2.1 (o + 1)))]) hx hb dX0_twinsByPairs_31 hl rfl rfl (by decide) rfl (fun ls hl => ?_)
          refine lv_goto (tgt := 14) hx hb dX0_twinsByPairs_34 rfl ?_
          exact ih (v3 + 1) v1 _ hf _ _ _ hI (lv_sub hl [0, 1, 2, 3] rfl) hk
        · replace hf := gifn h5 hf
          refine lv_iinc (k := 2) (v := v1 + 1) (lv' := [(1, .int (v1 + 1)), (3, .int v3), (2, .int v2), (0, .ref (E.2.1 (o + 1)))]) hx hb dX0_twinsByPairs_28 hl rfl rfl (by decide) rfl (fun ls hl => ?_)
          refine lv_iinc (k := 1) (v := v3 + 1) (lv' := [(3, .int (v3 + 1)), (1, .int (v1 + 1)), (2, .int v2), (0, .ref (E.2.1 (o + 1)))]) hx hb dX0_twinsByPairs_31 hl rfl rfl (by decide) rfl (fun ls hl => ?_)
          refine lv_goto (tgt := 14) hx hb dX0_twinsByPairs_34 rfl ?_
          exact ih (v3 + 1) (v1 + 1) _ hf _ _ _ hI (lv_sub hl [0, 2, 1, 3] rfl) hk
  have L4 : ∀ (n : Nat) (v2 : Int32) (v1 : Int32), f_X0_twinsByPairs_L4 o M n v2 v1 = some r → ∀ (H : Heap) (locs : List Loc) (ls : Array Slot), gI E s M x H locs → lv_has ls 4 [(2, .int v2), (1, .int v1), (0, .ref (E.2.1 (o + 1)))] → W p l e (gR 3 64) s m args below meth c H locs 0 0 Q (F0 m 4 ls []) := by
    intro  n
    induction n with
    | zero => intro v2 v1 hf; rw [f_X0_twinsByPairs_L4] at hf; cases hf
    | succ n ih =>
      intro v2 v1 hf H locs ls hI hl
      rw [f_X0_twinsByPairs_L4] at hf
      refine lv_iload_n hx hb dX0_twinsByPairs_4 rfl (lv_at hl 0 rfl) ?_
      refine lv_aload_n hx hb dX0_twinsByPairs_5 rfl (lv_at hl 2 rfl) ?_
      refine gt_X0_X0_count hC hI ho dX0_twinsByPairs_6 ?_
      refine lv_icmp_ge (tgt := 43) hx hb dX0_twinsByPairs_9 rfl (fun h1 => ?_) (fun h1 => ?_)
      · replace hf := gif h1 hf
        refine lv_iload_n hx hb dX0_twinsByPairs_43 rfl (lv_at hl 1 rfl) ?_
        exact kr _ _ _ _ _ _ (gri hf) hI ⟨.int, rfl, rfl⟩ dX0_twinsByPairs_44
      · replace hf := gifn h1 hf
        refine lv_iconst (v := 0) hx hb dX0_twinsByPairs_12 (by decide) ?_
        refine lv_istore_n (lv' := [(3, .int 0), (2, .int v2), (1, .int v1), (0, .ref (E.2.1 (o + 1)))]) hx hb dX0_twinsByPairs_13 rfl hl (by decide) rfl (fun ls hl => ?_)
        obtain ⟨q6, hq6, hf⟩ := gbind hf
        refine L14 v2 gF 0 v1 q6 hq6 _ _ _ hI (lv_sub hl [0, 1, 2, 3] rfl) (fun H locs ls hI hl => ?_)
        try simp only at hI hl
        refine lv_iinc (k := 1) (v := v2 + 1) (lv' := [(2, .int (v2 + 1)), (3, .int q6.1), (1, .int q6.2), (0, .ref (E.2.1 (o + 1)))]) hx hb dX0_twinsByPairs_37 hl rfl rfl (by decide) rfl (fun ls hl => ?_)
        refine lv_goto (tgt := 4) hx hb dX0_twinsByPairs_40 rfl ?_
        exact ih (v2 + 1) q6.2 hf _ _ _ hI (lv_sub hl [0, 2, 3] rfl)
  unfold f_X0_twinsByPairs at hf
  refine lv_iconst (v := 0) hx hb dX0_twinsByPairs_0 (by decide) ?_
  refine lv_istore_n (lv' := [(1, .int 0), (0, .ref (E.2.1 (o + 1)))]) hx hb dX0_twinsByPairs_1 rfl hl (by decide) rfl (fun ls hl => ?_)
  refine lv_iconst (v := 1) hx hb dX0_twinsByPairs_2 (by decide) ?_
  refine lv_istore_n (lv' := [(2, .int 1), (1, .int 0), (0, .ref (E.2.1 (o + 1)))]) hx hb dX0_twinsByPairs_3 rfl hl (by decide) rfl (fun ls hl => ?_)
  exact L4 gF 1 0 hf _ _ _ hI (lv_sub hl [0, 1, 2] rfl)
theorem dX0_startsGroup_0 : decode cX0_startsGroup 0 = .ok (.iconst 0, 1) := by decide +kernel
theorem dX0_startsGroup_1 : decode cX0_startsGroup 1 = .ok (.istore_n 2, 1) := by decide +kernel
theorem dX0_startsGroup_2 : decode cX0_startsGroup 2 = .ok (.iload_n 2, 1) := by decide +kernel
theorem dX0_startsGroup_3 : decode cX0_startsGroup 3 = .ok (.iload_n 1, 1) := by decide +kernel
theorem dX0_startsGroup_4 : decode cX0_startsGroup 4 = .ok (.if_icmp .ge 20, 3) := by decide +kernel
theorem dX0_startsGroup_7 : decode cX0_startsGroup 7 = .ok (.aload_n 0, 1) := by decide +kernel
theorem dX0_startsGroup_8 : decode cX0_startsGroup 8 = .ok (.iload_n 2, 1) := by decide +kernel
theorem dX0_startsGroup_9 : decode cX0_startsGroup 9 = .ok (.iload_n 1, 1) := by decide +kernel
theorem dX0_startsGroup_10 : decode cX0_startsGroup 10 = .ok (.invokevirtual 100, 3) := by decide +kernel
theorem dX0_startsGroup_13 : decode cX0_startsGroup 13 = .ok (.ifCond .eq 5, 3) := by decide +kernel
theorem dX0_startsGroup_16 : decode cX0_startsGroup 16 = .ok (.iconst 0, 1) := by decide +kernel
theorem dX0_startsGroup_17 : decode cX0_startsGroup 17 = .ok (.ireturn, 1) := by decide +kernel
theorem dX0_startsGroup_18 : decode cX0_startsGroup 18 = .ok (.iinc 2 1, 3) := by decide +kernel
theorem dX0_startsGroup_21 : decode cX0_startsGroup 21 = .ok (.goto (-19), 3) := by decide +kernel
theorem dX0_startsGroup_24 : decode cX0_startsGroup 24 = .ok (.iconst 1, 1) := by decide +kernel
theorem dX0_startsGroup_25 : decode cX0_startsGroup 25 = .ok (.ireturn, 1) := by decide +kernel
set_option maxRecDepth 100000 in
set_option maxHeartbeats 4000000 in
theorem C_X0_startsGroup (l : Launch) (E : gE) (x : gX) {o : Nat} (ho : gOk o) {v1 : Int32} {M : gM} {r : Bool} (hf : f_X0_startsGroup o v1 M = some r) : gM0 l E yX0_startsGroup (.code yX0_startsGroup cX0_startsGroup 3 (some .boolean)) (gR 3 64) M x [.ref (E.2.1 (o + 1)), .int v1] (some (.int (gb r))) M := by
  refine gMet (by decide +kernel) (Nat.le_of_ble_eq_true rfl) ?_
  intro p e s m args below meth c H locs ls Q hC hl hI kr kv
  replace hC : gC p s m args c cX0_startsGroup 3 RX0 E := hC
  replace hl : lv_has ls 3 [(0, .ref (E.2.1 (o + 1))), (1, .int v1)] := hl
  have hx := hC.1
  have hb := hC.2.1
  have L2 : ∀ (v1 : Int32) (n : Nat) (v2 : Int32), f_X0_startsGroup_L2 o M v1 n v2 = some r → ∀ (H : Heap) (locs : List Loc) (ls : Array Slot), gI E s M x H locs → lv_has ls 3 [(2, .int v2), (0, .ref (E.2.1 (o + 1))), (1, .int v1)] → W p l e (gR 3 64) s m args below meth c H locs 0 0 Q (F0 m 2 ls []) := by
    intro v1 n
    induction n with
    | zero => intro v2 hf; rw [f_X0_startsGroup_L2] at hf; cases hf
    | succ n ih =>
      intro v2 hf H locs ls hI hl
      rw [f_X0_startsGroup_L2] at hf
      refine lv_iload_n hx hb dX0_startsGroup_2 rfl (lv_at hl 0 rfl) ?_
      refine lv_iload_n hx hb dX0_startsGroup_3 rfl (lv_at hl 2 rfl) ?_
      refine lv_icmp_ge (tgt := 24) hx hb dX0_startsGroup_4 rfl (fun h1 => ?_) (fun h1 => ?_)
      · replace hf := gif h1 hf
        refine lv_iconst (v := 1) hx hb dX0_startsGroup_24 (by decide) ?_
        exact kr _ _ _ _ _ _ (grb1 hf) hI ⟨.boolean, rfl, rfl⟩ dX0_startsGroup_25
      · replace hf := gifn h1 hf
        refine lv_aload_n hx hb dX0_startsGroup_7 rfl (lv_at hl 1 rfl) ?_
        refine lv_iload_n hx hb dX0_startsGroup_8 rfl (lv_at hl 0 rfl) ?_
        refine lv_iload_n hx hb dX0_startsGroup_9 rfl (lv_at hl 2 rfl) ?_
        obtain ⟨r2, hr3, hf⟩ := gbind hf
        have hr3 := C_X0_areTwins l E x ho hr3
        refine g_callVi (rest := []) hC hI hr3 Y_X0_areTwins V_X0_areTwins w303 (rcv_X0 hC hI ho) ⟨rfl, rfl⟩ ⟨Nat.le_of_ble_eq_true rfl, Nat.le_of_ble_eq_true rfl⟩ rfl hl.1 rfl (Nat.le_of_ble_eq_true rfl) dX0_startsGroup_10 ⟨Nat.zero_le _, Nat.zero_le _⟩ (fun H locs hI => ?_)
        refine lv_if_eq (tgt := 18) hx hb dX0_startsGroup_13 rfl (fun h4 => ?_) (fun h4 => ?_)
        · replace hf := gif h4 hf
          refine lv_iinc (k := 0) (v := v2 + 1) (lv' := [(2, .int (v2 + 1)), (0, .ref (E.2.1 (o + 1))), (1, .int v1)]) hx hb dX0_startsGroup_18 hl rfl rfl (by decide) rfl (fun ls hl => ?_)
          refine lv_goto (tgt := 2) hx hb dX0_startsGroup_21 rfl ?_
          exact ih (v2 + 1) hf _ _ _ hI (lv_sub hl [0, 1, 2] rfl)
        · replace hf := gifn h4 hf
          refine lv_iconst (v := 0) hx hb dX0_startsGroup_16 (by decide) ?_
          exact kr _ _ _ _ _ _ (grb0 hf) hI ⟨.boolean, rfl, rfl⟩ dX0_startsGroup_17
  unfold f_X0_startsGroup at hf
  refine lv_iconst (v := 0) hx hb dX0_startsGroup_0 (by decide) ?_
  refine lv_istore_n (lv' := [(2, .int 0), (0, .ref (E.2.1 (o + 1))), (1, .int v1)]) hx hb dX0_startsGroup_1 rfl hl (by decide) rfl (fun ls hl => ?_)
  exact L2 v1 gF 0 hf _ _ _ hI (lv_sub hl [0, 1, 2] rfl)
theorem dX0_groupSize_0 : decode cX0_groupSize 0 = .ok (.iconst 0, 1) := by decide +kernel
theorem dX0_groupSize_1 : decode cX0_groupSize 1 = .ok (.istore_n 2, 1) := by decide +kernel
theorem dX0_groupSize_2 : decode cX0_groupSize 2 = .ok (.iconst 0, 1) := by decide +kernel
theorem dX0_groupSize_3 : decode cX0_groupSize 3 = .ok (.istore_n 3, 1) := by decide +kernel
theorem dX0_groupSize_4 : decode cX0_groupSize 4 = .ok (.iload_n 3, 1) := by decide +kernel
theorem dX0_groupSize_5 : decode cX0_groupSize 5 = .ok (.aload_n 0, 1) := by decide +kernel
theorem dX0_groupSize_6 : decode cX0_groupSize 6 = .ok (.getfield 30, 3) := by decide +kernel
theorem dX0_groupSize_9 : decode cX0_groupSize 9 = .ok (.if_icmp .ge 21, 3) := by decide +kernel
theorem dX0_groupSize_12 : decode cX0_groupSize 12 = .ok (.aload_n 0, 1) := by decide +kernel
theorem dX0_groupSize_13 : decode cX0_groupSize 13 = .ok (.iload_n 3, 1) := by decide +kernel
theorem dX0_groupSize_14 : decode cX0_groupSize 14 = .ok (.iload_n 1, 1) := by decide +kernel
theorem dX0_groupSize_15 : decode cX0_groupSize 15 = .ok (.invokevirtual 100, 3) := by decide +kernel
theorem dX0_groupSize_18 : decode cX0_groupSize 18 = .ok (.ifCond .eq 6, 3) := by decide +kernel
theorem dX0_groupSize_21 : decode cX0_groupSize 21 = .ok (.iinc 2 1, 3) := by decide +kernel
theorem dX0_groupSize_24 : decode cX0_groupSize 24 = .ok (.iinc 3 1, 3) := by decide +kernel
theorem dX0_groupSize_27 : decode cX0_groupSize 27 = .ok (.goto (-23), 3) := by decide +kernel
theorem dX0_groupSize_30 : decode cX0_groupSize 30 = .ok (.iload_n 2, 1) := by decide +kernel
theorem dX0_groupSize_31 : decode cX0_groupSize 31 = .ok (.ireturn, 1) := by decide +kernel
set_option maxRecDepth 100000 in
set_option maxHeartbeats 4000000 in
theorem C_X0_groupSize (l : Launch) (E : gE) (x : gX) {o : Nat} (ho : gOk o) {v1 : Int32} {M : gM} {r : Int32} (hf : f_X0_groupSize o v1 M = some r) : gM0 l E yX0_groupSize (.code yX0_groupSize cX0_groupSize 4 (some .int)) (gR 3 64) M x [.ref (E.2.1 (o + 1)), .int v1] (some (.int r)) M := by
  refine gMet (by decide +kernel) (Nat.le_of_ble_eq_true rfl) ?_
  intro p e s m args below meth c H locs ls Q hC hl hI kr kv
  replace hC : gC p s m args c cX0_groupSize 4 RX0 E := hC
  replace hl : lv_has ls 4 [(0, .ref (E.2.1 (o + 1))), (1, .int v1)] := hl
  have hx := hC.1
  have hb := hC.2.1
  have L4 : ∀ (v1 : Int32) (n : Nat) (v3 : Int32) (v2 : Int32), f_X0_groupSize_L4 o M v1 n v3 v2 = some r → ∀ (H : Heap) (locs : List Loc) (ls : Array Slot), gI E s M x H locs → lv_has ls 4 [(3, .int v3), (2, .int v2), (0, .ref (E.2.1 (o + 1))), (1, .int v1)] → W p l e (gR 3 64) s m args below meth c H locs 0 0 Q (F0 m 4 ls []) := by
    intro v1 n
    induction n with
    | zero => intro v3 v2 hf; rw [f_X0_groupSize_L4] at hf; cases hf
    | succ n ih =>
      intro v3 v2 hf H locs ls hI hl
      rw [f_X0_groupSize_L4] at hf
      refine lv_iload_n hx hb dX0_groupSize_4 rfl (lv_at hl 0 rfl) ?_
      refine lv_aload_n hx hb dX0_groupSize_5 rfl (lv_at hl 2 rfl) ?_
      refine gt_X0_X0_count hC hI ho dX0_groupSize_6 ?_
      refine lv_icmp_ge (tgt := 30) hx hb dX0_groupSize_9 rfl (fun h1 => ?_) (fun h1 => ?_)
      · replace hf := gif h1 hf
        refine lv_iload_n hx hb dX0_groupSize_30 rfl (lv_at hl 1 rfl) ?_
        exact kr _ _ _ _ _ _ (gri hf) hI ⟨.int, rfl, rfl⟩ dX0_groupSize_31
      · replace hf := gifn h1 hf
        refine lv_aload_n hx hb dX0_groupSize_12 rfl (lv_at hl 2 rfl) ?_
        refine lv_iload_n hx hb dX0_groupSize_13 rfl (lv_at hl 0 rfl) ?_
        refine lv_iload_n hx hb dX0_groupSize_14 rfl (lv_at hl 3 rfl) ?_
        obtain ⟨r2, hr3, hf⟩ := gbind hf
        have hr3 := C_X0_areTwins l E x ho hr3
        refine g_callVi (rest := []) hC hI hr3 Y_X0_areTwins V_X0_areTwins w303 (rcv_X0 hC hI ho) ⟨rfl, rfl⟩ ⟨Nat.le_of_ble_eq_true rfl, Nat.le_of_ble_eq_true rfl⟩ rfl hl.1 rfl (Nat.le_of_ble_eq_true rfl) dX0_groupSize_15 ⟨Nat.zero_le _, Nat.zero_le _⟩ (fun H locs hI => ?_)
        refine lv_if_eq (tgt := 24) hx hb dX0_groupSize_18 rfl (fun h4 => ?_) (fun h4 => ?_)
        · replace hf := gif h4 hf
          refine lv_iinc (k := 0) (v := v3 + 1) (lv' := [(3, .int (v3 + 1)), (2, .int v2), (0, .ref (E.2.1 (o + 1))), (1, .int v1)]) hx hb dX0_groupSize_24 hl rfl rfl (by decide) rfl (fun ls hl => ?_)
          refine lv_goto (tgt := 4) hx hb dX0_groupSize_27 rfl ?_
          exact ih (v3 + 1) v2 hf _ _ _ hI (lv_sub hl [0, 1, 2, 3] rfl)
        · replace hf := gifn h4 hf
          refine lv_iinc (k := 1) (v := v2 + 1) (lv' := [(2, .int (v2 + 1)), (3, .int v3), (0, .ref (E.2.1 (o + 1))), (1, .int v1)]) hx hb dX0_groupSize_21 hl rfl rfl (by decide) rfl (fun ls hl => ?_)
          refine lv_iinc (k := 1) (v := v3 + 1) (lv' := [(3, .int (v3 + 1)), (2, .int (v2 + 1)), (0, .ref (E.2.1 (o + 1))), (1, .int v1)]) hx hb dX0_groupSize_24 hl rfl rfl (by decide) rfl (fun ls hl => ?_)
          refine lv_goto (tgt := 4) hx hb dX0_groupSize_27 rfl ?_
          exact ih (v3 + 1) (v2 + 1) hf _ _ _ hI (lv_sub hl [0, 1, 2, 3] rfl)
  unfold f_X0_groupSize at hf
  refine lv_iconst (v := 0) hx hb dX0_groupSize_0 (by decide) ?_
  refine lv_istore_n (lv' := [(2, .int 0), (0, .ref (E.2.1 (o + 1))), (1, .int v1)]) hx hb dX0_groupSize_1 rfl hl (by decide) rfl (fun ls hl => ?_)
  refine lv_iconst (v := 0) hx hb dX0_groupSize_2 (by decide) ?_
  refine lv_istore_n (lv' := [(3, .int 0), (2, .int 0), (0, .ref (E.2.1 (o + 1))), (1, .int v1)]) hx hb dX0_groupSize_3 rfl hl (by decide) rfl (fun ls hl => ?_)
  exact L4 v1 gF 0 0 hf _ _ _ hI (lv_sub hl [0, 1, 2, 3] rfl)
theorem dX0_twinsInGroups_0 : decode cX0_twinsInGroups 0 = .ok (.iconst 0, 1) := by decide +kernel
theorem dX0_twinsInGroups_1 : decode cX0_twinsInGroups 1 = .ok (.istore_n 1, 1) := by decide +kernel
theorem dX0_twinsInGroups_2 : decode cX0_twinsInGroups 2 = .ok (.iconst 0, 1) := by decide +kernel
theorem dX0_twinsInGroups_3 : decode cX0_twinsInGroups 3 = .ok (.istore_n 2, 1) := by decide +kernel
theorem dX0_twinsInGroups_4 : decode cX0_twinsInGroups 4 = .ok (.iload_n 2, 1) := by decide +kernel
theorem dX0_twinsInGroups_5 : decode cX0_twinsInGroups 5 = .ok (.aload_n 0, 1) := by decide +kernel
theorem dX0_twinsInGroups_6 : decode cX0_twinsInGroups 6 = .ok (.getfield 30, 3) := by decide +kernel
theorem dX0_twinsInGroups_9 : decode cX0_twinsInGroups 9 = .ok (.if_icmp .ge 33, 3) := by decide +kernel
theorem dX0_twinsInGroups_12 : decode cX0_twinsInGroups 12 = .ok (.aload_n 0, 1) := by decide +kernel
theorem dX0_twinsInGroups_13 : decode cX0_twinsInGroups 13 = .ok (.iload_n 2, 1) := by decide +kernel
theorem dX0_twinsInGroups_14 : decode cX0_twinsInGroups 14 = .ok (.invokevirtual 103, 3) := by decide +kernel
theorem dX0_twinsInGroups_17 : decode cX0_twinsInGroups 17 = .ok (.ifCond .eq 19, 3) := by decide +kernel
theorem dX0_twinsInGroups_20 : decode cX0_twinsInGroups 20 = .ok (.aload_n 0, 1) := by decide +kernel
theorem dX0_twinsInGroups_21 : decode cX0_twinsInGroups 21 = .ok (.iload_n 2, 1) := by decide +kernel
theorem dX0_twinsInGroups_22 : decode cX0_twinsInGroups 22 = .ok (.invokevirtual 106, 3) := by decide +kernel
theorem dX0_twinsInGroups_25 : decode cX0_twinsInGroups 25 = .ok (.istore_n 3, 1) := by decide +kernel
theorem dX0_twinsInGroups_26 : decode cX0_twinsInGroups 26 = .ok (.iload_n 1, 1) := by decide +kernel
theorem dX0_twinsInGroups_27 : decode cX0_twinsInGroups 27 = .ok (.iload_n 3, 1) := by decide +kernel
theorem dX0_twinsInGroups_28 : decode cX0_twinsInGroups 28 = .ok (.iload_n 3, 1) := by decide +kernel
theorem dX0_twinsInGroups_29 : decode cX0_twinsInGroups 29 = .ok (.iconst 1, 1) := by decide +kernel
theorem dX0_twinsInGroups_30 : decode cX0_twinsInGroups 30 = .ok (.isub, 1) := by decide +kernel
theorem dX0_twinsInGroups_31 : decode cX0_twinsInGroups 31 = .ok (.imul, 1) := by decide +kernel
theorem dX0_twinsInGroups_32 : decode cX0_twinsInGroups 32 = .ok (.iconst 2, 1) := by decide +kernel
theorem dX0_twinsInGroups_33 : decode cX0_twinsInGroups 33 = .ok (.idiv, 1) := by decide +kernel
theorem dX0_twinsInGroups_34 : decode cX0_twinsInGroups 34 = .ok (.iadd, 1) := by decide +kernel
theorem dX0_twinsInGroups_35 : decode cX0_twinsInGroups 35 = .ok (.istore_n 1, 1) := by decide +kernel
theorem dX0_twinsInGroups_36 : decode cX0_twinsInGroups 36 = .ok (.iinc 2 1, 3) := by decide +kernel
theorem dX0_twinsInGroups_39 : decode cX0_twinsInGroups 39 = .ok (.goto (-35), 3) := by decide +kernel
theorem dX0_twinsInGroups_42 : decode cX0_twinsInGroups 42 = .ok (.iload_n 1, 1) := by decide +kernel
theorem dX0_twinsInGroups_43 : decode cX0_twinsInGroups 43 = .ok (.ireturn, 1) := by decide +kernel
set_option maxRecDepth 100000 in
set_option maxHeartbeats 4000000 in
theorem C_X0_twinsInGroups (l : Launch) (E : gE) (x : gX) {o : Nat} (ho : gOk o) {M : gM} {r : Int32} (hf : f_X0_twinsInGroups o M = some r) : gM0 l E yX0_twinsInGroups (.code yX0_twinsInGroups cX0_twinsInGroups 4 (some .int)) (gR 4 87) M x [.ref (E.2.1 (o + 1))] (some (.int r)) M := by
  refine gMet (by decide +kernel) (Nat.le_of_ble_eq_true rfl) ?_
  intro p e s m args below meth c H locs ls Q hC hl hI kr kv
  replace hC : gC p s m args c cX0_twinsInGroups 4 RX0 E := hC
  replace hl : lv_has ls 4 [(0, .ref (E.2.1 (o + 1)))] := hl
  have hx := hC.1
  have hb := hC.2.1
  have L4 : ∀ (n : Nat) (v2 : Int32) (v1 : Int32), f_X0_twinsInGroups_L4 o M n v2 v1 = some r → ∀ (H : Heap) (locs : List Loc) (ls : Array Slot), gI E s M x H locs → lv_has ls 4 [(2, .int v2), (1, .int v1), (0, .ref (E.2.1 (o + 1)))] → W p l e (gR 4 87) s m args below meth c H locs 0 0 Q (F0 m 4 ls []) := by
    intro  n
    induction n with
    | zero => intro v2 v1 hf; rw [f_X0_twinsInGroups_L4] at hf; cases hf
    | succ n ih =>
      intro v2 v1 hf H locs ls hI hl
      rw [f_X0_twinsInGroups_L4] at hf
      refine lv_iload_n hx hb dX0_twinsInGroups_4 rfl (lv_at hl 0 rfl) ?_
      refine lv_aload_n hx hb dX0_twinsInGroups_5 rfl (lv_at hl 2 rfl) ?_
      refine gt_X0_X0_count hC hI ho dX0_twinsInGroups_6 ?_
      refine lv_icmp_ge (tgt := 42) hx hb dX0_twinsInGroups_9 rfl (fun h1 => ?_) (fun h1 => ?_)
      · replace hf := gif h1 hf
        refine lv_iload_n hx hb dX0_twinsInGroups_42 rfl (lv_at hl 1 rfl) ?_
        exact kr _ _ _ _ _ _ (gri hf) hI ⟨.int, rfl, rfl⟩ dX0_twinsInGroups_43
      · replace hf := gifn h1 hf
        refine lv_aload_n hx hb dX0_twinsInGroups_12 rfl (lv_at hl 2 rfl) ?_
        refine lv_iload_n hx hb dX0_twinsInGroups_13 rfl (lv_at hl 0 rfl) ?_
        obtain ⟨r2, hr3, hf⟩ := gbind hf
        have hr3 := C_X0_startsGroup l E x ho hr3
        refine g_callVi (rest := []) hC hI hr3 Y_X0_startsGroup V_X0_startsGroup w319 (rcv_X0 hC hI ho) ⟨rfl, rfl⟩ ⟨Nat.le_of_ble_eq_true rfl, Nat.le_of_ble_eq_true rfl⟩ rfl hl.1 rfl (Nat.le_of_ble_eq_true rfl) dX0_twinsInGroups_14 ⟨Nat.zero_le _, Nat.zero_le _⟩ (fun H locs hI => ?_)
        refine lv_if_eq (tgt := 36) hx hb dX0_twinsInGroups_17 rfl (fun h4 => ?_) (fun h4 => ?_)
        · replace hf := gif h4 hf
          refine lv_iinc (k := 0) (v := v2 + 1) (lv' := [(2, .int (v2 + 1)), (1, .int v1), (0, .ref (E.2.1 (o + 1)))]) hx hb dX0_twinsInGroups_36 hl rfl rfl (by decide) rfl (fun ls hl => ?_)
          refine lv_goto (tgt := 4) hx hb dX0_twinsInGroups_39 rfl ?_
          exact ih (v2 + 1) v1 hf _ _ _ hI (lv_sub hl [0, 1, 2] rfl)
        · replace hf := gifn h4 hf
          refine lv_aload_n hx hb dX0_twinsInGroups_20 rfl (lv_at hl 2 rfl) ?_
          refine lv_iload_n hx hb dX0_twinsInGroups_21 rfl (lv_at hl 0 rfl) ?_
          obtain ⟨r5, hr6, hf⟩ := gbind hf
          have hr6 := C_X0_groupSize l E x ho hr6
          refine g_callVi (rest := []) hC hI hr6 Y_X0_groupSize V_X0_groupSize w323 (rcv_X0 hC hI ho) ⟨rfl, rfl⟩ ⟨Nat.le_of_ble_eq_true rfl, Nat.le_of_ble_eq_true rfl⟩ rfl hl.1 rfl (Nat.le_of_ble_eq_true rfl) dX0_twinsInGroups_22 ⟨Nat.zero_le _, Nat.zero_le _⟩ (fun H locs hI => ?_)
          refine lv_istore_n (lv' := [(3, .int r5), (2, .int v2), (1, .int v1), (0, .ref (E.2.1 (o + 1)))]) hx hb dX0_twinsInGroups_25 rfl hl (by decide) rfl (fun ls hl => ?_)
          refine lv_iload_n hx hb dX0_twinsInGroups_26 rfl (lv_at hl 2 rfl) ?_
          refine lv_iload_n hx hb dX0_twinsInGroups_27 rfl (lv_at hl 0 rfl) ?_
          refine lv_iload_n hx hb dX0_twinsInGroups_28 rfl (lv_at hl 0 rfl) ?_
          refine lv_iconst (v := 1) hx hb dX0_twinsInGroups_29 (by decide) ?_
          refine lv_isub hx hb dX0_twinsInGroups_30 ?_
          refine lv_imul hx hb dX0_twinsInGroups_31 ?_
          refine lv_iconst (v := 2) hx hb dX0_twinsInGroups_32 (by decide) ?_
          refine lv_idiv hx hb dX0_twinsInGroups_33 (by decide) ?_
          refine lv_iadd hx hb dX0_twinsInGroups_34 ?_
          obtain ⟨z7, ez7, hf⟩ := glet hf
          refine g_top ez7 ?_
          refine lv_istore_n (lv' := [(1, .int z7), (3, .int r5), (2, .int v2), (0, .ref (E.2.1 (o + 1)))]) hx hb dX0_twinsInGroups_35 rfl hl (by decide) rfl (fun ls hl => ?_)
          refine lv_iinc (k := 2) (v := v2 + 1) (lv' := [(2, .int (v2 + 1)), (1, .int z7), (3, .int r5), (0, .ref (E.2.1 (o + 1)))]) hx hb dX0_twinsInGroups_36 hl rfl rfl (by decide) rfl (fun ls hl => ?_)
          refine lv_goto (tgt := 4) hx hb dX0_twinsInGroups_39 rfl ?_
          exact ih (v2 + 1) z7 hf _ _ _ hI (lv_sub hl [0, 1, 3] rfl)
  unfold f_X0_twinsInGroups at hf
  refine lv_iconst (v := 0) hx hb dX0_twinsInGroups_0 (by decide) ?_
  refine lv_istore_n (lv' := [(1, .int 0), (0, .ref (E.2.1 (o + 1)))]) hx hb dX0_twinsInGroups_1 rfl hl (by decide) rfl (fun ls hl => ?_)
  refine lv_iconst (v := 0) hx hb dX0_twinsInGroups_2 (by decide) ?_
  refine lv_istore_n (lv' := [(2, .int 0), (1, .int 0), (0, .ref (E.2.1 (o + 1)))]) hx hb dX0_twinsInGroups_3 rfl hl (by decide) rfl (fun ls hl => ?_)
  exact L4 gF 0 0 hf _ _ _ hI (lv_sub hl [0, 1, 2] rfl)
theorem dX0_rowAt_0 : decode cX0_rowAt 0 = .ok (.iconst 0, 1) := by decide +kernel
theorem dX0_rowAt_1 : decode cX0_rowAt 1 = .ok (.istore_n 3, 1) := by decide +kernel
theorem dX0_rowAt_2 : decode cX0_rowAt 2 = .ok (.iload_n 3, 1) := by decide +kernel
theorem dX0_rowAt_3 : decode cX0_rowAt 3 = .ok (.aload_n 0, 1) := by decide +kernel
theorem dX0_rowAt_4 : decode cX0_rowAt 4 = .ok (.getfield 30, 3) := by decide +kernel
theorem dX0_rowAt_7 : decode cX0_rowAt 7 = .ok (.if_icmp .ge 37, 3) := by decide +kernel
theorem dX0_rowAt_10 : decode cX0_rowAt 10 = .ok (.iload_n 3, 1) := by decide +kernel
theorem dX0_rowAt_11 : decode cX0_rowAt 11 = .ok (.bipush 75, 2) := by decide +kernel
theorem dX0_rowAt_13 : decode cX0_rowAt 13 = .ok (.if_icmp .ge 31, 3) := by decide +kernel
theorem dX0_rowAt_16 : decode cX0_rowAt 16 = .ok (.aload_n 0, 1) := by decide +kernel
theorem dX0_rowAt_17 : decode cX0_rowAt 17 = .ok (.getfield 21, 3) := by decide +kernel
theorem dX0_rowAt_20 : decode cX0_rowAt 20 = .ok (.iload_n 3, 1) := by decide +kernel
theorem dX0_rowAt_21 : decode cX0_rowAt 21 = .ok (.iaload, 1) := by decide +kernel
theorem dX0_rowAt_22 : decode cX0_rowAt 22 = .ok (.iload_n 1, 1) := by decide +kernel
theorem dX0_rowAt_23 : decode cX0_rowAt 23 = .ok (.if_icmp .ne 15, 3) := by decide +kernel
theorem dX0_rowAt_26 : decode cX0_rowAt 26 = .ok (.aload_n 0, 1) := by decide +kernel
theorem dX0_rowAt_27 : decode cX0_rowAt 27 = .ok (.getfield 24, 3) := by decide +kernel
theorem dX0_rowAt_30 : decode cX0_rowAt 30 = .ok (.iload_n 3, 1) := by decide +kernel
theorem dX0_rowAt_31 : decode cX0_rowAt 31 = .ok (.iaload, 1) := by decide +kernel
theorem dX0_rowAt_32 : decode cX0_rowAt 32 = .ok (.iload_n 2, 1) := by decide +kernel
theorem dX0_rowAt_33 : decode cX0_rowAt 33 = .ok (.if_icmp .ne 5, 3) := by decide +kernel
theorem dX0_rowAt_36 : decode cX0_rowAt 36 = .ok (.iload_n 3, 1) := by decide +kernel
theorem dX0_rowAt_37 : decode cX0_rowAt 37 = .ok (.ireturn, 1) := by decide +kernel
theorem dX0_rowAt_38 : decode cX0_rowAt 38 = .ok (.iinc 3 1, 3) := by decide +kernel
theorem dX0_rowAt_41 : decode cX0_rowAt 41 = .ok (.goto (-39), 3) := by decide +kernel
theorem dX0_rowAt_44 : decode cX0_rowAt 44 = .ok (.iconst (-1), 1) := by decide +kernel
theorem dX0_rowAt_45 : decode cX0_rowAt 45 = .ok (.ireturn, 1) := by decide +kernel
set_option maxRecDepth 100000 in
set_option maxHeartbeats 4000000 in
theorem C_X0_rowAt (l : Launch) (E : gE) (x : gX) {o : Nat} (ho : gOk o) {v1 v2 : Int32} {M : gM} {r : Int32} (hf : f_X0_rowAt o v1 v2 M = some r) : gM0 l E yX0_rowAt (.code yX0_rowAt cX0_rowAt 4 (some .int)) (gR 0 0) M x [.ref (E.2.1 (o + 1)), .int v1, .int v2] (some (.int r)) M := by
  refine gMet (by decide +kernel) (Nat.le_of_ble_eq_true rfl) ?_
  intro p e s m args below meth c H locs ls Q hC hl hI kr kv
  replace hC : gC p s m args c cX0_rowAt 4 RX0 E := hC
  replace hl : lv_has ls 4 [(0, .ref (E.2.1 (o + 1))), (1, .int v1), (2, .int v2)] := hl
  have hx := hC.1
  have hb := hC.2.1
  have L2 : ∀ (v1 : Int32) (v2 : Int32) (n : Nat) (v3 : Int32), f_X0_rowAt_L2 o M v1 v2 n v3 = some r → ∀ (H : Heap) (locs : List Loc) (ls : Array Slot), gI E s M x H locs → lv_has ls 4 [(3, .int v3), (0, .ref (E.2.1 (o + 1))), (1, .int v1), (2, .int v2)] → W p l e (gR 0 0) s m args below meth c H locs 0 0 Q (F0 m 2 ls []) := by
    intro v1 v2 n
    induction n with
    | zero => intro v3 hf; rw [f_X0_rowAt_L2] at hf; cases hf
    | succ n ih =>
      intro v3 hf H locs ls hI hl
      rw [f_X0_rowAt_L2] at hf
      refine lv_iload_n hx hb dX0_rowAt_2 rfl (lv_at hl 0 rfl) ?_
      refine lv_aload_n hx hb dX0_rowAt_3 rfl (lv_at hl 1 rfl) ?_
      refine gt_X0_X0_count hC hI ho dX0_rowAt_4 ?_
      refine lv_icmp_ge (tgt := 44) hx hb dX0_rowAt_7 rfl (fun h1 => ?_) (fun h1 => ?_)
      · replace hf := gif h1 hf
        refine lv_iconst (v := (-1)) hx hb dX0_rowAt_44 (by decide) ?_
        exact kr _ _ _ _ _ _ (gri hf) hI ⟨.int, rfl, rfl⟩ dX0_rowAt_45
      · replace hf := gifn h1 hf
        refine lv_iload_n hx hb dX0_rowAt_10 rfl (lv_at hl 0 rfl) ?_
        refine lv_bipush (v := 75) hx hb dX0_rowAt_11 (by decide) ?_
        refine lv_icmp_ge (tgt := 44) hx hb dX0_rowAt_13 rfl (fun h2 => ?_) (fun h2 => ?_)
        · replace hf := gif h2 hf
          refine lv_iconst (v := (-1)) hx hb dX0_rowAt_44 (by decide) ?_
          exact kr _ _ _ _ _ _ (gri hf) hI ⟨.int, rfl, rfl⟩ dX0_rowAt_45
        · replace hf := gifn h2 hf
          refine lv_aload_n hx hb dX0_rowAt_16 rfl (lv_at hl 1 rfl) ?_
          refine gt_X0_X0_piles hC hI ho dX0_rowAt_17 ?_
          refine lv_iload_n hx hb dX0_rowAt_20 rfl (lv_at hl 0 rfl) ?_
          obtain ⟨h3, hf⟩ := gifN hf
          refine g_iald hC hI (k := v3.toNatClampNeg) (gIA_5 ho) h3 rfl dX0_rowAt_21 ?_
          refine lv_iload_n hx hb dX0_rowAt_22 rfl (lv_at hl 2 rfl) ?_
          refine lv_icmp_ne (tgt := 38) hx hb dX0_rowAt_23 rfl (fun h4 => ?_) (fun h4 => ?_)
          · replace hf := gifn h4 hf
            refine lv_iinc (k := 0) (v := v3 + 1) (lv' := [(3, .int (v3 + 1)), (0, .ref (E.2.1 (o + 1))), (1, .int v1), (2, .int v2)]) hx hb dX0_rowAt_38 hl rfl rfl (by decide) rfl (fun ls hl => ?_)
            refine lv_goto (tgt := 2) hx hb dX0_rowAt_41 rfl ?_
            exact ih (v3 + 1) hf _ _ _ hI (lv_sub hl [0, 1, 2, 3] rfl)
          · replace hf := gif h4 hf
            refine lv_aload_n hx hb dX0_rowAt_26 rfl (lv_at hl 1 rfl) ?_
            refine gt_X0_X0_levels hC hI ho dX0_rowAt_27 ?_
            refine lv_iload_n hx hb dX0_rowAt_30 rfl (lv_at hl 0 rfl) ?_
            obtain ⟨h5, hf⟩ := gifN hf
            refine g_iald hC hI (k := v3.toNatClampNeg) (gIA_6 ho) h5 rfl dX0_rowAt_31 ?_
            refine lv_iload_n hx hb dX0_rowAt_32 rfl (lv_at hl 3 rfl) ?_
            refine lv_icmp_ne (tgt := 38) hx hb dX0_rowAt_33 rfl (fun h6 => ?_) (fun h6 => ?_)
            · replace hf := gifn h6 hf
              refine lv_iinc (k := 0) (v := v3 + 1) (lv' := [(3, .int (v3 + 1)), (0, .ref (E.2.1 (o + 1))), (1, .int v1), (2, .int v2)]) hx hb dX0_rowAt_38 hl rfl rfl (by decide) rfl (fun ls hl => ?_)
              refine lv_goto (tgt := 2) hx hb dX0_rowAt_41 rfl ?_
              exact ih (v3 + 1) hf _ _ _ hI (lv_sub hl [0, 1, 2, 3] rfl)
            · replace hf := gif h6 hf
              refine lv_iload_n hx hb dX0_rowAt_36 rfl (lv_at hl 0 rfl) ?_
              exact kr _ _ _ _ _ _ (gri hf) hI ⟨.int, rfl, rfl⟩ dX0_rowAt_37
  unfold f_X0_rowAt at hf
  refine lv_iconst (v := 0) hx hb dX0_rowAt_0 (by decide) ?_
  refine lv_istore_n (lv' := [(3, .int 0), (0, .ref (E.2.1 (o + 1))), (1, .int v1), (2, .int v2)]) hx hb dX0_rowAt_1 rfl hl (by decide) rfl (fun ls hl => ?_)
  exact L2 v1 v2 gF 0 hf _ _ _ hI (lv_sub hl [0, 1, 2, 3] rfl)
theorem dX0_onShips_0 : decode cX0_onShips 0 = .ok (.aload_n 0, 1) := by decide +kernel
theorem dX0_onShips_1 : decode cX0_onShips 1 = .ok (.getfield 30, 3) := by decide +kernel
theorem dX0_onShips_4 : decode cX0_onShips 4 = .ok (.aload_n 0, 1) := by decide +kernel
theorem dX0_onShips_5 : decode cX0_onShips 5 = .ok (.bipush 12, 2) := by decide +kernel
theorem dX0_onShips_7 : decode cX0_onShips 7 = .ok (.invokevirtual 40, 3) := by decide +kernel
theorem dX0_onShips_10 : decode cX0_onShips 10 = .ok (.isub, 1) := by decide +kernel
theorem dX0_onShips_11 : decode cX0_onShips 11 = .ok (.ireturn, 1) := by decide +kernel
set_option maxRecDepth 100000 in
set_option maxHeartbeats 4000000 in
theorem C_X0_onShips (l : Launch) (E : gE) (x : gX) {o : Nat} (ho : gOk o) {M : gM} {r : Int32} (hf : f_X0_onShips o M = some r) : gM0 l E yX0_onShips (.code yX0_onShips cX0_onShips 1 (some .int)) (gR 1 23) M x [.ref (E.2.1 (o + 1))] (some (.int r)) M := by
  refine gMet (by decide +kernel) (Nat.le_of_ble_eq_true rfl) ?_
  intro p e s m args below meth c H locs ls Q hC hl hI kr kv
  replace hC : gC p s m args c cX0_onShips 1 RX0 E := hC
  replace hl : lv_has ls 1 [(0, .ref (E.2.1 (o + 1)))] := hl
  have hx := hC.1
  have hb := hC.2.1
  unfold f_X0_onShips at hf
  refine lv_aload_n hx hb dX0_onShips_0 rfl (lv_at hl 0 rfl) ?_
  refine gt_X0_X0_count hC hI ho dX0_onShips_1 ?_
  refine lv_aload_n hx hb dX0_onShips_4 rfl (lv_at hl 0 rfl) ?_
  refine lv_bipush (v := 12) hx hb dX0_onShips_5 (by decide) ?_
  obtain ⟨r1, hr2, hf⟩ := gbind hf
  have hr2 := C_X0_height l E x ho hr2
  refine g_callVi (rest := [.int (M (o + 1) 6)]) hC hI hr2 Y_X0_height V_X0_height w412 (rcv_X0 hC hI ho) ⟨rfl, rfl⟩ ⟨Nat.le_of_ble_eq_true rfl, Nat.le_of_ble_eq_true rfl⟩ rfl hl.1 rfl (Nat.le_of_ble_eq_true rfl) dX0_onShips_7 ⟨Nat.zero_le _, Nat.zero_le _⟩ (fun H locs hI => ?_)
  refine lv_isub hx hb dX0_onShips_10 ?_
  exact kr _ _ _ _ _ _ (gri hf) hI ⟨.int, rfl, rfl⟩ dX0_onShips_11
theorem dX0_weightByStacks_0 : decode cX0_weightByStacks 0 = .ok (.iconst 0, 1) := by decide +kernel
theorem dX0_weightByStacks_1 : decode cX0_weightByStacks 1 = .ok (.istore_n 2, 1) := by decide +kernel
theorem dX0_weightByStacks_2 : decode cX0_weightByStacks 2 = .ok (.iconst 0, 1) := by decide +kernel
theorem dX0_weightByStacks_3 : decode cX0_weightByStacks 3 = .ok (.istore_n 3, 1) := by decide +kernel
theorem dX0_weightByStacks_4 : decode cX0_weightByStacks 4 = .ok (.iload_n 3, 1) := by decide +kernel
theorem dX0_weightByStacks_5 : decode cX0_weightByStacks 5 = .ok (.iconst 4, 1) := by decide +kernel
theorem dX0_weightByStacks_6 : decode cX0_weightByStacks 6 = .ok (.if_icmp .ge 46, 3) := by decide +kernel
theorem dX0_weightByStacks_9 : decode cX0_weightByStacks 9 = .ok (.iload_n 1, 1) := by decide +kernel
theorem dX0_weightByStacks_10 : decode cX0_weightByStacks 10 = .ok (.iload_n 3, 1) := by decide +kernel
theorem dX0_weightByStacks_11 : decode cX0_weightByStacks 11 = .ok (.invokestatic 76, 3) := by decide +kernel
theorem dX0_weightByStacks_14 : decode cX0_weightByStacks 14 = .ok (.istore 4, 2) := by decide +kernel
theorem dX0_weightByStacks_16 : decode cX0_weightByStacks 16 = .ok (.iconst 0, 1) := by decide +kernel
theorem dX0_weightByStacks_17 : decode cX0_weightByStacks 17 = .ok (.istore 5, 2) := by decide +kernel
theorem dX0_weightByStacks_19 : decode cX0_weightByStacks 19 = .ok (.iload 5, 2) := by decide +kernel
theorem dX0_weightByStacks_21 : decode cX0_weightByStacks 21 = .ok (.iconst 5, 1) := by decide +kernel
theorem dX0_weightByStacks_22 : decode cX0_weightByStacks 22 = .ok (.if_icmp .ge 24, 3) := by decide +kernel
theorem dX0_weightByStacks_25 : decode cX0_weightByStacks 25 = .ok (.iload_n 2, 1) := by decide +kernel
theorem dX0_weightByStacks_26 : decode cX0_weightByStacks 26 = .ok (.aload_n 0, 1) := by decide +kernel
theorem dX0_weightByStacks_27 : decode cX0_weightByStacks 27 = .ok (.aload_n 0, 1) := by decide +kernel
theorem dX0_weightByStacks_28 : decode cX0_weightByStacks 28 = .ok (.iload 4, 2) := by decide +kernel
theorem dX0_weightByStacks_30 : decode cX0_weightByStacks 30 = .ok (.iload 5, 2) := by decide +kernel
theorem dX0_weightByStacks_32 : decode cX0_weightByStacks 32 = .ok (.invokevirtual 72, 3) := by decide +kernel
theorem dX0_weightByStacks_35 : decode cX0_weightByStacks 35 = .ok (.invokevirtual 63, 3) := by decide +kernel
theorem dX0_weightByStacks_38 : decode cX0_weightByStacks 38 = .ok (.iadd, 1) := by decide +kernel
theorem dX0_weightByStacks_39 : decode cX0_weightByStacks 39 = .ok (.istore_n 2, 1) := by decide +kernel
theorem dX0_weightByStacks_40 : decode cX0_weightByStacks 40 = .ok (.iinc 5 1, 3) := by decide +kernel
theorem dX0_weightByStacks_43 : decode cX0_weightByStacks 43 = .ok (.goto (-24), 3) := by decide +kernel
theorem dX0_weightByStacks_46 : decode cX0_weightByStacks 46 = .ok (.iinc 3 1, 3) := by decide +kernel
theorem dX0_weightByStacks_49 : decode cX0_weightByStacks 49 = .ok (.goto (-45), 3) := by decide +kernel
theorem dX0_weightByStacks_52 : decode cX0_weightByStacks 52 = .ok (.iload_n 2, 1) := by decide +kernel
theorem dX0_weightByStacks_53 : decode cX0_weightByStacks 53 = .ok (.ireturn, 1) := by decide +kernel
set_option maxRecDepth 100000 in
set_option maxHeartbeats 4000000 in
theorem C_X0_weightByStacks (l : Launch) (E : gE) (x : gX) {o : Nat} (ho : gOk o) {v1 : Int32} {M : gM} {r : Int32} (hf : f_X0_weightByStacks o v1 M = some r) : gM0 l E yX0_weightByStacks (.code yX0_weightByStacks cX0_weightByStacks 6 (some .int)) (gR 2 42) M x [.ref (E.2.1 (o + 1)), .int v1] (some (.int r)) M := by
  refine gMet (by decide +kernel) (Nat.le_of_ble_eq_true rfl) ?_
  intro p e s m args below meth c H locs ls Q hC hl hI kr kv
  replace hC : gC p s m args c cX0_weightByStacks 6 RX0 E := hC
  replace hl : lv_has ls 6 [(0, .ref (E.2.1 (o + 1))), (1, .int v1)] := hl
  have hx := hC.1
  have hb := hC.2.1
  have L19 : ∀ (v4 : Int32) (v3 : Int32) (v1 : Int32) (n : Nat) (v5 : Int32) (v2 : Int32) (q : Int32 × Int32), f_X0_weightByStacks_L19 o M v4 v3 v1 n v5 v2 = some q → ∀ (H : Heap) (locs : List Loc) (ls : Array Slot), gI E s M x H locs → lv_has ls 6 [(5, .int v5), (4, .int v4), (3, .int v3), (2, .int v2), (0, .ref (E.2.1 (o + 1))), (1, .int v1)] → (∀ (H : Heap) (locs : List Loc) (ls : Array Slot), gI E s M x H locs → lv_has ls 6 [(5, .int q.1), (4, .int v4), (3, .int v3), (2, .int q.2), (0, .ref (E.2.1 (o + 1))), (1, .int v1)] → W p l e (gR 2 42) s m args below meth c H locs 0 0 Q (F0 m 46 ls [])) → W p l e (gR 2 42) s m args below meth c H locs 0 0 Q (F0 m 19 ls []) := by
    intro v4 v3 v1 n
    induction n with
    | zero => intro v5 v2 q hf; rw [f_X0_weightByStacks_L19] at hf; cases hf
    | succ n ih =>
      intro v5 v2 q hf H locs ls hI hl hk
      rw [f_X0_weightByStacks_L19] at hf
      refine lv_iload hx hb dX0_weightByStacks_19 (lv_at hl 0 rfl) ?_
      refine lv_iconst (v := 5) hx hb dX0_weightByStacks_21 (by decide) ?_
      refine lv_icmp_ge (tgt := 46) hx hb dX0_weightByStacks_22 rfl (fun h4 => ?_) (fun h4 => ?_)
      · replace hf := gif h4 hf
        obtain rfl := Option.some.inj hf
        exact hk _ _ _ hI (lv_sub hl [0, 1, 2, 3, 4, 5] rfl)
      · replace hf := gifn h4 hf
        refine lv_iload_n hx hb dX0_weightByStacks_25 rfl (lv_at hl 3 rfl) ?_
        refine lv_aload_n hx hb dX0_weightByStacks_26 rfl (lv_at hl 4 rfl) ?_
        refine lv_aload_n hx hb dX0_weightByStacks_27 rfl (lv_at hl 4 rfl) ?_
        refine lv_iload hx hb dX0_weightByStacks_28 (lv_at hl 1 rfl) ?_
        refine lv_iload hx hb dX0_weightByStacks_30 (lv_at hl 0 rfl) ?_
        obtain ⟨r5, hr6, hf⟩ := gbind hf
        have hr6 := C_X0_rowAt l E x ho hr6
        refine g_callVi (rest := [.ref (E.2.1 (o + 1)), .int v2]) hC hI hr6 Y_X0_rowAt V_X0_rowAt w366 (rcv_X0 hC hI ho) ⟨rfl, rfl⟩ ⟨Nat.le_of_ble_eq_true rfl, Nat.le_of_ble_eq_true rfl⟩ rfl hl.1 rfl (Nat.le_of_ble_eq_true rfl) dX0_weightByStacks_32 ⟨Nat.zero_le _, Nat.zero_le _⟩ (fun H locs hI => ?_)
        obtain ⟨r7, hr8, hf⟩ := gbind hf
        have hr8 := C_X0_weight l E x ho hr8
        refine g_callVi (rest := [.int v2]) hC hI hr8 Y_X0_weight V_X0_weight w307 (rcv_X0 hC hI ho) ⟨rfl, rfl⟩ ⟨Nat.le_of_ble_eq_true rfl, Nat.le_of_ble_eq_true rfl⟩ rfl hl.1 rfl (Nat.le_of_ble_eq_true rfl) dX0_weightByStacks_35 ⟨Nat.zero_le _, Nat.zero_le _⟩ (fun H locs hI => ?_)
        refine lv_iadd hx hb dX0_weightByStacks_38 ?_
        obtain ⟨z9, ez9, hf⟩ := glet hf
        refine g_top ez9 ?_
        refine lv_istore_n (lv' := [(2, .int z9), (5, .int v5), (4, .int v4), (3, .int v3), (0, .ref (E.2.1 (o + 1))), (1, .int v1)]) hx hb dX0_weightByStacks_39 rfl hl (by decide) rfl (fun ls hl => ?_)
        refine lv_iinc (k := 1) (v := v5 + 1) (lv' := [(5, .int (v5 + 1)), (2, .int z9), (4, .int v4), (3, .int v3), (0, .ref (E.2.1 (o + 1))), (1, .int v1)]) hx hb dX0_weightByStacks_40 hl rfl rfl (by decide) rfl (fun ls hl => ?_)
        refine lv_goto (tgt := 19) hx hb dX0_weightByStacks_43 rfl ?_
        exact ih (v5 + 1) z9 _ hf _ _ _ hI (lv_sub hl [0, 2, 3, 1, 4, 5] rfl) hk
  have L4 : ∀ (v1 : Int32) (n : Nat) (v3 : Int32) (v2 : Int32), f_X0_weightByStacks_L4 o M v1 n v3 v2 = some r → ∀ (H : Heap) (locs : List Loc) (ls : Array Slot), gI E s M x H locs → lv_has ls 6 [(3, .int v3), (2, .int v2), (0, .ref (E.2.1 (o + 1))), (1, .int v1)] → W p l e (gR 2 42) s m args below meth c H locs 0 0 Q (F0 m 4 ls []) := by
    intro v1 n
    induction n with
    | zero => intro v3 v2 hf; rw [f_X0_weightByStacks_L4] at hf; cases hf
    | succ n ih =>
      intro v3 v2 hf H locs ls hI hl
      rw [f_X0_weightByStacks_L4] at hf
      refine lv_iload_n hx hb dX0_weightByStacks_4 rfl (lv_at hl 0 rfl) ?_
      refine lv_iconst (v := 4) hx hb dX0_weightByStacks_5 (by decide) ?_
      refine lv_icmp_ge (tgt := 52) hx hb dX0_weightByStacks_6 rfl (fun h1 => ?_) (fun h1 => ?_)
      · replace hf := gif h1 hf
        refine lv_iload_n hx hb dX0_weightByStacks_52 rfl (lv_at hl 1 rfl) ?_
        exact kr _ _ _ _ _ _ (gri hf) hI ⟨.int, rfl, rfl⟩ dX0_weightByStacks_53
      · replace hf := gifn h1 hf
        refine lv_iload_n hx hb dX0_weightByStacks_9 rfl (lv_at hl 3 rfl) ?_
        refine lv_iload_n hx hb dX0_weightByStacks_10 rfl (lv_at hl 0 rfl) ?_
        obtain ⟨r2, hr3, hf⟩ := gbind hf
        have hr3 := C_X6_pileOf l E x  hr3
        refine g_callSNi (rest := []) hC hI hr3 Y_X6_pileOf S_X6_pileOf (List.mem_of_getElem? (i := 7) rfl) ⟨rfl, rfl⟩ ⟨Nat.le_of_ble_eq_true rfl, Nat.le_of_ble_eq_true rfl⟩ rfl hl.1 rfl (Nat.le_of_ble_eq_true rfl) dX0_weightByStacks_11 ⟨Nat.zero_le _, Nat.zero_le _⟩ (fun H locs hI => ?_)
        refine lv_istore (lv' := [(4, .int r2), (3, .int v3), (2, .int v2), (0, .ref (E.2.1 (o + 1))), (1, .int v1)]) hx hb dX0_weightByStacks_14 hl (by decide) rfl (fun ls hl => ?_)
        refine lv_iconst (v := 0) hx hb dX0_weightByStacks_16 (by decide) ?_
        refine lv_istore (lv' := [(5, .int 0), (4, .int r2), (3, .int v3), (2, .int v2), (0, .ref (E.2.1 (o + 1))), (1, .int v1)]) hx hb dX0_weightByStacks_17 hl (by decide) rfl (fun ls hl => ?_)
        obtain ⟨q10, hq10, hf⟩ := gbind hf
        refine L19 r2 v3 v1 gF 0 v2 q10 hq10 _ _ _ hI (lv_sub hl [0, 1, 2, 3, 4, 5] rfl) (fun H locs ls hI hl => ?_)
        try simp only at hI hl
        refine lv_iinc (k := 2) (v := v3 + 1) (lv' := [(3, .int (v3 + 1)), (5, .int q10.1), (4, .int r2), (2, .int q10.2), (0, .ref (E.2.1 (o + 1))), (1, .int v1)]) hx hb dX0_weightByStacks_46 hl rfl rfl (by decide) rfl (fun ls hl => ?_)
        refine lv_goto (tgt := 4) hx hb dX0_weightByStacks_49 rfl ?_
        exact ih (v3 + 1) q10.2 hf _ _ _ hI (lv_sub hl [0, 3, 4, 5] rfl)
  unfold f_X0_weightByStacks at hf
  refine lv_iconst (v := 0) hx hb dX0_weightByStacks_0 (by decide) ?_
  refine lv_istore_n (lv' := [(2, .int 0), (0, .ref (E.2.1 (o + 1))), (1, .int v1)]) hx hb dX0_weightByStacks_1 rfl hl (by decide) rfl (fun ls hl => ?_)
  refine lv_iconst (v := 0) hx hb dX0_weightByStacks_2 (by decide) ?_
  refine lv_istore_n (lv' := [(3, .int 0), (2, .int 0), (0, .ref (E.2.1 (o + 1))), (1, .int v1)]) hx hb dX0_weightByStacks_3 rfl hl (by decide) rfl (fun ls hl => ?_)
  exact L4 v1 gF 0 0 hf _ _ _ hI (lv_sub hl [0, 1, 2, 3] rfl)
theorem dX0_isAt_0 : decode cX0_isAt 0 = .ok (.aload_n 0, 1) := by decide +kernel
theorem dX0_isAt_1 : decode cX0_isAt 1 = .ok (.iload_n 1, 1) := by decide +kernel
theorem dX0_isAt_2 : decode cX0_isAt 2 = .ok (.invokevirtual 44, 3) := by decide +kernel
theorem dX0_isAt_5 : decode cX0_isAt 5 = .ok (.ifCond .eq 30, 3) := by decide +kernel
theorem dX0_isAt_8 : decode cX0_isAt 8 = .ok (.aload_n 0, 1) := by decide +kernel
theorem dX0_isAt_9 : decode cX0_isAt 9 = .ok (.getfield 21, 3) := by decide +kernel
theorem dX0_isAt_12 : decode cX0_isAt 12 = .ok (.iload_n 1, 1) := by decide +kernel
theorem dX0_isAt_13 : decode cX0_isAt 13 = .ok (.iaload, 1) := by decide +kernel
theorem dX0_isAt_14 : decode cX0_isAt 14 = .ok (.bipush 12, 2) := by decide +kernel
theorem dX0_isAt_16 : decode cX0_isAt 16 = .ok (.if_icmp .eq 19, 3) := by decide +kernel
theorem dX0_isAt_19 : decode cX0_isAt 19 = .ok (.aload_n 0, 1) := by decide +kernel
theorem dX0_isAt_20 : decode cX0_isAt 20 = .ok (.getfield 21, 3) := by decide +kernel
theorem dX0_isAt_23 : decode cX0_isAt 23 = .ok (.iload_n 1, 1) := by decide +kernel
theorem dX0_isAt_24 : decode cX0_isAt 24 = .ok (.iaload, 1) := by decide +kernel
theorem dX0_isAt_25 : decode cX0_isAt 25 = .ok (.iconst 4, 1) := by decide +kernel
theorem dX0_isAt_26 : decode cX0_isAt 26 = .ok (.idiv, 1) := by decide +kernel
theorem dX0_isAt_27 : decode cX0_isAt 27 = .ok (.iload_n 2, 1) := by decide +kernel
theorem dX0_isAt_28 : decode cX0_isAt 28 = .ok (.if_icmp .ne 7, 3) := by decide +kernel
theorem dX0_isAt_31 : decode cX0_isAt 31 = .ok (.iconst 1, 1) := by decide +kernel
theorem dX0_isAt_32 : decode cX0_isAt 32 = .ok (.goto 4, 3) := by decide +kernel
theorem dX0_isAt_35 : decode cX0_isAt 35 = .ok (.iconst 0, 1) := by decide +kernel
theorem dX0_isAt_36 : decode cX0_isAt 36 = .ok (.ireturn, 1) := by decide +kernel
set_option maxRecDepth 100000 in
set_option maxHeartbeats 4000000 in
theorem C_X0_isAt (l : Launch) (E : gE) (x : gX) {o : Nat} (ho : gOk o) {v1 v2 : Int32} {M : gM} {r : Bool} (hf : f_X0_isAt o v1 v2 M = some r) : gM0 l E yX0_isAt (.code yX0_isAt cX0_isAt 3 (some .boolean)) (gR 1 21) M x [.ref (E.2.1 (o + 1)), .int v1, .int v2] (some (.int (gb r))) M := by
  refine gMet (by decide +kernel) (Nat.le_of_ble_eq_true rfl) ?_
  intro p e s m args below meth c H locs ls Q hC hl hI kr kv
  replace hC : gC p s m args c cX0_isAt 3 RX0 E := hC
  replace hl : lv_has ls 3 [(0, .ref (E.2.1 (o + 1))), (1, .int v1), (2, .int v2)] := hl
  have hx := hC.1
  have hb := hC.2.1
  unfold f_X0_isAt at hf
  refine lv_aload_n hx hb dX0_isAt_0 rfl (lv_at hl 0 rfl) ?_
  refine lv_iload_n hx hb dX0_isAt_1 rfl (lv_at hl 1 rfl) ?_
  obtain ⟨r1, hr2, hf⟩ := gbind hf
  have hr2 := C_X0_hasRow l E x ho hr2
  refine g_callVi (rest := []) hC hI hr2 Y_X0_hasRow V_X0_hasRow w267 (rcv_X0 hC hI ho) ⟨rfl, rfl⟩ ⟨Nat.le_of_ble_eq_true rfl, Nat.le_of_ble_eq_true rfl⟩ rfl hl.1 rfl (Nat.le_of_ble_eq_true rfl) dX0_isAt_2 ⟨Nat.zero_le _, Nat.zero_le _⟩ (fun H locs hI => ?_)
  refine lv_if_eq (tgt := 35) hx hb dX0_isAt_5 rfl (fun h3 => ?_) (fun h3 => ?_)
  · replace hf := gif h3 hf
    refine lv_iconst (v := 0) hx hb dX0_isAt_35 (by decide) ?_
    exact kr _ _ _ _ _ _ (grb0 hf) hI ⟨.boolean, rfl, rfl⟩ dX0_isAt_36
  · replace hf := gifn h3 hf
    refine lv_aload_n hx hb dX0_isAt_8 rfl (lv_at hl 0 rfl) ?_
    refine gt_X0_X0_piles hC hI ho dX0_isAt_9 ?_
    refine lv_iload_n hx hb dX0_isAt_12 rfl (lv_at hl 1 rfl) ?_
    obtain ⟨h4, hf⟩ := gifN hf
    refine g_iald hC hI (k := v1.toNatClampNeg) (gIA_5 ho) h4 rfl dX0_isAt_13 ?_
    refine lv_bipush (v := 12) hx hb dX0_isAt_14 (by decide) ?_
    refine lv_icmp_eq (tgt := 35) hx hb dX0_isAt_16 rfl (fun h5 => ?_) (fun h5 => ?_)
    · replace hf := gif h5 hf
      refine lv_iconst (v := 0) hx hb dX0_isAt_35 (by decide) ?_
      exact kr _ _ _ _ _ _ (grb0 hf) hI ⟨.boolean, rfl, rfl⟩ dX0_isAt_36
    · replace hf := gifn h5 hf
      refine lv_aload_n hx hb dX0_isAt_19 rfl (lv_at hl 0 rfl) ?_
      refine gt_X0_X0_piles hC hI ho dX0_isAt_20 ?_
      refine lv_iload_n hx hb dX0_isAt_23 rfl (lv_at hl 1 rfl) ?_
      obtain ⟨h6, hf⟩ := gifN hf
      refine g_iald hC hI (k := v1.toNatClampNeg) (gIA_5 ho) h6 rfl dX0_isAt_24 ?_
      refine lv_iconst (v := 4) hx hb dX0_isAt_25 (by decide) ?_
      refine lv_idiv hx hb dX0_isAt_26 (by decide) ?_
      refine lv_iload_n hx hb dX0_isAt_27 rfl (lv_at hl 2 rfl) ?_
      refine lv_icmp_ne (tgt := 35) hx hb dX0_isAt_28 rfl (fun h7 => ?_) (fun h7 => ?_)
      · replace hf := gifn h7 hf
        refine lv_iconst (v := 0) hx hb dX0_isAt_35 (by decide) ?_
        exact kr _ _ _ _ _ _ (grb0 hf) hI ⟨.boolean, rfl, rfl⟩ dX0_isAt_36
      · replace hf := gif h7 hf
        refine lv_iconst (v := 1) hx hb dX0_isAt_31 (by decide) ?_
        refine lv_goto (tgt := 36) hx hb dX0_isAt_32 rfl ?_
        exact kr _ _ _ _ _ _ (grb1 hf) hI ⟨.boolean, rfl, rfl⟩ dX0_isAt_36
theorem dX0_weightByIds_0 : decode cX0_weightByIds 0 = .ok (.iconst 0, 1) := by decide +kernel
theorem dX0_weightByIds_1 : decode cX0_weightByIds 1 = .ok (.istore_n 2, 1) := by decide +kernel
theorem dX0_weightByIds_2 : decode cX0_weightByIds 2 = .ok (.iconst 0, 1) := by decide +kernel
theorem dX0_weightByIds_3 : decode cX0_weightByIds 3 = .ok (.istore_n 3, 1) := by decide +kernel
theorem dX0_weightByIds_4 : decode cX0_weightByIds 4 = .ok (.iload_n 3, 1) := by decide +kernel
theorem dX0_weightByIds_5 : decode cX0_weightByIds 5 = .ok (.aload_n 0, 1) := by decide +kernel
theorem dX0_weightByIds_6 : decode cX0_weightByIds 6 = .ok (.getfield 30, 3) := by decide +kernel
theorem dX0_weightByIds_9 : decode cX0_weightByIds 9 = .ok (.if_icmp .ge 26, 3) := by decide +kernel
theorem dX0_weightByIds_12 : decode cX0_weightByIds 12 = .ok (.aload_n 0, 1) := by decide +kernel
theorem dX0_weightByIds_13 : decode cX0_weightByIds 13 = .ok (.iload_n 3, 1) := by decide +kernel
theorem dX0_weightByIds_14 : decode cX0_weightByIds 14 = .ok (.iload_n 1, 1) := by decide +kernel
theorem dX0_weightByIds_15 : decode cX0_weightByIds 15 = .ok (.invokevirtual 79, 3) := by decide +kernel
theorem dX0_weightByIds_18 : decode cX0_weightByIds 18 = .ok (.ifCond .eq 11, 3) := by decide +kernel
theorem dX0_weightByIds_21 : decode cX0_weightByIds 21 = .ok (.iload_n 2, 1) := by decide +kernel
theorem dX0_weightByIds_22 : decode cX0_weightByIds 22 = .ok (.aload_n 0, 1) := by decide +kernel
theorem dX0_weightByIds_23 : decode cX0_weightByIds 23 = .ok (.iload_n 3, 1) := by decide +kernel
theorem dX0_weightByIds_24 : decode cX0_weightByIds 24 = .ok (.invokevirtual 63, 3) := by decide +kernel
theorem dX0_weightByIds_27 : decode cX0_weightByIds 27 = .ok (.iadd, 1) := by decide +kernel
theorem dX0_weightByIds_28 : decode cX0_weightByIds 28 = .ok (.istore_n 2, 1) := by decide +kernel
theorem dX0_weightByIds_29 : decode cX0_weightByIds 29 = .ok (.iinc 3 1, 3) := by decide +kernel
theorem dX0_weightByIds_32 : decode cX0_weightByIds 32 = .ok (.goto (-28), 3) := by decide +kernel
theorem dX0_weightByIds_35 : decode cX0_weightByIds 35 = .ok (.iload_n 2, 1) := by decide +kernel
theorem dX0_weightByIds_36 : decode cX0_weightByIds 36 = .ok (.ireturn, 1) := by decide +kernel
set_option maxRecDepth 100000 in
set_option maxHeartbeats 4000000 in
theorem C_X0_weightByIds (l : Launch) (E : gE) (x : gX) {o : Nat} (ho : gOk o) {v1 : Int32} {M : gM} {r : Int32} (hf : f_X0_weightByIds o v1 M = some r) : gM0 l E yX0_weightByIds (.code yX0_weightByIds cX0_weightByIds 4 (some .int)) (gR 2 43) M x [.ref (E.2.1 (o + 1)), .int v1] (some (.int r)) M := by
  refine gMet (by decide +kernel) (Nat.le_of_ble_eq_true rfl) ?_
  intro p e s m args below meth c H locs ls Q hC hl hI kr kv
  replace hC : gC p s m args c cX0_weightByIds 4 RX0 E := hC
  replace hl : lv_has ls 4 [(0, .ref (E.2.1 (o + 1))), (1, .int v1)] := hl
  have hx := hC.1
  have hb := hC.2.1
  have L4 : ∀ (v1 : Int32) (n : Nat) (v3 : Int32) (v2 : Int32), f_X0_weightByIds_L4 o M v1 n v3 v2 = some r → ∀ (H : Heap) (locs : List Loc) (ls : Array Slot), gI E s M x H locs → lv_has ls 4 [(3, .int v3), (2, .int v2), (0, .ref (E.2.1 (o + 1))), (1, .int v1)] → W p l e (gR 2 43) s m args below meth c H locs 0 0 Q (F0 m 4 ls []) := by
    intro v1 n
    induction n with
    | zero => intro v3 v2 hf; rw [f_X0_weightByIds_L4] at hf; cases hf
    | succ n ih =>
      intro v3 v2 hf H locs ls hI hl
      rw [f_X0_weightByIds_L4] at hf
      refine lv_iload_n hx hb dX0_weightByIds_4 rfl (lv_at hl 0 rfl) ?_
      refine lv_aload_n hx hb dX0_weightByIds_5 rfl (lv_at hl 2 rfl) ?_
      refine gt_X0_X0_count hC hI ho dX0_weightByIds_6 ?_
      refine lv_icmp_ge (tgt := 35) hx hb dX0_weightByIds_9 rfl (fun h1 => ?_) (fun h1 => ?_)
      · replace hf := gif h1 hf
        refine lv_iload_n hx hb dX0_weightByIds_35 rfl (lv_at hl 1 rfl) ?_
        exact kr _ _ _ _ _ _ (gri hf) hI ⟨.int, rfl, rfl⟩ dX0_weightByIds_36
      · replace hf := gifn h1 hf
        refine lv_aload_n hx hb dX0_weightByIds_12 rfl (lv_at hl 2 rfl) ?_
        refine lv_iload_n hx hb dX0_weightByIds_13 rfl (lv_at hl 0 rfl) ?_
        refine lv_iload_n hx hb dX0_weightByIds_14 rfl (lv_at hl 3 rfl) ?_
        obtain ⟨r2, hr3, hf⟩ := gbind hf
        have hr3 := C_X0_isAt l E x ho hr3
        refine g_callVi (rest := []) hC hI hr3 Y_X0_isAt V_X0_isAt w374 (rcv_X0 hC hI ho) ⟨rfl, rfl⟩ ⟨Nat.le_of_ble_eq_true rfl, Nat.le_of_ble_eq_true rfl⟩ rfl hl.1 rfl (Nat.le_of_ble_eq_true rfl) dX0_weightByIds_15 ⟨Nat.zero_le _, Nat.zero_le _⟩ (fun H locs hI => ?_)
        refine lv_if_eq (tgt := 29) hx hb dX0_weightByIds_18 rfl (fun h4 => ?_) (fun h4 => ?_)
        · replace hf := gif h4 hf
          refine lv_iinc (k := 0) (v := v3 + 1) (lv' := [(3, .int (v3 + 1)), (2, .int v2), (0, .ref (E.2.1 (o + 1))), (1, .int v1)]) hx hb dX0_weightByIds_29 hl rfl rfl (by decide) rfl (fun ls hl => ?_)
          refine lv_goto (tgt := 4) hx hb dX0_weightByIds_32 rfl ?_
          exact ih (v3 + 1) v2 hf _ _ _ hI (lv_sub hl [0, 1, 2, 3] rfl)
        · replace hf := gifn h4 hf
          refine lv_iload_n hx hb dX0_weightByIds_21 rfl (lv_at hl 1 rfl) ?_
          refine lv_aload_n hx hb dX0_weightByIds_22 rfl (lv_at hl 2 rfl) ?_
          refine lv_iload_n hx hb dX0_weightByIds_23 rfl (lv_at hl 0 rfl) ?_
          obtain ⟨r5, hr6, hf⟩ := gbind hf
          have hr6 := C_X0_weight l E x ho hr6
          refine g_callVi (rest := [.int v2]) hC hI hr6 Y_X0_weight V_X0_weight w307 (rcv_X0 hC hI ho) ⟨rfl, rfl⟩ ⟨Nat.le_of_ble_eq_true rfl, Nat.le_of_ble_eq_true rfl⟩ rfl hl.1 rfl (Nat.le_of_ble_eq_true rfl) dX0_weightByIds_24 ⟨Nat.zero_le _, Nat.zero_le _⟩ (fun H locs hI => ?_)
          refine lv_iadd hx hb dX0_weightByIds_27 ?_
          obtain ⟨z7, ez7, hf⟩ := glet hf
          refine g_top ez7 ?_
          refine lv_istore_n (lv' := [(2, .int z7), (3, .int v3), (0, .ref (E.2.1 (o + 1))), (1, .int v1)]) hx hb dX0_weightByIds_28 rfl hl (by decide) rfl (fun ls hl => ?_)
          refine lv_iinc (k := 1) (v := v3 + 1) (lv' := [(3, .int (v3 + 1)), (2, .int z7), (0, .ref (E.2.1 (o + 1))), (1, .int v1)]) hx hb dX0_weightByIds_29 hl rfl rfl (by decide) rfl (fun ls hl => ?_)
          refine lv_goto (tgt := 4) hx hb dX0_weightByIds_32 rfl ?_
          exact ih (v3 + 1) z7 hf _ _ _ hI (lv_sub hl [0, 1, 2, 3] rfl)
  unfold f_X0_weightByIds at hf
  refine lv_iconst (v := 0) hx hb dX0_weightByIds_0 (by decide) ?_
  refine lv_istore_n (lv' := [(2, .int 0), (0, .ref (E.2.1 (o + 1))), (1, .int v1)]) hx hb dX0_weightByIds_1 rfl hl (by decide) rfl (fun ls hl => ?_)
  refine lv_iconst (v := 0) hx hb dX0_weightByIds_2 (by decide) ?_
  refine lv_istore_n (lv' := [(3, .int 0), (2, .int 0), (0, .ref (E.2.1 (o + 1))), (1, .int v1)]) hx hb dX0_weightByIds_3 rfl hl (by decide) rfl (fun ls hl => ?_)
  exact L4 v1 gF 0 0 hf _ _ _ hI (lv_sub hl [0, 1, 2, 3] rfl)
theorem dX0_isAbove_0 : decode cX0_isAbove 0 = .ok (.aload_n 0, 1) := by decide +kernel
theorem dX0_isAbove_1 : decode cX0_isAbove 1 = .ok (.iload_n 1, 1) := by decide +kernel
theorem dX0_isAbove_2 : decode cX0_isAbove 2 = .ok (.invokevirtual 44, 3) := by decide +kernel
theorem dX0_isAbove_5 : decode cX0_isAbove 5 = .ok (.ifCond .eq 45, 3) := by decide +kernel
theorem dX0_isAbove_8 : decode cX0_isAbove 8 = .ok (.aload_n 0, 1) := by decide +kernel
theorem dX0_isAbove_9 : decode cX0_isAbove 9 = .ok (.iload_n 2, 1) := by decide +kernel
theorem dX0_isAbove_10 : decode cX0_isAbove 10 = .ok (.invokevirtual 44, 3) := by decide +kernel
theorem dX0_isAbove_13 : decode cX0_isAbove 13 = .ok (.ifCond .eq 37, 3) := by decide +kernel
theorem dX0_isAbove_16 : decode cX0_isAbove 16 = .ok (.aload_n 0, 1) := by decide +kernel
theorem dX0_isAbove_17 : decode cX0_isAbove 17 = .ok (.getfield 21, 3) := by decide +kernel
theorem dX0_isAbove_20 : decode cX0_isAbove 20 = .ok (.iload_n 1, 1) := by decide +kernel
theorem dX0_isAbove_21 : decode cX0_isAbove 21 = .ok (.iaload, 1) := by decide +kernel
theorem dX0_isAbove_22 : decode cX0_isAbove 22 = .ok (.aload_n 0, 1) := by decide +kernel
theorem dX0_isAbove_23 : decode cX0_isAbove 23 = .ok (.getfield 21, 3) := by decide +kernel
theorem dX0_isAbove_26 : decode cX0_isAbove 26 = .ok (.iload_n 2, 1) := by decide +kernel
theorem dX0_isAbove_27 : decode cX0_isAbove 27 = .ok (.iaload, 1) := by decide +kernel
theorem dX0_isAbove_28 : decode cX0_isAbove 28 = .ok (.if_icmp .ne 22, 3) := by decide +kernel
theorem dX0_isAbove_31 : decode cX0_isAbove 31 = .ok (.aload_n 0, 1) := by decide +kernel
theorem dX0_isAbove_32 : decode cX0_isAbove 32 = .ok (.getfield 24, 3) := by decide +kernel
theorem dX0_isAbove_35 : decode cX0_isAbove 35 = .ok (.iload_n 1, 1) := by decide +kernel
theorem dX0_isAbove_36 : decode cX0_isAbove 36 = .ok (.iaload, 1) := by decide +kernel
theorem dX0_isAbove_37 : decode cX0_isAbove 37 = .ok (.aload_n 0, 1) := by decide +kernel
theorem dX0_isAbove_38 : decode cX0_isAbove 38 = .ok (.getfield 24, 3) := by decide +kernel
theorem dX0_isAbove_41 : decode cX0_isAbove 41 = .ok (.iload_n 2, 1) := by decide +kernel
theorem dX0_isAbove_42 : decode cX0_isAbove 42 = .ok (.iaload, 1) := by decide +kernel
theorem dX0_isAbove_43 : decode cX0_isAbove 43 = .ok (.if_icmp .le 7, 3) := by decide +kernel
theorem dX0_isAbove_46 : decode cX0_isAbove 46 = .ok (.iconst 1, 1) := by decide +kernel
theorem dX0_isAbove_47 : decode cX0_isAbove 47 = .ok (.goto 4, 3) := by decide +kernel
theorem dX0_isAbove_50 : decode cX0_isAbove 50 = .ok (.iconst 0, 1) := by decide +kernel
theorem dX0_isAbove_51 : decode cX0_isAbove 51 = .ok (.ireturn, 1) := by decide +kernel
set_option maxRecDepth 100000 in
set_option maxHeartbeats 4000000 in
theorem C_X0_isAbove (l : Launch) (E : gE) (x : gX) {o : Nat} (ho : gOk o) {v1 v2 : Int32} {M : gM} {r : Bool} (hf : f_X0_isAbove o v1 v2 M = some r) : gM0 l E yX0_isAbove (.code yX0_isAbove cX0_isAbove 3 (some .boolean)) (gR 1 21) M x [.ref (E.2.1 (o + 1)), .int v1, .int v2] (some (.int (gb r))) M := by
  refine gMet (by decide +kernel) (Nat.le_of_ble_eq_true rfl) ?_
  intro p e s m args below meth c H locs ls Q hC hl hI kr kv
  replace hC : gC p s m args c cX0_isAbove 3 RX0 E := hC
  replace hl : lv_has ls 3 [(0, .ref (E.2.1 (o + 1))), (1, .int v1), (2, .int v2)] := hl
  have hx := hC.1
  have hb := hC.2.1
  unfold f_X0_isAbove at hf
  refine lv_aload_n hx hb dX0_isAbove_0 rfl (lv_at hl 0 rfl) ?_
  refine lv_iload_n hx hb dX0_isAbove_1 rfl (lv_at hl 1 rfl) ?_
  obtain ⟨r1, hr2, hf⟩ := gbind hf
  have hr2 := C_X0_hasRow l E x ho hr2
  refine g_callVi (rest := []) hC hI hr2 Y_X0_hasRow V_X0_hasRow w267 (rcv_X0 hC hI ho) ⟨rfl, rfl⟩ ⟨Nat.le_of_ble_eq_true rfl, Nat.le_of_ble_eq_true rfl⟩ rfl hl.1 rfl (Nat.le_of_ble_eq_true rfl) dX0_isAbove_2 ⟨Nat.zero_le _, Nat.zero_le _⟩ (fun H locs hI => ?_)
  refine lv_if_eq (tgt := 50) hx hb dX0_isAbove_5 rfl (fun h3 => ?_) (fun h3 => ?_)
  · replace hf := gif h3 hf
    refine lv_iconst (v := 0) hx hb dX0_isAbove_50 (by decide) ?_
    exact kr _ _ _ _ _ _ (grb0 hf) hI ⟨.boolean, rfl, rfl⟩ dX0_isAbove_51
  · replace hf := gifn h3 hf
    refine lv_aload_n hx hb dX0_isAbove_8 rfl (lv_at hl 0 rfl) ?_
    refine lv_iload_n hx hb dX0_isAbove_9 rfl (lv_at hl 2 rfl) ?_
    obtain ⟨r4, hr5, hf⟩ := gbind hf
    have hr5 := C_X0_hasRow l E x ho hr5
    refine g_callVi (rest := []) hC hI hr5 Y_X0_hasRow V_X0_hasRow w267 (rcv_X0 hC hI ho) ⟨rfl, rfl⟩ ⟨Nat.le_of_ble_eq_true rfl, Nat.le_of_ble_eq_true rfl⟩ rfl hl.1 rfl (Nat.le_of_ble_eq_true rfl) dX0_isAbove_10 ⟨Nat.zero_le _, Nat.zero_le _⟩ (fun H locs hI => ?_)
    refine lv_if_eq (tgt := 50) hx hb dX0_isAbove_13 rfl (fun h6 => ?_) (fun h6 => ?_)
    · replace hf := gif h6 hf
      refine lv_iconst (v := 0) hx hb dX0_isAbove_50 (by decide) ?_
      exact kr _ _ _ _ _ _ (grb0 hf) hI ⟨.boolean, rfl, rfl⟩ dX0_isAbove_51
    · replace hf := gifn h6 hf
      refine lv_aload_n hx hb dX0_isAbove_16 rfl (lv_at hl 0 rfl) ?_
      refine gt_X0_X0_piles hC hI ho dX0_isAbove_17 ?_
      refine lv_iload_n hx hb dX0_isAbove_20 rfl (lv_at hl 1 rfl) ?_
      obtain ⟨h7, hf⟩ := gifN hf
      refine g_iald hC hI (k := v1.toNatClampNeg) (gIA_5 ho) h7 rfl dX0_isAbove_21 ?_
      refine lv_aload_n hx hb dX0_isAbove_22 rfl (lv_at hl 0 rfl) ?_
      refine gt_X0_X0_piles hC hI ho dX0_isAbove_23 ?_
      refine lv_iload_n hx hb dX0_isAbove_26 rfl (lv_at hl 2 rfl) ?_
      obtain ⟨h8, hf⟩ := gifN hf
      refine g_iald hC hI (k := v2.toNatClampNeg) (gIA_5 ho) h8 rfl dX0_isAbove_27 ?_
      refine lv_icmp_ne (tgt := 50) hx hb dX0_isAbove_28 rfl (fun h9 => ?_) (fun h9 => ?_)
      · replace hf := gifn h9 hf
        refine lv_iconst (v := 0) hx hb dX0_isAbove_50 (by decide) ?_
        exact kr _ _ _ _ _ _ (grb0 hf) hI ⟨.boolean, rfl, rfl⟩ dX0_isAbove_51
      · replace hf := gif h9 hf
        refine lv_aload_n hx hb dX0_isAbove_31 rfl (lv_at hl 0 rfl) ?_
        refine gt_X0_X0_levels hC hI ho dX0_isAbove_32 ?_
        refine lv_iload_n hx hb dX0_isAbove_35 rfl (lv_at hl 1 rfl) ?_
        obtain ⟨h10, hf⟩ := gifN hf
        refine g_iald hC hI (k := v1.toNatClampNeg) (gIA_6 ho) h10 rfl dX0_isAbove_36 ?_
        refine lv_aload_n hx hb dX0_isAbove_37 rfl (lv_at hl 0 rfl) ?_
        refine gt_X0_X0_levels hC hI ho dX0_isAbove_38 ?_
        refine lv_iload_n hx hb dX0_isAbove_41 rfl (lv_at hl 2 rfl) ?_
        obtain ⟨h11, hf⟩ := gifN hf
        refine g_iald hC hI (k := v2.toNatClampNeg) (gIA_6 ho) h11 rfl dX0_isAbove_42 ?_
        refine lv_icmp_le (tgt := 50) hx hb dX0_isAbove_43 rfl (fun h12 => ?_) (fun h12 => ?_)
        · replace hf := gif h12 hf
          refine lv_iconst (v := 0) hx hb dX0_isAbove_50 (by decide) ?_
          exact kr _ _ _ _ _ _ (grb0 hf) hI ⟨.boolean, rfl, rfl⟩ dX0_isAbove_51
        · replace hf := gifn h12 hf
          refine lv_iconst (v := 1) hx hb dX0_isAbove_46 (by decide) ?_
          refine lv_goto (tgt := 51) hx hb dX0_isAbove_47 rfl ?_
          exact kr _ _ _ _ _ _ (grb1 hf) hI ⟨.boolean, rfl, rfl⟩ dX0_isAbove_51
theorem dX0_countAbove_0 : decode cX0_countAbove 0 = .ok (.iconst 0, 1) := by decide +kernel
theorem dX0_countAbove_1 : decode cX0_countAbove 1 = .ok (.istore_n 2, 1) := by decide +kernel
theorem dX0_countAbove_2 : decode cX0_countAbove 2 = .ok (.iconst 0, 1) := by decide +kernel
theorem dX0_countAbove_3 : decode cX0_countAbove 3 = .ok (.istore_n 3, 1) := by decide +kernel
theorem dX0_countAbove_4 : decode cX0_countAbove 4 = .ok (.iload_n 3, 1) := by decide +kernel
theorem dX0_countAbove_5 : decode cX0_countAbove 5 = .ok (.aload_n 0, 1) := by decide +kernel
theorem dX0_countAbove_6 : decode cX0_countAbove 6 = .ok (.getfield 30, 3) := by decide +kernel
theorem dX0_countAbove_9 : decode cX0_countAbove 9 = .ok (.if_icmp .ge 21, 3) := by decide +kernel
theorem dX0_countAbove_12 : decode cX0_countAbove 12 = .ok (.aload_n 0, 1) := by decide +kernel
theorem dX0_countAbove_13 : decode cX0_countAbove 13 = .ok (.iload_n 3, 1) := by decide +kernel
theorem dX0_countAbove_14 : decode cX0_countAbove 14 = .ok (.iload_n 1, 1) := by decide +kernel
theorem dX0_countAbove_15 : decode cX0_countAbove 15 = .ok (.invokevirtual 48, 3) := by decide +kernel
theorem dX0_countAbove_18 : decode cX0_countAbove 18 = .ok (.ifCond .eq 6, 3) := by decide +kernel
theorem dX0_countAbove_21 : decode cX0_countAbove 21 = .ok (.iinc 2 1, 3) := by decide +kernel
theorem dX0_countAbove_24 : decode cX0_countAbove 24 = .ok (.iinc 3 1, 3) := by decide +kernel
theorem dX0_countAbove_27 : decode cX0_countAbove 27 = .ok (.goto (-23), 3) := by decide +kernel
theorem dX0_countAbove_30 : decode cX0_countAbove 30 = .ok (.iload_n 2, 1) := by decide +kernel
theorem dX0_countAbove_31 : decode cX0_countAbove 31 = .ok (.ireturn, 1) := by decide +kernel
set_option maxRecDepth 100000 in
set_option maxHeartbeats 4000000 in
theorem C_X0_countAbove (l : Launch) (E : gE) (x : gX) {o : Nat} (ho : gOk o) {v1 : Int32} {M : gM} {r : Int32} (hf : f_X0_countAbove o v1 M = some r) : gM0 l E yX0_countAbove (.code yX0_countAbove cX0_countAbove 4 (some .int)) (gR 2 43) M x [.ref (E.2.1 (o + 1)), .int v1] (some (.int r)) M := by
  refine gMet (by decide +kernel) (Nat.le_of_ble_eq_true rfl) ?_
  intro p e s m args below meth c H locs ls Q hC hl hI kr kv
  replace hC : gC p s m args c cX0_countAbove 4 RX0 E := hC
  replace hl : lv_has ls 4 [(0, .ref (E.2.1 (o + 1))), (1, .int v1)] := hl
  have hx := hC.1
  have hb := hC.2.1
  have L4 : ∀ (v1 : Int32) (n : Nat) (v3 : Int32) (v2 : Int32), f_X0_countAbove_L4 o M v1 n v3 v2 = some r → ∀ (H : Heap) (locs : List Loc) (ls : Array Slot), gI E s M x H locs → lv_has ls 4 [(3, .int v3), (2, .int v2), (0, .ref (E.2.1 (o + 1))), (1, .int v1)] → W p l e (gR 2 43) s m args below meth c H locs 0 0 Q (F0 m 4 ls []) := by
    intro v1 n
    induction n with
    | zero => intro v3 v2 hf; rw [f_X0_countAbove_L4] at hf; cases hf
    | succ n ih =>
      intro v3 v2 hf H locs ls hI hl
      rw [f_X0_countAbove_L4] at hf
      refine lv_iload_n hx hb dX0_countAbove_4 rfl (lv_at hl 0 rfl) ?_
      refine lv_aload_n hx hb dX0_countAbove_5 rfl (lv_at hl 2 rfl) ?_
      refine gt_X0_X0_count hC hI ho dX0_countAbove_6 ?_
      refine lv_icmp_ge (tgt := 30) hx hb dX0_countAbove_9 rfl (fun h1 => ?_) (fun h1 => ?_)
      · replace hf := gif h1 hf
        refine lv_iload_n hx hb dX0_countAbove_30 rfl (lv_at hl 1 rfl) ?_
        exact kr _ _ _ _ _ _ (gri hf) hI ⟨.int, rfl, rfl⟩ dX0_countAbove_31
      · replace hf := gifn h1 hf
        refine lv_aload_n hx hb dX0_countAbove_12 rfl (lv_at hl 2 rfl) ?_
        refine lv_iload_n hx hb dX0_countAbove_13 rfl (lv_at hl 0 rfl) ?_
        refine lv_iload_n hx hb dX0_countAbove_14 rfl (lv_at hl 3 rfl) ?_
        obtain ⟨r2, hr3, hf⟩ := gbind hf
        have hr3 := C_X0_isAbove l E x ho hr3
        refine g_callVi (rest := []) hC hI hr3 Y_X0_isAbove V_X0_isAbove w400 (rcv_X0 hC hI ho) ⟨rfl, rfl⟩ ⟨Nat.le_of_ble_eq_true rfl, Nat.le_of_ble_eq_true rfl⟩ rfl hl.1 rfl (Nat.le_of_ble_eq_true rfl) dX0_countAbove_15 ⟨Nat.zero_le _, Nat.zero_le _⟩ (fun H locs hI => ?_)
        refine lv_if_eq (tgt := 24) hx hb dX0_countAbove_18 rfl (fun h4 => ?_) (fun h4 => ?_)
        · replace hf := gif h4 hf
          refine lv_iinc (k := 0) (v := v3 + 1) (lv' := [(3, .int (v3 + 1)), (2, .int v2), (0, .ref (E.2.1 (o + 1))), (1, .int v1)]) hx hb dX0_countAbove_24 hl rfl rfl (by decide) rfl (fun ls hl => ?_)
          refine lv_goto (tgt := 4) hx hb dX0_countAbove_27 rfl ?_
          exact ih (v3 + 1) v2 hf _ _ _ hI (lv_sub hl [0, 1, 2, 3] rfl)
        · replace hf := gifn h4 hf
          refine lv_iinc (k := 1) (v := v2 + 1) (lv' := [(2, .int (v2 + 1)), (3, .int v3), (0, .ref (E.2.1 (o + 1))), (1, .int v1)]) hx hb dX0_countAbove_21 hl rfl rfl (by decide) rfl (fun ls hl => ?_)
          refine lv_iinc (k := 1) (v := v3 + 1) (lv' := [(3, .int (v3 + 1)), (2, .int (v2 + 1)), (0, .ref (E.2.1 (o + 1))), (1, .int v1)]) hx hb dX0_countAbove_24 hl rfl rfl (by decide) rfl (fun ls hl => ?_)
          refine lv_goto (tgt := 4) hx hb dX0_countAbove_27 rfl ?_
          exact ih (v3 + 1) (v2 + 1) hf _ _ _ hI (lv_sub hl [0, 1, 2, 3] rfl)
  unfold f_X0_countAbove at hf
  refine lv_iconst (v := 0) hx hb dX0_countAbove_0 (by decide) ?_
  refine lv_istore_n (lv' := [(2, .int 0), (0, .ref (E.2.1 (o + 1))), (1, .int v1)]) hx hb dX0_countAbove_1 rfl hl (by decide) rfl (fun ls hl => ?_)
  refine lv_iconst (v := 0) hx hb dX0_countAbove_2 (by decide) ?_
  refine lv_istore_n (lv' := [(3, .int 0), (2, .int 0), (0, .ref (E.2.1 (o + 1))), (1, .int v1)]) hx hb dX0_countAbove_3 rfl hl (by decide) rfl (fun ls hl => ?_)
  exact L4 v1 gF 0 0 hf _ _ _ hI (lv_sub hl [0, 1, 2, 3] rfl)
theorem dX0_id_0 : decode cX0_id 0 = .ok (.aload_n 0, 1) := by decide +kernel
theorem dX0_id_1 : decode cX0_id 1 = .ok (.iload_n 1, 1) := by decide +kernel
theorem dX0_id_2 : decode cX0_id 2 = .ok (.invokevirtual 44, 3) := by decide +kernel
theorem dX0_id_5 : decode cX0_id 5 = .ok (.ifCond .eq 12, 3) := by decide +kernel
theorem dX0_id_8 : decode cX0_id 8 = .ok (.aload_n 0, 1) := by decide +kernel
theorem dX0_id_9 : decode cX0_id 9 = .ok (.getfield 9, 3) := by decide +kernel
theorem dX0_id_12 : decode cX0_id 12 = .ok (.iload_n 1, 1) := by decide +kernel
theorem dX0_id_13 : decode cX0_id 13 = .ok (.iaload, 1) := by decide +kernel
theorem dX0_id_14 : decode cX0_id 14 = .ok (.goto 4, 3) := by decide +kernel
theorem dX0_id_17 : decode cX0_id 17 = .ok (.iconst (-1), 1) := by decide +kernel
theorem dX0_id_18 : decode cX0_id 18 = .ok (.ireturn, 1) := by decide +kernel
set_option maxRecDepth 100000 in
set_option maxHeartbeats 4000000 in
theorem C_X0_id (l : Launch) (E : gE) (x : gX) {o : Nat} (ho : gOk o) {v1 : Int32} {M : gM} {r : Int32} (hf : f_X0_id o v1 M = some r) : gM0 l E yX0_id (.code yX0_id cX0_id 2 (some .int)) (gR 1 21) M x [.ref (E.2.1 (o + 1)), .int v1] (some (.int r)) M := by
  refine gMet (by decide +kernel) (Nat.le_of_ble_eq_true rfl) ?_
  intro p e s m args below meth c H locs ls Q hC hl hI kr kv
  replace hC : gC p s m args c cX0_id 2 RX0 E := hC
  replace hl : lv_has ls 2 [(0, .ref (E.2.1 (o + 1))), (1, .int v1)] := hl
  have hx := hC.1
  have hb := hC.2.1
  unfold f_X0_id at hf
  refine lv_aload_n hx hb dX0_id_0 rfl (lv_at hl 0 rfl) ?_
  refine lv_iload_n hx hb dX0_id_1 rfl (lv_at hl 1 rfl) ?_
  obtain ⟨r1, hr2, hf⟩ := gbind hf
  have hr2 := C_X0_hasRow l E x ho hr2
  refine g_callVi (rest := []) hC hI hr2 Y_X0_hasRow V_X0_hasRow w267 (rcv_X0 hC hI ho) ⟨rfl, rfl⟩ ⟨Nat.le_of_ble_eq_true rfl, Nat.le_of_ble_eq_true rfl⟩ rfl hl.1 rfl (Nat.le_of_ble_eq_true rfl) dX0_id_2 ⟨Nat.zero_le _, Nat.zero_le _⟩ (fun H locs hI => ?_)
  refine lv_if_eq (tgt := 17) hx hb dX0_id_5 rfl (fun h3 => ?_) (fun h3 => ?_)
  · replace hf := gif h3 hf
    refine lv_iconst (v := (-1)) hx hb dX0_id_17 (by decide) ?_
    exact kr _ _ _ _ _ _ (gri hf) hI ⟨.int, rfl, rfl⟩ dX0_id_18
  · replace hf := gifn h3 hf
    refine lv_aload_n hx hb dX0_id_8 rfl (lv_at hl 0 rfl) ?_
    refine gt_X0_X0_ids hC hI ho dX0_id_9 ?_
    refine lv_iload_n hx hb dX0_id_12 rfl (lv_at hl 1 rfl) ?_
    obtain ⟨h4, hf⟩ := gifN hf
    refine g_iald hC hI (k := v1.toNatClampNeg) (gIA_2 ho) h4 rfl dX0_id_13 ?_
    refine lv_goto (tgt := 18) hx hb dX0_id_14 rfl ?_
    exact kr _ _ _ _ _ _ (gri hf) hI ⟨.int, rfl, rfl⟩ dX0_id_18
theorem dX0_copyStack_0 : decode cX0_copyStack 0 = .ok (.aload_n 0, 1) := by decide +kernel
theorem dX0_copyStack_1 : decode cX0_copyStack 1 = .ok (.iload_n 1, 1) := by decide +kernel
theorem dX0_copyStack_2 : decode cX0_copyStack 2 = .ok (.invokevirtual 40, 3) := by decide +kernel
theorem dX0_copyStack_5 : decode cX0_copyStack 5 = .ok (.istore_n 2, 1) := by decide +kernel
theorem dX0_copyStack_6 : decode cX0_copyStack 6 = .ok (.iconst 0, 1) := by decide +kernel
theorem dX0_copyStack_7 : decode cX0_copyStack 7 = .ok (.istore_n 3, 1) := by decide +kernel
theorem dX0_copyStack_8 : decode cX0_copyStack 8 = .ok (.iload_n 3, 1) := by decide +kernel
theorem dX0_copyStack_9 : decode cX0_copyStack 9 = .ok (.iload_n 2, 1) := by decide +kernel
theorem dX0_copyStack_10 : decode cX0_copyStack 10 = .ok (.if_icmp .ge 30, 3) := by decide +kernel
theorem dX0_copyStack_13 : decode cX0_copyStack 13 = .ok (.iload_n 3, 1) := by decide +kernel
theorem dX0_copyStack_14 : decode cX0_copyStack 14 = .ok (.iconst 5, 1) := by decide +kernel
theorem dX0_copyStack_15 : decode cX0_copyStack 15 = .ok (.if_icmp .ge 25, 3) := by decide +kernel
theorem dX0_copyStack_18 : decode cX0_copyStack 18 = .ok (.aload_n 0, 1) := by decide +kernel
theorem dX0_copyStack_19 : decode cX0_copyStack 19 = .ok (.getfield 27, 3) := by decide +kernel
theorem dX0_copyStack_22 : decode cX0_copyStack 22 = .ok (.iload_n 3, 1) := by decide +kernel
theorem dX0_copyStack_23 : decode cX0_copyStack 23 = .ok (.aload_n 0, 1) := by decide +kernel
theorem dX0_copyStack_24 : decode cX0_copyStack 24 = .ok (.aload_n 0, 1) := by decide +kernel
theorem dX0_copyStack_25 : decode cX0_copyStack 25 = .ok (.iload_n 1, 1) := by decide +kernel
theorem dX0_copyStack_26 : decode cX0_copyStack 26 = .ok (.iload_n 3, 1) := by decide +kernel
theorem dX0_copyStack_27 : decode cX0_copyStack 27 = .ok (.invokevirtual 72, 3) := by decide +kernel
theorem dX0_copyStack_30 : decode cX0_copyStack 30 = .ok (.invokevirtual 85, 3) := by decide +kernel
theorem dX0_copyStack_33 : decode cX0_copyStack 33 = .ok (.iastore, 1) := by decide +kernel
theorem dX0_copyStack_34 : decode cX0_copyStack 34 = .ok (.iinc 3 1, 3) := by decide +kernel
theorem dX0_copyStack_37 : decode cX0_copyStack 37 = .ok (.goto (-29), 3) := by decide +kernel
theorem dX0_copyStack_40 : decode cX0_copyStack 40 = .ok (.iload_n 2, 1) := by decide +kernel
theorem dX0_copyStack_41 : decode cX0_copyStack 41 = .ok (.ireturn, 1) := by decide +kernel
set_option maxRecDepth 100000 in
set_option maxHeartbeats 4000000 in
theorem C_X0_copyStack (l : Launch) (E : gE) (x : gX) {o : Nat} (ho : gOk o) {v1 : Int32} {M : gM} {r : Int32} {M' : gM} (hf : f_X0_copyStack o v1 M = some (r, M')) : gM0 l E yX0_copyStack (.code yX0_copyStack cX0_copyStack 4 (some .int)) (gR 2 42) M x [.ref (E.2.1 (o + 1)), .int v1] (some (.int r)) M' := by
  refine gMet (by decide +kernel) (Nat.le_of_ble_eq_true rfl) ?_
  intro p e s m args below meth c H locs ls Q hC hl hI kr kv
  replace hC : gC p s m args c cX0_copyStack 4 RX0 E := hC
  replace hl : lv_has ls 4 [(0, .ref (E.2.1 (o + 1))), (1, .int v1)] := hl
  have hx := hC.1
  have hb := hC.2.1
  have L8 : ∀ (v2 : Int32) (v1 : Int32) (n : Nat) (v3 : Int32) (M : gM), f_X0_copyStack_L8 o v2 v1 n v3 M = some (r, M') → ∀ (H : Heap) (locs : List Loc) (ls : Array Slot), gI E s M x H locs → lv_has ls 4 [(3, .int v3), (2, .int v2), (0, .ref (E.2.1 (o + 1))), (1, .int v1)] → W p l e (gR 2 42) s m args below meth c H locs 0 0 Q (F0 m 8 ls []) := by
    intro v2 v1 n
    induction n with
    | zero => intro v3 M hf; rw [f_X0_copyStack_L8] at hf; cases hf
    | succ n ih =>
      intro v3 M hf H locs ls hI hl
      rw [f_X0_copyStack_L8] at hf
      refine lv_iload_n hx hb dX0_copyStack_8 rfl (lv_at hl 0 rfl) ?_
      refine lv_iload_n hx hb dX0_copyStack_9 rfl (lv_at hl 1 rfl) ?_
      refine lv_icmp_ge (tgt := 40) hx hb dX0_copyStack_10 rfl (fun h3 => ?_) (fun h3 => ?_)
      · replace hf := gif h3 hf
        refine lv_iload_n hx hb dX0_copyStack_40 rfl (lv_at hl 1 rfl) ?_
        exact kr _ _ _ _ _ _ (grw hf) hI ⟨.int, rfl, rfl⟩ dX0_copyStack_41
      · replace hf := gifn h3 hf
        refine lv_iload_n hx hb dX0_copyStack_13 rfl (lv_at hl 0 rfl) ?_
        refine lv_iconst (v := 5) hx hb dX0_copyStack_14 (by decide) ?_
        refine lv_icmp_ge (tgt := 40) hx hb dX0_copyStack_15 rfl (fun h4 => ?_) (fun h4 => ?_)
        · replace hf := gif h4 hf
          refine lv_iload_n hx hb dX0_copyStack_40 rfl (lv_at hl 1 rfl) ?_
          exact kr _ _ _ _ _ _ (grw hf) hI ⟨.int, rfl, rfl⟩ dX0_copyStack_41
        · replace hf := gifn h4 hf
          refine lv_aload_n hx hb dX0_copyStack_18 rfl (lv_at hl 2 rfl) ?_
          refine gt_X0_X0_copiedStack hC hI ho dX0_copyStack_19 ?_
          refine lv_iload_n hx hb dX0_copyStack_22 rfl (lv_at hl 0 rfl) ?_
          refine lv_aload_n hx hb dX0_copyStack_23 rfl (lv_at hl 2 rfl) ?_
          refine lv_aload_n hx hb dX0_copyStack_24 rfl (lv_at hl 2 rfl) ?_
          refine lv_iload_n hx hb dX0_copyStack_25 rfl (lv_at hl 3 rfl) ?_
          refine lv_iload_n hx hb dX0_copyStack_26 rfl (lv_at hl 0 rfl) ?_
          obtain ⟨r5, hr6, hf⟩ := gbind hf
          have hr6 := C_X0_rowAt l E x ho hr6
          refine g_callVi (rest := [.ref (E.2.1 (o + 1)), .int v3, .ref (E.2.1 (o + 7))]) hC hI hr6 Y_X0_rowAt V_X0_rowAt w366 (rcv_X0 hC hI ho) ⟨rfl, rfl⟩ ⟨Nat.le_of_ble_eq_true rfl, Nat.le_of_ble_eq_true rfl⟩ rfl hl.1 rfl (Nat.le_of_ble_eq_true rfl) dX0_copyStack_27 ⟨Nat.zero_le _, Nat.zero_le _⟩ (fun H locs hI => ?_)
          obtain ⟨r7, hr8, hf⟩ := gbind hf
          have hr8 := C_X0_id l E x ho hr8
          refine g_callVi (rest := [.int v3, .ref (E.2.1 (o + 7))]) hC hI hr8 Y_X0_id V_X0_id w413 (rcv_X0 hC hI ho) ⟨rfl, rfl⟩ ⟨Nat.le_of_ble_eq_true rfl, Nat.le_of_ble_eq_true rfl⟩ rfl hl.1 rfl (Nat.le_of_ble_eq_true rfl) dX0_copyStack_30 ⟨Nat.zero_le _, Nat.zero_le _⟩ (fun H locs hI => ?_)
          obtain ⟨h9, hf⟩ := gifN hf
          obtain ⟨M10, eM10, hf⟩ := glet hf
          refine g_iast hC hI (k := v3.toNatClampNeg) (gIA_7 ho) h9 rfl dX0_copyStack_33 (fun H locs hI => ?_)
          replace hI := g_mem eM10 hI
          refine lv_iinc (k := 0) (v := v3 + 1) (lv' := [(3, .int (v3 + 1)), (2, .int v2), (0, .ref (E.2.1 (o + 1))), (1, .int v1)]) hx hb dX0_copyStack_34 hl rfl rfl (by decide) rfl (fun ls hl => ?_)
          refine lv_goto (tgt := 8) hx hb dX0_copyStack_37 rfl ?_
          exact ih (v3 + 1) M10 hf _ _ _ hI (lv_sub hl [0, 1, 2, 3] rfl)
  unfold f_X0_copyStack at hf
  refine lv_aload_n hx hb dX0_copyStack_0 rfl (lv_at hl 0 rfl) ?_
  refine lv_iload_n hx hb dX0_copyStack_1 rfl (lv_at hl 1 rfl) ?_
  obtain ⟨r1, hr2, hf⟩ := gbind hf
  have hr2 := C_X0_height l E x ho hr2
  refine g_callVi (rest := []) hC hI hr2 Y_X0_height V_X0_height w412 (rcv_X0 hC hI ho) ⟨rfl, rfl⟩ ⟨Nat.le_of_ble_eq_true rfl, Nat.le_of_ble_eq_true rfl⟩ rfl hl.1 rfl (Nat.le_of_ble_eq_true rfl) dX0_copyStack_2 ⟨Nat.zero_le _, Nat.zero_le _⟩ (fun H locs hI => ?_)
  refine lv_istore_n (lv' := [(2, .int r1), (0, .ref (E.2.1 (o + 1))), (1, .int v1)]) hx hb dX0_copyStack_5 rfl hl (by decide) rfl (fun ls hl => ?_)
  refine lv_iconst (v := 0) hx hb dX0_copyStack_6 (by decide) ?_
  refine lv_istore_n (lv' := [(3, .int 0), (2, .int r1), (0, .ref (E.2.1 (o + 1))), (1, .int v1)]) hx hb dX0_copyStack_7 rfl hl (by decide) rfl (fun ls hl => ?_)
  exact L8 r1 v1 gF 0 M hf _ _ _ hI (lv_sub hl [0, 1, 2, 3] rfl)
theorem dX0_digOnCopy_0 : decode cX0_digOnCopy 0 = .ok (.aload_n 0, 1) := by decide +kernel
theorem dX0_digOnCopy_1 : decode cX0_digOnCopy 1 = .ok (.aload_n 0, 1) := by decide +kernel
theorem dX0_digOnCopy_2 : decode cX0_digOnCopy 2 = .ok (.iload_n 1, 1) := by decide +kernel
theorem dX0_digOnCopy_3 : decode cX0_digOnCopy 3 = .ok (.invokevirtual 69, 3) := by decide +kernel
theorem dX0_digOnCopy_6 : decode cX0_digOnCopy 6 = .ok (.invokevirtual 82, 3) := by decide +kernel
theorem dX0_digOnCopy_9 : decode cX0_digOnCopy 9 = .ok (.istore_n 2, 1) := by decide +kernel
theorem dX0_digOnCopy_10 : decode cX0_digOnCopy 10 = .ok (.iconst 0, 1) := by decide +kernel
theorem dX0_digOnCopy_11 : decode cX0_digOnCopy 11 = .ok (.istore_n 3, 1) := by decide +kernel
theorem dX0_digOnCopy_12 : decode cX0_digOnCopy 12 = .ok (.iload_n 2, 1) := by decide +kernel
theorem dX0_digOnCopy_13 : decode cX0_digOnCopy 13 = .ok (.ifCond .le 33, 3) := by decide +kernel
theorem dX0_digOnCopy_16 : decode cX0_digOnCopy 16 = .ok (.iload_n 2, 1) := by decide +kernel
theorem dX0_digOnCopy_17 : decode cX0_digOnCopy 17 = .ok (.iconst 5, 1) := by decide +kernel
theorem dX0_digOnCopy_18 : decode cX0_digOnCopy 18 = .ok (.if_icmp .gt 28, 3) := by decide +kernel
theorem dX0_digOnCopy_21 : decode cX0_digOnCopy 21 = .ok (.aload_n 0, 1) := by decide +kernel
theorem dX0_digOnCopy_22 : decode cX0_digOnCopy 22 = .ok (.getfield 27, 3) := by decide +kernel
theorem dX0_digOnCopy_25 : decode cX0_digOnCopy 25 = .ok (.iload_n 2, 1) := by decide +kernel
theorem dX0_digOnCopy_26 : decode cX0_digOnCopy 26 = .ok (.iconst 1, 1) := by decide +kernel
theorem dX0_digOnCopy_27 : decode cX0_digOnCopy 27 = .ok (.isub, 1) := by decide +kernel
theorem dX0_digOnCopy_28 : decode cX0_digOnCopy 28 = .ok (.iaload, 1) := by decide +kernel
theorem dX0_digOnCopy_29 : decode cX0_digOnCopy 29 = .ok (.aload_n 0, 1) := by decide +kernel
theorem dX0_digOnCopy_30 : decode cX0_digOnCopy 30 = .ok (.iload_n 1, 1) := by decide +kernel
theorem dX0_digOnCopy_31 : decode cX0_digOnCopy 31 = .ok (.invokevirtual 85, 3) := by decide +kernel
theorem dX0_digOnCopy_34 : decode cX0_digOnCopy 34 = .ok (.if_icmp .eq 12, 3) := by decide +kernel
theorem dX0_digOnCopy_37 : decode cX0_digOnCopy 37 = .ok (.iinc 2 (-1), 3) := by decide +kernel
theorem dX0_digOnCopy_40 : decode cX0_digOnCopy 40 = .ok (.iinc 3 1, 3) := by decide +kernel
theorem dX0_digOnCopy_43 : decode cX0_digOnCopy 43 = .ok (.goto (-31), 3) := by decide +kernel
theorem dX0_digOnCopy_46 : decode cX0_digOnCopy 46 = .ok (.iload_n 3, 1) := by decide +kernel
theorem dX0_digOnCopy_47 : decode cX0_digOnCopy 47 = .ok (.ireturn, 1) := by decide +kernel
set_option maxRecDepth 100000 in
set_option maxHeartbeats 4000000 in
theorem C_X0_digOnCopy (l : Launch) (E : gE) (x : gX) {o : Nat} (ho : gOk o) {v1 : Int32} {M : gM} {r : Int32} {M' : gM} (hf : f_X0_digOnCopy o v1 M = some (r, M')) : gM0 l E yX0_digOnCopy (.code yX0_digOnCopy cX0_digOnCopy 4 (some .int)) (gR 3 65) M x [.ref (E.2.1 (o + 1)), .int v1] (some (.int r)) M' := by
  refine gMet (by decide +kernel) (Nat.le_of_ble_eq_true rfl) ?_
  intro p e s m args below meth c H locs ls Q hC hl hI kr kv
  replace hC : gC p s m args c cX0_digOnCopy 4 RX0 E := hC
  replace hl : lv_has ls 4 [(0, .ref (E.2.1 (o + 1))), (1, .int v1)] := hl
  have hx := hC.1
  have hb := hC.2.1
  have L12 : ∀ (v1 : Int32) (n : Nat) (v3 : Int32) (v2 : Int32) (M : gM), f_X0_digOnCopy_L12 o v1 n v3 v2 M = some (r, M') → ∀ (H : Heap) (locs : List Loc) (ls : Array Slot), gI E s M x H locs → lv_has ls 4 [(3, .int v3), (2, .int v2), (0, .ref (E.2.1 (o + 1))), (1, .int v1)] → W p l e (gR 3 65) s m args below meth c H locs 0 0 Q (F0 m 12 ls []) := by
    intro v1 n
    induction n with
    | zero => intro v3 v2 M hf; rw [f_X0_digOnCopy_L12] at hf; cases hf
    | succ n ih =>
      intro v3 v2 M hf H locs ls hI hl
      rw [f_X0_digOnCopy_L12] at hf
      refine lv_iload_n hx hb dX0_digOnCopy_12 rfl (lv_at hl 1 rfl) ?_
      refine lv_if_le (tgt := 46) hx hb dX0_digOnCopy_13 rfl (fun h5 => ?_) (fun h5 => ?_)
      · replace hf := gif h5 hf
        refine lv_iload_n hx hb dX0_digOnCopy_46 rfl (lv_at hl 0 rfl) ?_
        exact kr _ _ _ _ _ _ (grw hf) hI ⟨.int, rfl, rfl⟩ dX0_digOnCopy_47
      · replace hf := gifn h5 hf
        refine lv_iload_n hx hb dX0_digOnCopy_16 rfl (lv_at hl 1 rfl) ?_
        refine lv_iconst (v := 5) hx hb dX0_digOnCopy_17 (by decide) ?_
        refine lv_icmp_gt (tgt := 46) hx hb dX0_digOnCopy_18 rfl (fun h6 => ?_) (fun h6 => ?_)
        · replace hf := gif h6 hf
          refine lv_iload_n hx hb dX0_digOnCopy_46 rfl (lv_at hl 0 rfl) ?_
          exact kr _ _ _ _ _ _ (grw hf) hI ⟨.int, rfl, rfl⟩ dX0_digOnCopy_47
        · replace hf := gifn h6 hf
          refine lv_aload_n hx hb dX0_digOnCopy_21 rfl (lv_at hl 2 rfl) ?_
          refine gt_X0_X0_copiedStack hC hI ho dX0_digOnCopy_22 ?_
          refine lv_iload_n hx hb dX0_digOnCopy_25 rfl (lv_at hl 1 rfl) ?_
          refine lv_iconst (v := 1) hx hb dX0_digOnCopy_26 (by decide) ?_
          refine lv_isub hx hb dX0_digOnCopy_27 ?_
          obtain ⟨h7, hf⟩ := gifN hf
          refine g_iald hC hI (k := (v2 - 1).toNatClampNeg) (gIA_7 ho) h7 rfl dX0_digOnCopy_28 ?_
          refine lv_aload_n hx hb dX0_digOnCopy_29 rfl (lv_at hl 2 rfl) ?_
          refine lv_iload_n hx hb dX0_digOnCopy_30 rfl (lv_at hl 3 rfl) ?_
          obtain ⟨r8, hr9, hf⟩ := gbind hf
          have hr9 := C_X0_id l E x ho hr9
          refine g_callVi (rest := [.int (M (o + 7) ((v2 - 1).toNatClampNeg))]) hC hI hr9 Y_X0_id V_X0_id w413 (rcv_X0 hC hI ho) ⟨rfl, rfl⟩ ⟨Nat.le_of_ble_eq_true rfl, Nat.le_of_ble_eq_true rfl⟩ rfl hl.1 rfl (Nat.le_of_ble_eq_true rfl) dX0_digOnCopy_31 ⟨Nat.zero_le _, Nat.zero_le _⟩ (fun H locs hI => ?_)
          refine lv_icmp_eq (tgt := 46) hx hb dX0_digOnCopy_34 rfl (fun h10 => ?_) (fun h10 => ?_)
          · replace hf := gif h10 hf
            refine lv_iload_n hx hb dX0_digOnCopy_46 rfl (lv_at hl 0 rfl) ?_
            exact kr _ _ _ _ _ _ (grw hf) hI ⟨.int, rfl, rfl⟩ dX0_digOnCopy_47
          · replace hf := gifn h10 hf
            refine lv_iinc (k := 1) (v := v2 + (-1)) (lv' := [(2, .int (v2 + (-1))), (3, .int v3), (0, .ref (E.2.1 (o + 1))), (1, .int v1)]) hx hb dX0_digOnCopy_37 hl rfl rfl (by decide) rfl (fun ls hl => ?_)
            refine lv_iinc (k := 1) (v := v3 + 1) (lv' := [(3, .int (v3 + 1)), (2, .int (v2 + (-1))), (0, .ref (E.2.1 (o + 1))), (1, .int v1)]) hx hb dX0_digOnCopy_40 hl rfl rfl (by decide) rfl (fun ls hl => ?_)
            refine lv_goto (tgt := 12) hx hb dX0_digOnCopy_43 rfl ?_
            exact ih (v3 + 1) (v2 + (-1)) M hf _ _ _ hI (lv_sub hl [0, 1, 2, 3] rfl)
  unfold f_X0_digOnCopy at hf
  refine lv_aload_n hx hb dX0_digOnCopy_0 rfl (lv_at hl 0 rfl) ?_
  refine lv_aload_n hx hb dX0_digOnCopy_1 rfl (lv_at hl 0 rfl) ?_
  refine lv_iload_n hx hb dX0_digOnCopy_2 rfl (lv_at hl 1 rfl) ?_
  obtain ⟨r1, hr2, hf⟩ := gbind hf
  have hr2 := C_X0_pile l E x ho hr2
  refine g_callVi (rest := [.ref (E.2.1 (o + 1))]) hC hI hr2 Y_X0_pile V_X0_pile w263 (rcv_X0 hC hI ho) ⟨rfl, rfl⟩ ⟨Nat.le_of_ble_eq_true rfl, Nat.le_of_ble_eq_true rfl⟩ rfl hl.1 rfl (Nat.le_of_ble_eq_true rfl) dX0_digOnCopy_3 ⟨Nat.zero_le _, Nat.zero_le _⟩ (fun H locs hI => ?_)
  obtain ⟨r3, hr4, hf⟩ := gbind hf
  have hr4 := C_X0_copyStack l E x ho hr4
  refine g_callVi (rest := []) hC hI hr4 Y_X0_copyStack V_X0_copyStack w408 (rcv_X0 hC hI ho) ⟨rfl, rfl⟩ ⟨Nat.le_of_ble_eq_true rfl, Nat.le_of_ble_eq_true rfl⟩ rfl hl.1 rfl (Nat.le_of_ble_eq_true rfl) dX0_digOnCopy_6 ⟨Nat.zero_le _, Nat.zero_le _⟩ (fun H locs hI => ?_)
  refine lv_istore_n (lv' := [(2, .int r3.1), (0, .ref (E.2.1 (o + 1))), (1, .int v1)]) hx hb dX0_digOnCopy_9 rfl hl (by decide) rfl (fun ls hl => ?_)
  refine lv_iconst (v := 0) hx hb dX0_digOnCopy_10 (by decide) ?_
  refine lv_istore_n (lv' := [(3, .int 0), (2, .int r3.1), (0, .ref (E.2.1 (o + 1))), (1, .int v1)]) hx hb dX0_digOnCopy_11 rfl hl (by decide) rfl (fun ls hl => ?_)
  exact L12 v1 gF 0 r3.1 r3.2 hf _ _ _ hI (lv_sub hl [0, 1, 2, 3] rfl)
theorem dX0_digsAgree_0 : decode cX0_digsAgree 0 = .ok (.iconst 0, 1) := by decide +kernel
theorem dX0_digsAgree_1 : decode cX0_digsAgree 1 = .ok (.istore_n 1, 1) := by decide +kernel
theorem dX0_digsAgree_2 : decode cX0_digsAgree 2 = .ok (.iload_n 1, 1) := by decide +kernel
theorem dX0_digsAgree_3 : decode cX0_digsAgree 3 = .ok (.aload_n 0, 1) := by decide +kernel
theorem dX0_digsAgree_4 : decode cX0_digsAgree 4 = .ok (.getfield 30, 3) := by decide +kernel
theorem dX0_digsAgree_7 : decode cX0_digsAgree 7 = .ok (.if_icmp .ge 34, 3) := by decide +kernel
theorem dX0_digsAgree_10 : decode cX0_digsAgree 10 = .ok (.aload_n 0, 1) := by decide +kernel
theorem dX0_digsAgree_11 : decode cX0_digsAgree 11 = .ok (.iload_n 1, 1) := by decide +kernel
theorem dX0_digsAgree_12 : decode cX0_digsAgree 12 = .ok (.invokevirtual 69, 3) := by decide +kernel
theorem dX0_digsAgree_15 : decode cX0_digsAgree 15 = .ok (.bipush 12, 2) := by decide +kernel
theorem dX0_digsAgree_17 : decode cX0_digsAgree 17 = .ok (.if_icmp .eq 18, 3) := by decide +kernel
theorem dX0_digsAgree_20 : decode cX0_digsAgree 20 = .ok (.aload_n 0, 1) := by decide +kernel
theorem dX0_digsAgree_21 : decode cX0_digsAgree 21 = .ok (.iload_n 1, 1) := by decide +kernel
theorem dX0_digsAgree_22 : decode cX0_digsAgree 22 = .ok (.invokevirtual 88, 3) := by decide +kernel
theorem dX0_digsAgree_25 : decode cX0_digsAgree 25 = .ok (.aload_n 0, 1) := by decide +kernel
theorem dX0_digsAgree_26 : decode cX0_digsAgree 26 = .ok (.iload_n 1, 1) := by decide +kernel
theorem dX0_digsAgree_27 : decode cX0_digsAgree 27 = .ok (.invokevirtual 91, 3) := by decide +kernel
theorem dX0_digsAgree_30 : decode cX0_digsAgree 30 = .ok (.if_icmp .eq 5, 3) := by decide +kernel
theorem dX0_digsAgree_33 : decode cX0_digsAgree 33 = .ok (.iconst 0, 1) := by decide +kernel
theorem dX0_digsAgree_34 : decode cX0_digsAgree 34 = .ok (.ireturn, 1) := by decide +kernel
theorem dX0_digsAgree_35 : decode cX0_digsAgree 35 = .ok (.iinc 1 1, 3) := by decide +kernel
theorem dX0_digsAgree_38 : decode cX0_digsAgree 38 = .ok (.goto (-36), 3) := by decide +kernel
theorem dX0_digsAgree_41 : decode cX0_digsAgree 41 = .ok (.iconst 1, 1) := by decide +kernel
theorem dX0_digsAgree_42 : decode cX0_digsAgree 42 = .ok (.ireturn, 1) := by decide +kernel
set_option maxRecDepth 100000 in
set_option maxHeartbeats 4000000 in
theorem C_X0_digsAgree (l : Launch) (E : gE) (x : gX) {o : Nat} (ho : gOk o) {M : gM} {r : Bool} {M' : gM} (hf : f_X0_digsAgree o M = some (r, M')) : gM0 l E yX0_digsAgree (.code yX0_digsAgree cX0_digsAgree 2 (some .boolean)) (gR 4 88) M x [.ref (E.2.1 (o + 1))] (some (.int (gb r))) M' := by
  refine gMet (by decide +kernel) (Nat.le_of_ble_eq_true rfl) ?_
  intro p e s m args below meth c H locs ls Q hC hl hI kr kv
  replace hC : gC p s m args c cX0_digsAgree 2 RX0 E := hC
  replace hl : lv_has ls 2 [(0, .ref (E.2.1 (o + 1)))] := hl
  have hx := hC.1
  have hb := hC.2.1
  have L2 : ∀ (n : Nat) (v1 : Int32) (M : gM), f_X0_digsAgree_L2 o n v1 M = some (r, M') → ∀ (H : Heap) (locs : List Loc) (ls : Array Slot), gI E s M x H locs → lv_has ls 2 [(1, .int v1), (0, .ref (E.2.1 (o + 1)))] → W p l e (gR 4 88) s m args below meth c H locs 0 0 Q (F0 m 2 ls []) := by
    intro  n
    induction n with
    | zero => intro v1 M hf; rw [f_X0_digsAgree_L2] at hf; cases hf
    | succ n ih =>
      intro v1 M hf H locs ls hI hl
      rw [f_X0_digsAgree_L2] at hf
      refine lv_iload_n hx hb dX0_digsAgree_2 rfl (lv_at hl 0 rfl) ?_
      refine lv_aload_n hx hb dX0_digsAgree_3 rfl (lv_at hl 1 rfl) ?_
      refine gt_X0_X0_count hC hI ho dX0_digsAgree_4 ?_
      refine lv_icmp_ge (tgt := 41) hx hb dX0_digsAgree_7 rfl (fun h1 => ?_) (fun h1 => ?_)
      · replace hf := gif h1 hf
        refine lv_iconst (v := 1) hx hb dX0_digsAgree_41 (by decide) ?_
        exact kr _ _ _ _ _ _ (grwb1 hf) hI ⟨.boolean, rfl, rfl⟩ dX0_digsAgree_42
      · replace hf := gifn h1 hf
        refine lv_aload_n hx hb dX0_digsAgree_10 rfl (lv_at hl 1 rfl) ?_
        refine lv_iload_n hx hb dX0_digsAgree_11 rfl (lv_at hl 0 rfl) ?_
        obtain ⟨r2, hr3, hf⟩ := gbind hf
        have hr3 := C_X0_pile l E x ho hr3
        refine g_callVi (rest := []) hC hI hr3 Y_X0_pile V_X0_pile w263 (rcv_X0 hC hI ho) ⟨rfl, rfl⟩ ⟨Nat.le_of_ble_eq_true rfl, Nat.le_of_ble_eq_true rfl⟩ rfl hl.1 rfl (Nat.le_of_ble_eq_true rfl) dX0_digsAgree_12 ⟨Nat.zero_le _, Nat.zero_le _⟩ (fun H locs hI => ?_)
        refine lv_bipush (v := 12) hx hb dX0_digsAgree_15 (by decide) ?_
        refine lv_icmp_eq (tgt := 35) hx hb dX0_digsAgree_17 rfl (fun h4 => ?_) (fun h4 => ?_)
        · replace hf := gif h4 hf
          refine lv_iinc (k := 0) (v := v1 + 1) (lv' := [(1, .int (v1 + 1)), (0, .ref (E.2.1 (o + 1)))]) hx hb dX0_digsAgree_35 hl rfl rfl (by decide) rfl (fun ls hl => ?_)
          refine lv_goto (tgt := 2) hx hb dX0_digsAgree_38 rfl ?_
          exact ih (v1 + 1) M hf _ _ _ hI (lv_sub hl [0, 1] rfl)
        · replace hf := gifn h4 hf
          refine lv_aload_n hx hb dX0_digsAgree_20 rfl (lv_at hl 1 rfl) ?_
          refine lv_iload_n hx hb dX0_digsAgree_21 rfl (lv_at hl 0 rfl) ?_
          obtain ⟨r5, hr6, hf⟩ := gbind hf
          have hr6 := C_X0_countAbove l E x ho hr6
          refine g_callVi (rest := []) hC hI hr6 Y_X0_countAbove V_X0_countAbove w396 (rcv_X0 hC hI ho) ⟨rfl, rfl⟩ ⟨Nat.le_of_ble_eq_true rfl, Nat.le_of_ble_eq_true rfl⟩ rfl hl.1 rfl (Nat.le_of_ble_eq_true rfl) dX0_digsAgree_22 ⟨Nat.zero_le _, Nat.zero_le _⟩ (fun H locs hI => ?_)
          refine lv_aload_n hx hb dX0_digsAgree_25 rfl (lv_at hl 1 rfl) ?_
          refine lv_iload_n hx hb dX0_digsAgree_26 rfl (lv_at hl 0 rfl) ?_
          obtain ⟨r7, hr8, hf⟩ := gbind hf
          have hr8 := C_X0_digOnCopy l E x ho hr8
          refine g_callVi (rest := [.int r5]) hC hI hr8 Y_X0_digOnCopy V_X0_digOnCopy w404 (rcv_X0 hC hI ho) ⟨rfl, rfl⟩ ⟨Nat.le_of_ble_eq_true rfl, Nat.le_of_ble_eq_true rfl⟩ rfl hl.1 rfl (Nat.le_of_ble_eq_true rfl) dX0_digsAgree_27 ⟨Nat.zero_le _, Nat.zero_le _⟩ (fun H locs hI => ?_)
          refine lv_icmp_eq (tgt := 35) hx hb dX0_digsAgree_30 rfl (fun h9 => ?_) (fun h9 => ?_)
          · replace hf := gif h9 hf
            refine lv_iinc (k := 0) (v := v1 + 1) (lv' := [(1, .int (v1 + 1)), (0, .ref (E.2.1 (o + 1)))]) hx hb dX0_digsAgree_35 hl rfl rfl (by decide) rfl (fun ls hl => ?_)
            refine lv_goto (tgt := 2) hx hb dX0_digsAgree_38 rfl ?_
            exact ih (v1 + 1) r7.2 hf _ _ _ hI (lv_sub hl [0, 1] rfl)
          · replace hf := gifn h9 hf
            refine lv_iconst (v := 0) hx hb dX0_digsAgree_33 (by decide) ?_
            exact kr _ _ _ _ _ _ (grwb0 hf) hI ⟨.boolean, rfl, rfl⟩ dX0_digsAgree_34
  unfold f_X0_digsAgree at hf
  refine lv_iconst (v := 0) hx hb dX0_digsAgree_0 (by decide) ?_
  refine lv_istore_n (lv' := [(1, .int 0), (0, .ref (E.2.1 (o + 1)))]) hx hb dX0_digsAgree_1 rfl hl (by decide) rfl (fun ls hl => ?_)
  exact L2 gF 0 M hf _ _ _ hI (lv_sub hl [0, 1] rfl)
theorem dX0_copyFrom_0 : decode cX0_copyFrom 0 = .ok (.aload_n 1, 1) := by decide +kernel
theorem dX0_copyFrom_1 : decode cX0_copyFrom 1 = .ok (.getfield 9, 3) := by decide +kernel
theorem dX0_copyFrom_4 : decode cX0_copyFrom 4 = .ok (.iconst 0, 1) := by decide +kernel
theorem dX0_copyFrom_5 : decode cX0_copyFrom 5 = .ok (.aload_n 0, 1) := by decide +kernel
theorem dX0_copyFrom_6 : decode cX0_copyFrom 6 = .ok (.getfield 9, 3) := by decide +kernel
theorem dX0_copyFrom_9 : decode cX0_copyFrom 9 = .ok (.iconst 0, 1) := by decide +kernel
theorem dX0_copyFrom_10 : decode cX0_copyFrom 10 = .ok (.bipush 75, 2) := by decide +kernel
theorem dX0_copyFrom_12 : decode cX0_copyFrom 12 = .ok (.invokestatic 34, 3) := by decide +kernel
theorem dX0_copyFrom_15 : decode cX0_copyFrom 15 = .ok (.aload_n 1, 1) := by decide +kernel
theorem dX0_copyFrom_16 : decode cX0_copyFrom 16 = .ok (.getfield 15, 3) := by decide +kernel
theorem dX0_copyFrom_19 : decode cX0_copyFrom 19 = .ok (.iconst 0, 1) := by decide +kernel
theorem dX0_copyFrom_20 : decode cX0_copyFrom 20 = .ok (.aload_n 0, 1) := by decide +kernel
theorem dX0_copyFrom_21 : decode cX0_copyFrom 21 = .ok (.getfield 15, 3) := by decide +kernel
theorem dX0_copyFrom_24 : decode cX0_copyFrom 24 = .ok (.iconst 0, 1) := by decide +kernel
theorem dX0_copyFrom_25 : decode cX0_copyFrom 25 = .ok (.bipush 75, 2) := by decide +kernel
theorem dX0_copyFrom_27 : decode cX0_copyFrom 27 = .ok (.invokestatic 34, 3) := by decide +kernel
theorem dX0_copyFrom_30 : decode cX0_copyFrom 30 = .ok (.aload_n 1, 1) := by decide +kernel
theorem dX0_copyFrom_31 : decode cX0_copyFrom 31 = .ok (.getfield 18, 3) := by decide +kernel
theorem dX0_copyFrom_34 : decode cX0_copyFrom 34 = .ok (.iconst 0, 1) := by decide +kernel
theorem dX0_copyFrom_35 : decode cX0_copyFrom 35 = .ok (.aload_n 0, 1) := by decide +kernel
theorem dX0_copyFrom_36 : decode cX0_copyFrom 36 = .ok (.getfield 18, 3) := by decide +kernel
theorem dX0_copyFrom_39 : decode cX0_copyFrom 39 = .ok (.iconst 0, 1) := by decide +kernel
theorem dX0_copyFrom_40 : decode cX0_copyFrom 40 = .ok (.bipush 75, 2) := by decide +kernel
theorem dX0_copyFrom_42 : decode cX0_copyFrom 42 = .ok (.invokestatic 34, 3) := by decide +kernel
theorem dX0_copyFrom_45 : decode cX0_copyFrom 45 = .ok (.aload_n 1, 1) := by decide +kernel
theorem dX0_copyFrom_46 : decode cX0_copyFrom 46 = .ok (.getfield 21, 3) := by decide +kernel
theorem dX0_copyFrom_49 : decode cX0_copyFrom 49 = .ok (.iconst 0, 1) := by decide +kernel
theorem dX0_copyFrom_50 : decode cX0_copyFrom 50 = .ok (.aload_n 0, 1) := by decide +kernel
theorem dX0_copyFrom_51 : decode cX0_copyFrom 51 = .ok (.getfield 21, 3) := by decide +kernel
theorem dX0_copyFrom_54 : decode cX0_copyFrom 54 = .ok (.iconst 0, 1) := by decide +kernel
theorem dX0_copyFrom_55 : decode cX0_copyFrom 55 = .ok (.bipush 75, 2) := by decide +kernel
theorem dX0_copyFrom_57 : decode cX0_copyFrom 57 = .ok (.invokestatic 34, 3) := by decide +kernel
theorem dX0_copyFrom_60 : decode cX0_copyFrom 60 = .ok (.aload_n 1, 1) := by decide +kernel
theorem dX0_copyFrom_61 : decode cX0_copyFrom 61 = .ok (.getfield 24, 3) := by decide +kernel
theorem dX0_copyFrom_64 : decode cX0_copyFrom 64 = .ok (.iconst 0, 1) := by decide +kernel
theorem dX0_copyFrom_65 : decode cX0_copyFrom 65 = .ok (.aload_n 0, 1) := by decide +kernel
theorem dX0_copyFrom_66 : decode cX0_copyFrom 66 = .ok (.getfield 24, 3) := by decide +kernel
theorem dX0_copyFrom_69 : decode cX0_copyFrom 69 = .ok (.iconst 0, 1) := by decide +kernel
theorem dX0_copyFrom_70 : decode cX0_copyFrom 70 = .ok (.bipush 75, 2) := by decide +kernel
theorem dX0_copyFrom_72 : decode cX0_copyFrom 72 = .ok (.invokestatic 34, 3) := by decide +kernel
theorem dX0_copyFrom_75 : decode cX0_copyFrom 75 = .ok (.aload_n 0, 1) := by decide +kernel
theorem dX0_copyFrom_76 : decode cX0_copyFrom 76 = .ok (.aload_n 1, 1) := by decide +kernel
theorem dX0_copyFrom_77 : decode cX0_copyFrom 77 = .ok (.getfield 30, 3) := by decide +kernel
theorem dX0_copyFrom_80 : decode cX0_copyFrom 80 = .ok (.putfield 30, 3) := by decide +kernel
theorem dX0_copyFrom_83 : decode cX0_copyFrom 83 = .ok (.return_, 1) := by decide +kernel
set_option maxRecDepth 100000 in
set_option maxHeartbeats 4000000 in
theorem C_X0_copyFrom (l : Launch) (E : gE) (x : gX) {o : Nat} {o1 : Nat} (ho : gOk o) (ho1 : gOk o1) {M : gM} {M' : gM} (hf : f_X0_copyFrom o o1 M = some M') : gM0 l E yX0_copyFrom (.code yX0_copyFrom cX0_copyFrom 2 none) (gR 1 60) M x [.ref (E.2.1 (o + 1)), .ref (E.2.1 (o1 + 1))] none M' := by
  refine gMet (by decide +kernel) (Nat.le_of_ble_eq_true rfl) ?_
  intro p e s m args below meth c H locs ls Q hC hl hI kr kv
  replace hC : gC p s m args c cX0_copyFrom 2 RX0 E := hC
  replace hl : lv_has ls 2 [(0, .ref (E.2.1 (o + 1))), (1, .ref (E.2.1 (o1 + 1)))] := hl
  have hx := hC.1
  have hb := hC.2.1
  unfold f_X0_copyFrom at hf
  refine lv_aload_n hx hb dX0_copyFrom_0 rfl (lv_at hl 1 rfl) ?_
  refine gt_X0_X0_ids hC hI ho1 dX0_copyFrom_1 ?_
  refine lv_iconst (v := 0) hx hb dX0_copyFrom_4 (by decide) ?_
  refine lv_aload_n hx hb dX0_copyFrom_5 rfl (lv_at hl 0 rfl) ?_
  refine gt_X0_X0_ids hC hI ho dX0_copyFrom_6 ?_
  refine lv_iconst (v := 0) hx hb dX0_copyFrom_9 (by decide) ?_
  refine lv_bipush (v := 75) hx hb dX0_copyFrom_10 (by decide) ?_
  obtain ⟨M1, eM1, hf⟩ := glet hf
  refine g_copyi hC hI (gIA_2 ho1) (gIA_2 ho) hl.1 w437 w439 w438 w18 (by decide) (by decide) (by decide) (by decide) (by decide) (Nat.le_of_ble_eq_true rfl) (Nat.le_of_ble_eq_true rfl) dX0_copyFrom_12 (fun H locs hI => ?_)
  replace hI := g_mem eM1 hI
  refine lv_aload_n hx hb dX0_copyFrom_15 rfl (lv_at hl 1 rfl) ?_
  refine gt_X0_X0_weights hC hI ho1 dX0_copyFrom_16 ?_
  refine lv_iconst (v := 0) hx hb dX0_copyFrom_19 (by decide) ?_
  refine lv_aload_n hx hb dX0_copyFrom_20 rfl (lv_at hl 0 rfl) ?_
  refine gt_X0_X0_weights hC hI ho dX0_copyFrom_21 ?_
  refine lv_iconst (v := 0) hx hb dX0_copyFrom_24 (by decide) ?_
  refine lv_bipush (v := 75) hx hb dX0_copyFrom_25 (by decide) ?_
  obtain ⟨M2, eM2, hf⟩ := glet hf
  refine g_copyi hC hI (gIA_3 ho1) (gIA_3 ho) hl.1 w437 w439 w438 w18 (by decide) (by decide) (by decide) (by decide) (by decide) (Nat.le_of_ble_eq_true rfl) (Nat.le_of_ble_eq_true rfl) dX0_copyFrom_27 (fun H locs hI => ?_)
  replace hI := g_mem eM2 hI
  refine lv_aload_n hx hb dX0_copyFrom_30 rfl (lv_at hl 1 rfl) ?_
  refine gt_X0_X0_keys hC hI ho1 dX0_copyFrom_31 ?_
  refine lv_iconst (v := 0) hx hb dX0_copyFrom_34 (by decide) ?_
  refine lv_aload_n hx hb dX0_copyFrom_35 rfl (lv_at hl 0 rfl) ?_
  refine gt_X0_X0_keys hC hI ho dX0_copyFrom_36 ?_
  refine lv_iconst (v := 0) hx hb dX0_copyFrom_39 (by decide) ?_
  refine lv_bipush (v := 75) hx hb dX0_copyFrom_40 (by decide) ?_
  obtain ⟨M3, eM3, hf⟩ := glet hf
  refine g_copyi hC hI (gIA_4 ho1) (gIA_4 ho) hl.1 w437 w439 w438 w18 (by decide) (by decide) (by decide) (by decide) (by decide) (Nat.le_of_ble_eq_true rfl) (Nat.le_of_ble_eq_true rfl) dX0_copyFrom_42 (fun H locs hI => ?_)
  replace hI := g_mem eM3 hI
  refine lv_aload_n hx hb dX0_copyFrom_45 rfl (lv_at hl 1 rfl) ?_
  refine gt_X0_X0_piles hC hI ho1 dX0_copyFrom_46 ?_
  refine lv_iconst (v := 0) hx hb dX0_copyFrom_49 (by decide) ?_
  refine lv_aload_n hx hb dX0_copyFrom_50 rfl (lv_at hl 0 rfl) ?_
  refine gt_X0_X0_piles hC hI ho dX0_copyFrom_51 ?_
  refine lv_iconst (v := 0) hx hb dX0_copyFrom_54 (by decide) ?_
  refine lv_bipush (v := 75) hx hb dX0_copyFrom_55 (by decide) ?_
  obtain ⟨M4, eM4, hf⟩ := glet hf
  refine g_copyi hC hI (gIA_5 ho1) (gIA_5 ho) hl.1 w437 w439 w438 w18 (by decide) (by decide) (by decide) (by decide) (by decide) (Nat.le_of_ble_eq_true rfl) (Nat.le_of_ble_eq_true rfl) dX0_copyFrom_57 (fun H locs hI => ?_)
  replace hI := g_mem eM4 hI
  refine lv_aload_n hx hb dX0_copyFrom_60 rfl (lv_at hl 1 rfl) ?_
  refine gt_X0_X0_levels hC hI ho1 dX0_copyFrom_61 ?_
  refine lv_iconst (v := 0) hx hb dX0_copyFrom_64 (by decide) ?_
  refine lv_aload_n hx hb dX0_copyFrom_65 rfl (lv_at hl 0 rfl) ?_
  refine gt_X0_X0_levels hC hI ho dX0_copyFrom_66 ?_
  refine lv_iconst (v := 0) hx hb dX0_copyFrom_69 (by decide) ?_
  refine lv_bipush (v := 75) hx hb dX0_copyFrom_70 (by decide) ?_
  obtain ⟨M5, eM5, hf⟩ := glet hf
  refine g_copyi hC hI (gIA_6 ho1) (gIA_6 ho) hl.1 w437 w439 w438 w18 (by decide) (by decide) (by decide) (by decide) (by decide) (Nat.le_of_ble_eq_true rfl) (Nat.le_of_ble_eq_true rfl) dX0_copyFrom_72 (fun H locs hI => ?_)
  replace hI := g_mem eM5 hI
  refine lv_aload_n hx hb dX0_copyFrom_75 rfl (lv_at hl 0 rfl) ?_
  refine lv_aload_n hx hb dX0_copyFrom_76 rfl (lv_at hl 1 rfl) ?_
  refine gt_X0_X0_count hC hI ho1 dX0_copyFrom_77 ?_
  obtain ⟨M6, eM6, hf⟩ := glet hf
  refine pt_X0_X0_count hC hI ho dX0_copyFrom_80 (fun H locs hI => ?_)
  replace hI := g_mem eM6 hI
  exact kv _ _ _ _ _ (grv hf) hI rfl dX0_copyFrom_83
theorem dX0_add_0 : decode cX0_add 0 = .ok (.aload_n 0, 1) := by decide +kernel
theorem dX0_add_1 : decode cX0_add 1 = .ok (.getfield 30, 3) := by decide +kernel
theorem dX0_add_4 : decode cX0_add 4 = .ok (.ifCond .lt 12, 3) := by decide +kernel
theorem dX0_add_7 : decode cX0_add 7 = .ok (.aload_n 0, 1) := by decide +kernel
theorem dX0_add_8 : decode cX0_add 8 = .ok (.getfield 30, 3) := by decide +kernel
theorem dX0_add_11 : decode cX0_add 11 = .ok (.bipush 75, 2) := by decide +kernel
theorem dX0_add_13 : decode cX0_add 13 = .ok (.if_icmp .lt 4, 3) := by decide +kernel
theorem dX0_add_16 : decode cX0_add 16 = .ok (.return_, 1) := by decide +kernel
theorem dX0_add_17 : decode cX0_add 17 = .ok (.aload_n 0, 1) := by decide +kernel
theorem dX0_add_18 : decode cX0_add 18 = .ok (.iload 4, 2) := by decide +kernel
theorem dX0_add_20 : decode cX0_add 20 = .ok (.invokevirtual 40, 3) := by decide +kernel
theorem dX0_add_23 : decode cX0_add 23 = .ok (.istore 5, 2) := by decide +kernel
theorem dX0_add_25 : decode cX0_add 25 = .ok (.aload_n 0, 1) := by decide +kernel
theorem dX0_add_26 : decode cX0_add 26 = .ok (.getfield 9, 3) := by decide +kernel
theorem dX0_add_29 : decode cX0_add 29 = .ok (.aload_n 0, 1) := by decide +kernel
theorem dX0_add_30 : decode cX0_add 30 = .ok (.getfield 30, 3) := by decide +kernel
theorem dX0_add_33 : decode cX0_add 33 = .ok (.iload_n 1, 1) := by decide +kernel
theorem dX0_add_34 : decode cX0_add 34 = .ok (.iastore, 1) := by decide +kernel
theorem dX0_add_35 : decode cX0_add 35 = .ok (.aload_n 0, 1) := by decide +kernel
theorem dX0_add_36 : decode cX0_add 36 = .ok (.getfield 15, 3) := by decide +kernel
theorem dX0_add_39 : decode cX0_add 39 = .ok (.aload_n 0, 1) := by decide +kernel
theorem dX0_add_40 : decode cX0_add 40 = .ok (.getfield 30, 3) := by decide +kernel
theorem dX0_add_43 : decode cX0_add 43 = .ok (.iload_n 2, 1) := by decide +kernel
theorem dX0_add_44 : decode cX0_add 44 = .ok (.iastore, 1) := by decide +kernel
theorem dX0_add_45 : decode cX0_add 45 = .ok (.aload_n 0, 1) := by decide +kernel
theorem dX0_add_46 : decode cX0_add 46 = .ok (.getfield 18, 3) := by decide +kernel
theorem dX0_add_49 : decode cX0_add 49 = .ok (.aload_n 0, 1) := by decide +kernel
theorem dX0_add_50 : decode cX0_add 50 = .ok (.getfield 30, 3) := by decide +kernel
theorem dX0_add_53 : decode cX0_add 53 = .ok (.iload_n 3, 1) := by decide +kernel
theorem dX0_add_54 : decode cX0_add 54 = .ok (.iastore, 1) := by decide +kernel
theorem dX0_add_55 : decode cX0_add 55 = .ok (.aload_n 0, 1) := by decide +kernel
theorem dX0_add_56 : decode cX0_add 56 = .ok (.getfield 21, 3) := by decide +kernel
theorem dX0_add_59 : decode cX0_add 59 = .ok (.aload_n 0, 1) := by decide +kernel
theorem dX0_add_60 : decode cX0_add 60 = .ok (.getfield 30, 3) := by decide +kernel
theorem dX0_add_63 : decode cX0_add 63 = .ok (.iload 4, 2) := by decide +kernel
theorem dX0_add_65 : decode cX0_add 65 = .ok (.iastore, 1) := by decide +kernel
theorem dX0_add_66 : decode cX0_add 66 = .ok (.aload_n 0, 1) := by decide +kernel
theorem dX0_add_67 : decode cX0_add 67 = .ok (.getfield 24, 3) := by decide +kernel
theorem dX0_add_70 : decode cX0_add 70 = .ok (.aload_n 0, 1) := by decide +kernel
theorem dX0_add_71 : decode cX0_add 71 = .ok (.getfield 30, 3) := by decide +kernel
theorem dX0_add_74 : decode cX0_add 74 = .ok (.iload 5, 2) := by decide +kernel
theorem dX0_add_76 : decode cX0_add 76 = .ok (.iastore, 1) := by decide +kernel
theorem dX0_add_77 : decode cX0_add 77 = .ok (.aload_n 0, 1) := by decide +kernel
theorem dX0_add_78 : decode cX0_add 78 = .ok (.dup, 1) := by decide +kernel
theorem dX0_add_79 : decode cX0_add 79 = .ok (.getfield 30, 3) := by decide +kernel
theorem dX0_add_82 : decode cX0_add 82 = .ok (.iconst 1, 1) := by decide +kernel
theorem dX0_add_83 : decode cX0_add 83 = .ok (.iadd, 1) := by decide +kernel
theorem dX0_add_84 : decode cX0_add 84 = .ok (.putfield 30, 3) := by decide +kernel
theorem dX0_add_87 : decode cX0_add 87 = .ok (.return_, 1) := by decide +kernel
set_option maxRecDepth 100000 in
set_option maxHeartbeats 4000000 in
theorem C_X0_add (l : Launch) (E : gE) (x : gX) {o : Nat} (ho : gOk o) {v1 v2 v3 v4 : Int32} {M : gM} {M' : gM} (hf : f_X0_add o v1 v2 v3 v4 M = some M') : gM0 l E yX0_add (.code yX0_add cX0_add 6 none) (gR 1 23) M x [.ref (E.2.1 (o + 1)), .int v1, .int v2, .int v3, .int v4] none M' := by
  refine gMet (by decide +kernel) (Nat.le_of_ble_eq_true rfl) ?_
  intro p e s m args below meth c H locs ls Q hC hl hI kr kv
  replace hC : gC p s m args c cX0_add 6 RX0 E := hC
  replace hl : lv_has ls 6 [(0, .ref (E.2.1 (o + 1))), (1, .int v1), (2, .int v2), (3, .int v3), (4, .int v4)] := hl
  have hx := hC.1
  have hb := hC.2.1
  unfold f_X0_add at hf
  refine lv_aload_n hx hb dX0_add_0 rfl (lv_at hl 0 rfl) ?_
  refine gt_X0_X0_count hC hI ho dX0_add_1 ?_
  refine lv_if_lt (tgt := 16) hx hb dX0_add_4 rfl (fun h1 => ?_) (fun h1 => ?_)
  · replace hf := gif h1 hf
    exact kv _ _ _ _ _ (grv hf) hI rfl dX0_add_16
  · replace hf := gifn h1 hf
    refine lv_aload_n hx hb dX0_add_7 rfl (lv_at hl 0 rfl) ?_
    refine gt_X0_X0_count hC hI ho dX0_add_8 ?_
    refine lv_bipush (v := 75) hx hb dX0_add_11 (by decide) ?_
    refine lv_icmp_lt (tgt := 17) hx hb dX0_add_13 rfl (fun h2 => ?_) (fun h2 => ?_)
    · replace hf := gif h2 hf
      refine lv_aload_n hx hb dX0_add_17 rfl (lv_at hl 0 rfl) ?_
      refine lv_iload hx hb dX0_add_18 (lv_at hl 4 rfl) ?_
      obtain ⟨r3, hr4, hf⟩ := gbind hf
      have hr4 := C_X0_height l E x ho hr4
      refine g_callVi (rest := []) hC hI hr4 Y_X0_height V_X0_height w412 (rcv_X0 hC hI ho) ⟨rfl, rfl⟩ ⟨Nat.le_of_ble_eq_true rfl, Nat.le_of_ble_eq_true rfl⟩ rfl hl.1 rfl (Nat.le_of_ble_eq_true rfl) dX0_add_20 ⟨Nat.zero_le _, Nat.zero_le _⟩ (fun H locs hI => ?_)
      refine lv_istore (lv' := [(5, .int r3), (0, .ref (E.2.1 (o + 1))), (1, .int v1), (2, .int v2), (3, .int v3), (4, .int v4)]) hx hb dX0_add_23 hl (by decide) rfl (fun ls hl => ?_)
      refine lv_aload_n hx hb dX0_add_25 rfl (lv_at hl 1 rfl) ?_
      refine gt_X0_X0_ids hC hI ho dX0_add_26 ?_
      refine lv_aload_n hx hb dX0_add_29 rfl (lv_at hl 1 rfl) ?_
      refine gt_X0_X0_count hC hI ho dX0_add_30 ?_
      refine lv_iload_n hx hb dX0_add_33 rfl (lv_at hl 2 rfl) ?_
      obtain ⟨h5, hf⟩ := gifN hf
      obtain ⟨M6, eM6, hf⟩ := glet hf
      refine g_iast hC hI (k := (M (o + 1) 6).toNatClampNeg) (gIA_2 ho) h5 rfl dX0_add_34 (fun H locs hI => ?_)
      replace hI := g_mem eM6 hI
      refine lv_aload_n hx hb dX0_add_35 rfl (lv_at hl 1 rfl) ?_
      refine gt_X0_X0_weights hC hI ho dX0_add_36 ?_
      refine lv_aload_n hx hb dX0_add_39 rfl (lv_at hl 1 rfl) ?_
      refine gt_X0_X0_count hC hI ho dX0_add_40 ?_
      refine lv_iload_n hx hb dX0_add_43 rfl (lv_at hl 3 rfl) ?_
      obtain ⟨h7, hf⟩ := gifN hf
      obtain ⟨M8, eM8, hf⟩ := glet hf
      refine g_iast hC hI (k := (M6 (o + 1) 6).toNatClampNeg) (gIA_3 ho) h7 rfl dX0_add_44 (fun H locs hI => ?_)
      replace hI := g_mem eM8 hI
      refine lv_aload_n hx hb dX0_add_45 rfl (lv_at hl 1 rfl) ?_
      refine gt_X0_X0_keys hC hI ho dX0_add_46 ?_
      refine lv_aload_n hx hb dX0_add_49 rfl (lv_at hl 1 rfl) ?_
      refine gt_X0_X0_count hC hI ho dX0_add_50 ?_
      refine lv_iload_n hx hb dX0_add_53 rfl (lv_at hl 4 rfl) ?_
      obtain ⟨h9, hf⟩ := gifN hf
      obtain ⟨M10, eM10, hf⟩ := glet hf
      refine g_iast hC hI (k := (M8 (o + 1) 6).toNatClampNeg) (gIA_4 ho) h9 rfl dX0_add_54 (fun H locs hI => ?_)
      replace hI := g_mem eM10 hI
      refine lv_aload_n hx hb dX0_add_55 rfl (lv_at hl 1 rfl) ?_
      refine gt_X0_X0_piles hC hI ho dX0_add_56 ?_
      refine lv_aload_n hx hb dX0_add_59 rfl (lv_at hl 1 rfl) ?_
      refine gt_X0_X0_count hC hI ho dX0_add_60 ?_
      refine lv_iload hx hb dX0_add_63 (lv_at hl 5 rfl) ?_
      obtain ⟨h11, hf⟩ := gifN hf
      obtain ⟨M12, eM12, hf⟩ := glet hf
      refine g_iast hC hI (k := (M10 (o + 1) 6).toNatClampNeg) (gIA_5 ho) h11 rfl dX0_add_65 (fun H locs hI => ?_)
      replace hI := g_mem eM12 hI
      refine lv_aload_n hx hb dX0_add_66 rfl (lv_at hl 1 rfl) ?_
      refine gt_X0_X0_levels hC hI ho dX0_add_67 ?_
      refine lv_aload_n hx hb dX0_add_70 rfl (lv_at hl 1 rfl) ?_
      refine gt_X0_X0_count hC hI ho dX0_add_71 ?_
      refine lv_iload hx hb dX0_add_74 (lv_at hl 0 rfl) ?_
      obtain ⟨h13, hf⟩ := gifN hf
      obtain ⟨M14, eM14, hf⟩ := glet hf
      refine g_iast hC hI (k := (M12 (o + 1) 6).toNatClampNeg) (gIA_6 ho) h13 rfl dX0_add_76 (fun H locs hI => ?_)
      replace hI := g_mem eM14 hI
      refine lv_aload_n hx hb dX0_add_77 rfl (lv_at hl 1 rfl) ?_
      refine lv_dup hx hb dX0_add_78 rfl ?_
      refine gt_X0_X0_count hC hI ho dX0_add_79 ?_
      refine lv_iconst (v := 1) hx hb dX0_add_82 (by decide) ?_
      refine lv_iadd hx hb dX0_add_83 ?_
      obtain ⟨M15, eM15, hf⟩ := glet hf
      refine pt_X0_X0_count hC hI ho dX0_add_84 (fun H locs hI => ?_)
      replace hI := g_mem eM15 hI
      exact kv _ _ _ _ _ (grv hf) hI rfl dX0_add_87
    · replace hf := gifn h2 hf
      exact kv _ _ _ _ _ (grv hf) hI rfl dX0_add_16
theorem dX0_put_0 : decode cX0_put 0 = .ok (.aload_n 0, 1) := by decide +kernel
theorem dX0_put_1 : decode cX0_put 1 = .ok (.iload_n 1, 1) := by decide +kernel
theorem dX0_put_2 : decode cX0_put 2 = .ok (.invokevirtual 44, 3) := by decide +kernel
theorem dX0_put_5 : decode cX0_put 5 = .ok (.ifCond .ne 4, 3) := by decide +kernel
theorem dX0_put_8 : decode cX0_put 8 = .ok (.return_, 1) := by decide +kernel
theorem dX0_put_9 : decode cX0_put 9 = .ok (.aload_n 0, 1) := by decide +kernel
theorem dX0_put_10 : decode cX0_put 10 = .ok (.getfield 24, 3) := by decide +kernel
theorem dX0_put_13 : decode cX0_put 13 = .ok (.iload_n 1, 1) := by decide +kernel
theorem dX0_put_14 : decode cX0_put 14 = .ok (.aload_n 0, 1) := by decide +kernel
theorem dX0_put_15 : decode cX0_put 15 = .ok (.iload_n 2, 1) := by decide +kernel
theorem dX0_put_16 : decode cX0_put 16 = .ok (.invokevirtual 40, 3) := by decide +kernel
theorem dX0_put_19 : decode cX0_put 19 = .ok (.iastore, 1) := by decide +kernel
theorem dX0_put_20 : decode cX0_put 20 = .ok (.aload_n 0, 1) := by decide +kernel
theorem dX0_put_21 : decode cX0_put 21 = .ok (.getfield 21, 3) := by decide +kernel
theorem dX0_put_24 : decode cX0_put 24 = .ok (.iload_n 1, 1) := by decide +kernel
theorem dX0_put_25 : decode cX0_put 25 = .ok (.iload_n 2, 1) := by decide +kernel
theorem dX0_put_26 : decode cX0_put 26 = .ok (.iastore, 1) := by decide +kernel
theorem dX0_put_27 : decode cX0_put 27 = .ok (.return_, 1) := by decide +kernel
set_option maxRecDepth 100000 in
set_option maxHeartbeats 4000000 in
theorem C_X0_put (l : Launch) (E : gE) (x : gX) {o : Nat} (ho : gOk o) {v1 v2 : Int32} {M : gM} {M' : gM} (hf : f_X0_put o v1 v2 M = some M') : gM0 l E yX0_put (.code yX0_put cX0_put 3 none) (gR 1 23) M x [.ref (E.2.1 (o + 1)), .int v1, .int v2] none M' := by
  refine gMet (by decide +kernel) (Nat.le_of_ble_eq_true rfl) ?_
  intro p e s m args below meth c H locs ls Q hC hl hI kr kv
  replace hC : gC p s m args c cX0_put 3 RX0 E := hC
  replace hl : lv_has ls 3 [(0, .ref (E.2.1 (o + 1))), (1, .int v1), (2, .int v2)] := hl
  have hx := hC.1
  have hb := hC.2.1
  unfold f_X0_put at hf
  refine lv_aload_n hx hb dX0_put_0 rfl (lv_at hl 0 rfl) ?_
  refine lv_iload_n hx hb dX0_put_1 rfl (lv_at hl 1 rfl) ?_
  obtain ⟨r1, hr2, hf⟩ := gbind hf
  have hr2 := C_X0_hasRow l E x ho hr2
  refine g_callVi (rest := []) hC hI hr2 Y_X0_hasRow V_X0_hasRow w267 (rcv_X0 hC hI ho) ⟨rfl, rfl⟩ ⟨Nat.le_of_ble_eq_true rfl, Nat.le_of_ble_eq_true rfl⟩ rfl hl.1 rfl (Nat.le_of_ble_eq_true rfl) dX0_put_2 ⟨Nat.zero_le _, Nat.zero_le _⟩ (fun H locs hI => ?_)
  refine lv_if_ne (tgt := 9) hx hb dX0_put_5 rfl (fun h3 => ?_) (fun h3 => ?_)
  · replace hf := gifn h3 hf
    refine lv_aload_n hx hb dX0_put_9 rfl (lv_at hl 0 rfl) ?_
    refine gt_X0_X0_levels hC hI ho dX0_put_10 ?_
    refine lv_iload_n hx hb dX0_put_13 rfl (lv_at hl 1 rfl) ?_
    refine lv_aload_n hx hb dX0_put_14 rfl (lv_at hl 0 rfl) ?_
    refine lv_iload_n hx hb dX0_put_15 rfl (lv_at hl 2 rfl) ?_
    obtain ⟨r4, hr5, hf⟩ := gbind hf
    have hr5 := C_X0_height l E x ho hr5
    refine g_callVi (rest := [.int v1, .ref (E.2.1 (o + 6))]) hC hI hr5 Y_X0_height V_X0_height w412 (rcv_X0 hC hI ho) ⟨rfl, rfl⟩ ⟨Nat.le_of_ble_eq_true rfl, Nat.le_of_ble_eq_true rfl⟩ rfl hl.1 rfl (Nat.le_of_ble_eq_true rfl) dX0_put_16 ⟨Nat.zero_le _, Nat.zero_le _⟩ (fun H locs hI => ?_)
    obtain ⟨h6, hf⟩ := gifN hf
    obtain ⟨M7, eM7, hf⟩ := glet hf
    refine g_iast hC hI (k := v1.toNatClampNeg) (gIA_6 ho) h6 rfl dX0_put_19 (fun H locs hI => ?_)
    replace hI := g_mem eM7 hI
    refine lv_aload_n hx hb dX0_put_20 rfl (lv_at hl 0 rfl) ?_
    refine gt_X0_X0_piles hC hI ho dX0_put_21 ?_
    refine lv_iload_n hx hb dX0_put_24 rfl (lv_at hl 1 rfl) ?_
    refine lv_iload_n hx hb dX0_put_25 rfl (lv_at hl 2 rfl) ?_
    obtain ⟨h8, hf⟩ := gifN hf
    obtain ⟨M9, eM9, hf⟩ := glet hf
    refine g_iast hC hI (k := v1.toNatClampNeg) (gIA_5 ho) h8 rfl dX0_put_26 (fun H locs hI => ?_)
    replace hI := g_mem eM9 hI
    exact kv _ _ _ _ _ (grv hf) hI rfl dX0_put_27
  · replace hf := gif h3 hf
    exact kv _ _ _ _ _ (grv hf) hI rfl dX0_put_8
theorem dX0_lower_0 : decode cX0_lower 0 = .ok (.aload_n 0, 1) := by decide +kernel
theorem dX0_lower_1 : decode cX0_lower 1 = .ok (.iload_n 1, 1) := by decide +kernel
theorem dX0_lower_2 : decode cX0_lower 2 = .ok (.invokevirtual 44, 3) := by decide +kernel
theorem dX0_lower_5 : decode cX0_lower 5 = .ok (.ifCond .eq 13, 3) := by decide +kernel
theorem dX0_lower_8 : decode cX0_lower 8 = .ok (.aload_n 0, 1) := by decide +kernel
theorem dX0_lower_9 : decode cX0_lower 9 = .ok (.getfield 24, 3) := by decide +kernel
theorem dX0_lower_12 : decode cX0_lower 12 = .ok (.iload_n 1, 1) := by decide +kernel
theorem dX0_lower_13 : decode cX0_lower 13 = .ok (.dup2, 1) := by decide +kernel
theorem dX0_lower_14 : decode cX0_lower 14 = .ok (.iaload, 1) := by decide +kernel
theorem dX0_lower_15 : decode cX0_lower 15 = .ok (.iconst 1, 1) := by decide +kernel
theorem dX0_lower_16 : decode cX0_lower 16 = .ok (.isub, 1) := by decide +kernel
theorem dX0_lower_17 : decode cX0_lower 17 = .ok (.iastore, 1) := by decide +kernel
theorem dX0_lower_18 : decode cX0_lower 18 = .ok (.return_, 1) := by decide +kernel
set_option maxRecDepth 100000 in
set_option maxHeartbeats 4000000 in
theorem C_X0_lower (l : Launch) (E : gE) (x : gX) {o : Nat} (ho : gOk o) {v1 : Int32} {M : gM} {M' : gM} (hf : f_X0_lower o v1 M = some M') : gM0 l E yX0_lower (.code yX0_lower cX0_lower 2 none) (gR 1 21) M x [.ref (E.2.1 (o + 1)), .int v1] none M' := by
  refine gMet (by decide +kernel) (Nat.le_of_ble_eq_true rfl) ?_
  intro p e s m args below meth c H locs ls Q hC hl hI kr kv
  replace hC : gC p s m args c cX0_lower 2 RX0 E := hC
  replace hl : lv_has ls 2 [(0, .ref (E.2.1 (o + 1))), (1, .int v1)] := hl
  have hx := hC.1
  have hb := hC.2.1
  unfold f_X0_lower at hf
  refine lv_aload_n hx hb dX0_lower_0 rfl (lv_at hl 0 rfl) ?_
  refine lv_iload_n hx hb dX0_lower_1 rfl (lv_at hl 1 rfl) ?_
  obtain ⟨r1, hr2, hf⟩ := gbind hf
  have hr2 := C_X0_hasRow l E x ho hr2
  refine g_callVi (rest := []) hC hI hr2 Y_X0_hasRow V_X0_hasRow w267 (rcv_X0 hC hI ho) ⟨rfl, rfl⟩ ⟨Nat.le_of_ble_eq_true rfl, Nat.le_of_ble_eq_true rfl⟩ rfl hl.1 rfl (Nat.le_of_ble_eq_true rfl) dX0_lower_2 ⟨Nat.zero_le _, Nat.zero_le _⟩ (fun H locs hI => ?_)
  refine lv_if_eq (tgt := 18) hx hb dX0_lower_5 rfl (fun h3 => ?_) (fun h3 => ?_)
  · replace hf := gif h3 hf
    exact kv _ _ _ _ _ (grv hf) hI rfl dX0_lower_18
  · replace hf := gifn h3 hf
    refine lv_aload_n hx hb dX0_lower_8 rfl (lv_at hl 0 rfl) ?_
    refine gt_X0_X0_levels hC hI ho dX0_lower_9 ?_
    refine lv_iload_n hx hb dX0_lower_12 rfl (lv_at hl 1 rfl) ?_
    refine lv_dup2_11 hx hb dX0_lower_13 rfl rfl ?_
    obtain ⟨h4, hf⟩ := gifN hf
    refine g_iald hC hI (k := v1.toNatClampNeg) (gIA_6 ho) h4 rfl dX0_lower_14 ?_
    refine lv_iconst (v := 1) hx hb dX0_lower_15 (by decide) ?_
    refine lv_isub hx hb dX0_lower_16 ?_
    obtain ⟨h5, hf⟩ := gifN hf
    obtain ⟨M6, eM6, hf⟩ := glet hf
    refine g_iast hC hI (k := v1.toNatClampNeg) (gIA_6 ho) h5 rfl dX0_lower_17 (fun H locs hI => ?_)
    replace hI := g_mem eM6 hI
    exact kv _ _ _ _ _ (grv hf) hI rfl dX0_lower_18
theorem dX0_copyRow_0 : decode cX0_copyRow 0 = .ok (.aload_n 0, 1) := by decide +kernel
theorem dX0_copyRow_1 : decode cX0_copyRow 1 = .ok (.iload_n 1, 1) := by decide +kernel
theorem dX0_copyRow_2 : decode cX0_copyRow 2 = .ok (.invokevirtual 44, 3) := by decide +kernel
theorem dX0_copyRow_5 : decode cX0_copyRow 5 = .ok (.ifCond .eq 71, 3) := by decide +kernel
theorem dX0_copyRow_8 : decode cX0_copyRow 8 = .ok (.aload_n 0, 1) := by decide +kernel
theorem dX0_copyRow_9 : decode cX0_copyRow 9 = .ok (.iload_n 2, 1) := by decide +kernel
theorem dX0_copyRow_10 : decode cX0_copyRow 10 = .ok (.invokevirtual 44, 3) := by decide +kernel
theorem dX0_copyRow_13 : decode cX0_copyRow 13 = .ok (.ifCond .eq 63, 3) := by decide +kernel
theorem dX0_copyRow_16 : decode cX0_copyRow 16 = .ok (.aload_n 0, 1) := by decide +kernel
theorem dX0_copyRow_17 : decode cX0_copyRow 17 = .ok (.getfield 9, 3) := by decide +kernel
theorem dX0_copyRow_20 : decode cX0_copyRow 20 = .ok (.iload_n 2, 1) := by decide +kernel
theorem dX0_copyRow_21 : decode cX0_copyRow 21 = .ok (.aload_n 0, 1) := by decide +kernel
theorem dX0_copyRow_22 : decode cX0_copyRow 22 = .ok (.getfield 9, 3) := by decide +kernel
theorem dX0_copyRow_25 : decode cX0_copyRow 25 = .ok (.iload_n 1, 1) := by decide +kernel
theorem dX0_copyRow_26 : decode cX0_copyRow 26 = .ok (.iaload, 1) := by decide +kernel
theorem dX0_copyRow_27 : decode cX0_copyRow 27 = .ok (.iastore, 1) := by decide +kernel
theorem dX0_copyRow_28 : decode cX0_copyRow 28 = .ok (.aload_n 0, 1) := by decide +kernel
theorem dX0_copyRow_29 : decode cX0_copyRow 29 = .ok (.getfield 15, 3) := by decide +kernel
theorem dX0_copyRow_32 : decode cX0_copyRow 32 = .ok (.iload_n 2, 1) := by decide +kernel
theorem dX0_copyRow_33 : decode cX0_copyRow 33 = .ok (.aload_n 0, 1) := by decide +kernel
theorem dX0_copyRow_34 : decode cX0_copyRow 34 = .ok (.getfield 15, 3) := by decide +kernel
theorem dX0_copyRow_37 : decode cX0_copyRow 37 = .ok (.iload_n 1, 1) := by decide +kernel
theorem dX0_copyRow_38 : decode cX0_copyRow 38 = .ok (.iaload, 1) := by decide +kernel
theorem dX0_copyRow_39 : decode cX0_copyRow 39 = .ok (.iastore, 1) := by decide +kernel
theorem dX0_copyRow_40 : decode cX0_copyRow 40 = .ok (.aload_n 0, 1) := by decide +kernel
theorem dX0_copyRow_41 : decode cX0_copyRow 41 = .ok (.getfield 18, 3) := by decide +kernel
theorem dX0_copyRow_44 : decode cX0_copyRow 44 = .ok (.iload_n 2, 1) := by decide +kernel
theorem dX0_copyRow_45 : decode cX0_copyRow 45 = .ok (.aload_n 0, 1) := by decide +kernel
theorem dX0_copyRow_46 : decode cX0_copyRow 46 = .ok (.getfield 18, 3) := by decide +kernel
theorem dX0_copyRow_49 : decode cX0_copyRow 49 = .ok (.iload_n 1, 1) := by decide +kernel
theorem dX0_copyRow_50 : decode cX0_copyRow 50 = .ok (.iaload, 1) := by decide +kernel
theorem dX0_copyRow_51 : decode cX0_copyRow 51 = .ok (.iastore, 1) := by decide +kernel
theorem dX0_copyRow_52 : decode cX0_copyRow 52 = .ok (.aload_n 0, 1) := by decide +kernel
theorem dX0_copyRow_53 : decode cX0_copyRow 53 = .ok (.getfield 21, 3) := by decide +kernel
theorem dX0_copyRow_56 : decode cX0_copyRow 56 = .ok (.iload_n 2, 1) := by decide +kernel
theorem dX0_copyRow_57 : decode cX0_copyRow 57 = .ok (.aload_n 0, 1) := by decide +kernel
theorem dX0_copyRow_58 : decode cX0_copyRow 58 = .ok (.getfield 21, 3) := by decide +kernel
theorem dX0_copyRow_61 : decode cX0_copyRow 61 = .ok (.iload_n 1, 1) := by decide +kernel
theorem dX0_copyRow_62 : decode cX0_copyRow 62 = .ok (.iaload, 1) := by decide +kernel
theorem dX0_copyRow_63 : decode cX0_copyRow 63 = .ok (.iastore, 1) := by decide +kernel
theorem dX0_copyRow_64 : decode cX0_copyRow 64 = .ok (.aload_n 0, 1) := by decide +kernel
theorem dX0_copyRow_65 : decode cX0_copyRow 65 = .ok (.getfield 24, 3) := by decide +kernel
theorem dX0_copyRow_68 : decode cX0_copyRow 68 = .ok (.iload_n 2, 1) := by decide +kernel
theorem dX0_copyRow_69 : decode cX0_copyRow 69 = .ok (.aload_n 0, 1) := by decide +kernel
theorem dX0_copyRow_70 : decode cX0_copyRow 70 = .ok (.getfield 24, 3) := by decide +kernel
theorem dX0_copyRow_73 : decode cX0_copyRow 73 = .ok (.iload_n 1, 1) := by decide +kernel
theorem dX0_copyRow_74 : decode cX0_copyRow 74 = .ok (.iaload, 1) := by decide +kernel
theorem dX0_copyRow_75 : decode cX0_copyRow 75 = .ok (.iastore, 1) := by decide +kernel
theorem dX0_copyRow_76 : decode cX0_copyRow 76 = .ok (.return_, 1) := by decide +kernel
set_option maxRecDepth 100000 in
set_option maxHeartbeats 4000000 in
theorem C_X0_copyRow (l : Launch) (E : gE) (x : gX) {o : Nat} (ho : gOk o) {v1 v2 : Int32} {M : gM} {M' : gM} (hf : f_X0_copyRow o v1 v2 M = some M') : gM0 l E yX0_copyRow (.code yX0_copyRow cX0_copyRow 3 none) (gR 1 21) M x [.ref (E.2.1 (o + 1)), .int v1, .int v2] none M' := by
  refine gMet (by decide +kernel) (Nat.le_of_ble_eq_true rfl) ?_
  intro p e s m args below meth c H locs ls Q hC hl hI kr kv
  replace hC : gC p s m args c cX0_copyRow 3 RX0 E := hC
  replace hl : lv_has ls 3 [(0, .ref (E.2.1 (o + 1))), (1, .int v1), (2, .int v2)] := hl
  have hx := hC.1
  have hb := hC.2.1
  unfold f_X0_copyRow at hf
  refine lv_aload_n hx hb dX0_copyRow_0 rfl (lv_at hl 0 rfl) ?_
  refine lv_iload_n hx hb dX0_copyRow_1 rfl (lv_at hl 1 rfl) ?_
  obtain ⟨r1, hr2, hf⟩ := gbind hf
  have hr2 := C_X0_hasRow l E x ho hr2
  refine g_callVi (rest := []) hC hI hr2 Y_X0_hasRow V_X0_hasRow w267 (rcv_X0 hC hI ho) ⟨rfl, rfl⟩ ⟨Nat.le_of_ble_eq_true rfl, Nat.le_of_ble_eq_true rfl⟩ rfl hl.1 rfl (Nat.le_of_ble_eq_true rfl) dX0_copyRow_2 ⟨Nat.zero_le _, Nat.zero_le _⟩ (fun H locs hI => ?_)
  refine lv_if_eq (tgt := 76) hx hb dX0_copyRow_5 rfl (fun h3 => ?_) (fun h3 => ?_)
  · replace hf := gif h3 hf
    exact kv _ _ _ _ _ (grv hf) hI rfl dX0_copyRow_76
  · replace hf := gifn h3 hf
    refine lv_aload_n hx hb dX0_copyRow_8 rfl (lv_at hl 0 rfl) ?_
    refine lv_iload_n hx hb dX0_copyRow_9 rfl (lv_at hl 2 rfl) ?_
    obtain ⟨r4, hr5, hf⟩ := gbind hf
    have hr5 := C_X0_hasRow l E x ho hr5
    refine g_callVi (rest := []) hC hI hr5 Y_X0_hasRow V_X0_hasRow w267 (rcv_X0 hC hI ho) ⟨rfl, rfl⟩ ⟨Nat.le_of_ble_eq_true rfl, Nat.le_of_ble_eq_true rfl⟩ rfl hl.1 rfl (Nat.le_of_ble_eq_true rfl) dX0_copyRow_10 ⟨Nat.zero_le _, Nat.zero_le _⟩ (fun H locs hI => ?_)
    refine lv_if_eq (tgt := 76) hx hb dX0_copyRow_13 rfl (fun h6 => ?_) (fun h6 => ?_)
    · replace hf := gif h6 hf
      exact kv _ _ _ _ _ (grv hf) hI rfl dX0_copyRow_76
    · replace hf := gifn h6 hf
      refine lv_aload_n hx hb dX0_copyRow_16 rfl (lv_at hl 0 rfl) ?_
      refine gt_X0_X0_ids hC hI ho dX0_copyRow_17 ?_
      refine lv_iload_n hx hb dX0_copyRow_20 rfl (lv_at hl 2 rfl) ?_
      refine lv_aload_n hx hb dX0_copyRow_21 rfl (lv_at hl 0 rfl) ?_
      refine gt_X0_X0_ids hC hI ho dX0_copyRow_22 ?_
      refine lv_iload_n hx hb dX0_copyRow_25 rfl (lv_at hl 1 rfl) ?_
      obtain ⟨h7, hf⟩ := gifN hf
      refine g_iald hC hI (k := v1.toNatClampNeg) (gIA_2 ho) h7 rfl dX0_copyRow_26 ?_
      obtain ⟨h8, hf⟩ := gifN hf
      obtain ⟨M9, eM9, hf⟩ := glet hf
      refine g_iast hC hI (k := v2.toNatClampNeg) (gIA_2 ho) h8 rfl dX0_copyRow_27 (fun H locs hI => ?_)
      replace hI := g_mem eM9 hI
      refine lv_aload_n hx hb dX0_copyRow_28 rfl (lv_at hl 0 rfl) ?_
      refine gt_X0_X0_weights hC hI ho dX0_copyRow_29 ?_
      refine lv_iload_n hx hb dX0_copyRow_32 rfl (lv_at hl 2 rfl) ?_
      refine lv_aload_n hx hb dX0_copyRow_33 rfl (lv_at hl 0 rfl) ?_
      refine gt_X0_X0_weights hC hI ho dX0_copyRow_34 ?_
      refine lv_iload_n hx hb dX0_copyRow_37 rfl (lv_at hl 1 rfl) ?_
      obtain ⟨h10, hf⟩ := gifN hf
      refine g_iald hC hI (k := v1.toNatClampNeg) (gIA_3 ho) h10 rfl dX0_copyRow_38 ?_
      obtain ⟨h11, hf⟩ := gifN hf
      obtain ⟨M12, eM12, hf⟩ := glet hf
      refine g_iast hC hI (k := v2.toNatClampNeg) (gIA_3 ho) h11 rfl dX0_copyRow_39 (fun H locs hI => ?_)
      replace hI := g_mem eM12 hI
      refine lv_aload_n hx hb dX0_copyRow_40 rfl (lv_at hl 0 rfl) ?_
      refine gt_X0_X0_keys hC hI ho dX0_copyRow_41 ?_
      refine lv_iload_n hx hb dX0_copyRow_44 rfl (lv_at hl 2 rfl) ?_
      refine lv_aload_n hx hb dX0_copyRow_45 rfl (lv_at hl 0 rfl) ?_
      refine gt_X0_X0_keys hC hI ho dX0_copyRow_46 ?_
      refine lv_iload_n hx hb dX0_copyRow_49 rfl (lv_at hl 1 rfl) ?_
      obtain ⟨h13, hf⟩ := gifN hf
      refine g_iald hC hI (k := v1.toNatClampNeg) (gIA_4 ho) h13 rfl dX0_copyRow_50 ?_
      obtain ⟨h14, hf⟩ := gifN hf
      obtain ⟨M15, eM15, hf⟩ := glet hf
      refine g_iast hC hI (k := v2.toNatClampNeg) (gIA_4 ho) h14 rfl dX0_copyRow_51 (fun H locs hI => ?_)
      replace hI := g_mem eM15 hI
      refine lv_aload_n hx hb dX0_copyRow_52 rfl (lv_at hl 0 rfl) ?_
      refine gt_X0_X0_piles hC hI ho dX0_copyRow_53 ?_
      refine lv_iload_n hx hb dX0_copyRow_56 rfl (lv_at hl 2 rfl) ?_
      refine lv_aload_n hx hb dX0_copyRow_57 rfl (lv_at hl 0 rfl) ?_
      refine gt_X0_X0_piles hC hI ho dX0_copyRow_58 ?_
      refine lv_iload_n hx hb dX0_copyRow_61 rfl (lv_at hl 1 rfl) ?_
      obtain ⟨h16, hf⟩ := gifN hf
      refine g_iald hC hI (k := v1.toNatClampNeg) (gIA_5 ho) h16 rfl dX0_copyRow_62 ?_
      obtain ⟨h17, hf⟩ := gifN hf
      obtain ⟨M18, eM18, hf⟩ := glet hf
      refine g_iast hC hI (k := v2.toNatClampNeg) (gIA_5 ho) h17 rfl dX0_copyRow_63 (fun H locs hI => ?_)
      replace hI := g_mem eM18 hI
      refine lv_aload_n hx hb dX0_copyRow_64 rfl (lv_at hl 0 rfl) ?_
      refine gt_X0_X0_levels hC hI ho dX0_copyRow_65 ?_
      refine lv_iload_n hx hb dX0_copyRow_68 rfl (lv_at hl 2 rfl) ?_
      refine lv_aload_n hx hb dX0_copyRow_69 rfl (lv_at hl 0 rfl) ?_
      refine gt_X0_X0_levels hC hI ho dX0_copyRow_70 ?_
      refine lv_iload_n hx hb dX0_copyRow_73 rfl (lv_at hl 1 rfl) ?_
      obtain ⟨h19, hf⟩ := gifN hf
      refine g_iald hC hI (k := v1.toNatClampNeg) (gIA_6 ho) h19 rfl dX0_copyRow_74 ?_
      obtain ⟨h20, hf⟩ := gifN hf
      obtain ⟨M21, eM21, hf⟩ := glet hf
      refine g_iast hC hI (k := v2.toNatClampNeg) (gIA_6 ho) h20 rfl dX0_copyRow_75 (fun H locs hI => ?_)
      replace hI := g_mem eM21 hI
      exact kv _ _ _ _ _ (grv hf) hI rfl dX0_copyRow_76
theorem dX0_remove_0 : decode cX0_remove 0 = .ok (.aload_n 0, 1) := by decide +kernel
theorem dX0_remove_1 : decode cX0_remove 1 = .ok (.iload_n 1, 1) := by decide +kernel
theorem dX0_remove_2 : decode cX0_remove 2 = .ok (.invokevirtual 44, 3) := by decide +kernel
theorem dX0_remove_5 : decode cX0_remove 5 = .ok (.ifCond .ne 4, 3) := by decide +kernel
theorem dX0_remove_8 : decode cX0_remove 8 = .ok (.return_, 1) := by decide +kernel
theorem dX0_remove_9 : decode cX0_remove 9 = .ok (.iconst 0, 1) := by decide +kernel
theorem dX0_remove_10 : decode cX0_remove 10 = .ok (.istore_n 2, 1) := by decide +kernel
theorem dX0_remove_11 : decode cX0_remove 11 = .ok (.iload_n 2, 1) := by decide +kernel
theorem dX0_remove_12 : decode cX0_remove 12 = .ok (.aload_n 0, 1) := by decide +kernel
theorem dX0_remove_13 : decode cX0_remove 13 = .ok (.getfield 30, 3) := by decide +kernel
theorem dX0_remove_16 : decode cX0_remove 16 = .ok (.if_icmp .ge 23, 3) := by decide +kernel
theorem dX0_remove_19 : decode cX0_remove 19 = .ok (.aload_n 0, 1) := by decide +kernel
theorem dX0_remove_20 : decode cX0_remove 20 = .ok (.iload_n 2, 1) := by decide +kernel
theorem dX0_remove_21 : decode cX0_remove 21 = .ok (.iload_n 1, 1) := by decide +kernel
theorem dX0_remove_22 : decode cX0_remove 22 = .ok (.invokevirtual 48, 3) := by decide +kernel
theorem dX0_remove_25 : decode cX0_remove 25 = .ok (.ifCond .eq 8, 3) := by decide +kernel
theorem dX0_remove_28 : decode cX0_remove 28 = .ok (.aload_n 0, 1) := by decide +kernel
theorem dX0_remove_29 : decode cX0_remove 29 = .ok (.iload_n 2, 1) := by decide +kernel
theorem dX0_remove_30 : decode cX0_remove 30 = .ok (.invokevirtual 52, 3) := by decide +kernel
theorem dX0_remove_33 : decode cX0_remove 33 = .ok (.iinc 2 1, 3) := by decide +kernel
theorem dX0_remove_36 : decode cX0_remove 36 = .ok (.goto (-25), 3) := by decide +kernel
theorem dX0_remove_39 : decode cX0_remove 39 = .ok (.iload_n 1, 1) := by decide +kernel
theorem dX0_remove_40 : decode cX0_remove 40 = .ok (.iconst 1, 1) := by decide +kernel
theorem dX0_remove_41 : decode cX0_remove 41 = .ok (.iadd, 1) := by decide +kernel
theorem dX0_remove_42 : decode cX0_remove 42 = .ok (.istore_n 2, 1) := by decide +kernel
theorem dX0_remove_43 : decode cX0_remove 43 = .ok (.iload_n 2, 1) := by decide +kernel
theorem dX0_remove_44 : decode cX0_remove 44 = .ok (.aload_n 0, 1) := by decide +kernel
theorem dX0_remove_45 : decode cX0_remove 45 = .ok (.getfield 30, 3) := by decide +kernel
theorem dX0_remove_48 : decode cX0_remove 48 = .ok (.if_icmp .ge 17, 3) := by decide +kernel
theorem dX0_remove_51 : decode cX0_remove 51 = .ok (.aload_n 0, 1) := by decide +kernel
theorem dX0_remove_52 : decode cX0_remove 52 = .ok (.iload_n 2, 1) := by decide +kernel
theorem dX0_remove_53 : decode cX0_remove 53 = .ok (.iload_n 2, 1) := by decide +kernel
theorem dX0_remove_54 : decode cX0_remove 54 = .ok (.iconst 1, 1) := by decide +kernel
theorem dX0_remove_55 : decode cX0_remove 55 = .ok (.isub, 1) := by decide +kernel
theorem dX0_remove_56 : decode cX0_remove 56 = .ok (.invokevirtual 56, 3) := by decide +kernel
theorem dX0_remove_59 : decode cX0_remove 59 = .ok (.iinc 2 1, 3) := by decide +kernel
theorem dX0_remove_62 : decode cX0_remove 62 = .ok (.goto (-19), 3) := by decide +kernel
theorem dX0_remove_65 : decode cX0_remove 65 = .ok (.aload_n 0, 1) := by decide +kernel
theorem dX0_remove_66 : decode cX0_remove 66 = .ok (.dup, 1) := by decide +kernel
theorem dX0_remove_67 : decode cX0_remove 67 = .ok (.getfield 30, 3) := by decide +kernel
theorem dX0_remove_70 : decode cX0_remove 70 = .ok (.iconst 1, 1) := by decide +kernel
theorem dX0_remove_71 : decode cX0_remove 71 = .ok (.isub, 1) := by decide +kernel
theorem dX0_remove_72 : decode cX0_remove 72 = .ok (.putfield 30, 3) := by decide +kernel
theorem dX0_remove_75 : decode cX0_remove 75 = .ok (.return_, 1) := by decide +kernel
set_option maxRecDepth 100000 in
set_option maxHeartbeats 4000000 in
theorem C_X0_remove (l : Launch) (E : gE) (x : gX) {o : Nat} (ho : gOk o) {v1 : Int32} {M : gM} {M' : gM} (hf : f_X0_remove o v1 M = some M') : gM0 l E yX0_remove (.code yX0_remove cX0_remove 3 none) (gR 2 43) M x [.ref (E.2.1 (o + 1)), .int v1] none M' := by
  refine gMet (by decide +kernel) (Nat.le_of_ble_eq_true rfl) ?_
  intro p e s m args below meth c H locs ls Q hC hl hI kr kv
  replace hC : gC p s m args c cX0_remove 3 RX0 E := hC
  replace hl : lv_has ls 3 [(0, .ref (E.2.1 (o + 1))), (1, .int v1)] := hl
  have hx := hC.1
  have hb := hC.2.1
  have L43 : ∀ (v1 : Int32) (n : Nat) (v2 : Int32) (M : gM), f_X0_remove_L43 o v1 n v2 M = some M' → ∀ (H : Heap) (locs : List Loc) (ls : Array Slot), gI E s M x H locs → lv_has ls 3 [(2, .int v2), (0, .ref (E.2.1 (o + 1))), (1, .int v1)] → W p l e (gR 2 43) s m args below meth c H locs 0 0 Q (F0 m 43 ls []) := by
    intro v1 n
    induction n with
    | zero => intro v2 M hf; rw [f_X0_remove_L43] at hf; cases hf
    | succ n ih =>
      intro v2 M hf H locs ls hI hl
      rw [f_X0_remove_L43] at hf
      refine lv_iload_n hx hb dX0_remove_43 rfl (lv_at hl 0 rfl) ?_
      refine lv_aload_n hx hb dX0_remove_44 rfl (lv_at hl 1 rfl) ?_
      refine gt_X0_X0_count hC hI ho dX0_remove_45 ?_
      refine lv_icmp_ge (tgt := 65) hx hb dX0_remove_48 rfl (fun h6 => ?_) (fun h6 => ?_)
      · replace hf := gif h6 hf
        refine lv_aload_n hx hb dX0_remove_65 rfl (lv_at hl 1 rfl) ?_
        refine lv_dup hx hb dX0_remove_66 rfl ?_
        refine gt_X0_X0_count hC hI ho dX0_remove_67 ?_
        refine lv_iconst (v := 1) hx hb dX0_remove_70 (by decide) ?_
        refine lv_isub hx hb dX0_remove_71 ?_
        obtain ⟨M7, eM7, hf⟩ := glet hf
        refine pt_X0_X0_count hC hI ho dX0_remove_72 (fun H locs hI => ?_)
        replace hI := g_mem eM7 hI
        exact kv _ _ _ _ _ (grv hf) hI rfl dX0_remove_75
      · replace hf := gifn h6 hf
        refine lv_aload_n hx hb dX0_remove_51 rfl (lv_at hl 1 rfl) ?_
        refine lv_iload_n hx hb dX0_remove_52 rfl (lv_at hl 0 rfl) ?_
        refine lv_iload_n hx hb dX0_remove_53 rfl (lv_at hl 0 rfl) ?_
        refine lv_iconst (v := 1) hx hb dX0_remove_54 (by decide) ?_
        refine lv_isub hx hb dX0_remove_55 ?_
        obtain ⟨r8, hr9, hf⟩ := gbind hf
        have hr9 := C_X0_copyRow l E x ho hr9
        refine g_callVv (rest := []) hC hI hr9 Y_X0_copyRow V_X0_copyRow w702 (rcv_X0 hC hI ho) ⟨rfl, rfl⟩ ⟨Nat.le_of_ble_eq_true rfl, Nat.le_of_ble_eq_true rfl⟩ rfl hl.1 rfl (Nat.le_of_ble_eq_true rfl) dX0_remove_56 ⟨Nat.zero_le _, Nat.zero_le _⟩ (fun H locs hI => ?_)
        refine lv_iinc (k := 0) (v := v2 + 1) (lv' := [(2, .int (v2 + 1)), (0, .ref (E.2.1 (o + 1))), (1, .int v1)]) hx hb dX0_remove_59 hl rfl rfl (by decide) rfl (fun ls hl => ?_)
        refine lv_goto (tgt := 43) hx hb dX0_remove_62 rfl ?_
        exact ih (v2 + 1) r8 hf _ _ _ hI (lv_sub hl [0, 1, 2] rfl)
  have L11 : ∀ (v1 : Int32) (n : Nat) (v2 : Int32) (M : gM), f_X0_remove_L11 o v1 n v2 M = some M' → ∀ (H : Heap) (locs : List Loc) (ls : Array Slot), gI E s M x H locs → lv_has ls 3 [(2, .int v2), (0, .ref (E.2.1 (o + 1))), (1, .int v1)] → W p l e (gR 2 43) s m args below meth c H locs 0 0 Q (F0 m 11 ls []) := by
    intro v1 n
    induction n with
    | zero => intro v2 M hf; rw [f_X0_remove_L11] at hf; cases hf
    | succ n ih =>
      intro v2 M hf H locs ls hI hl
      rw [f_X0_remove_L11] at hf
      refine lv_iload_n hx hb dX0_remove_11 rfl (lv_at hl 0 rfl) ?_
      refine lv_aload_n hx hb dX0_remove_12 rfl (lv_at hl 1 rfl) ?_
      refine gt_X0_X0_count hC hI ho dX0_remove_13 ?_
      refine lv_icmp_ge (tgt := 39) hx hb dX0_remove_16 rfl (fun h4 => ?_) (fun h4 => ?_)
      · replace hf := gif h4 hf
        refine lv_iload_n hx hb dX0_remove_39 rfl (lv_at hl 2 rfl) ?_
        refine lv_iconst (v := 1) hx hb dX0_remove_40 (by decide) ?_
        refine lv_iadd hx hb dX0_remove_41 ?_
        obtain ⟨z5, ez5, hf⟩ := glet hf
        refine g_top ez5 ?_
        refine lv_istore_n (lv' := [(2, .int z5), (0, .ref (E.2.1 (o + 1))), (1, .int v1)]) hx hb dX0_remove_42 rfl hl (by decide) rfl (fun ls hl => ?_)
        exact L43 v1 gF z5 M hf _ _ _ hI (lv_sub hl [0, 1, 2] rfl)
      · replace hf := gifn h4 hf
        refine lv_aload_n hx hb dX0_remove_19 rfl (lv_at hl 1 rfl) ?_
        refine lv_iload_n hx hb dX0_remove_20 rfl (lv_at hl 0 rfl) ?_
        refine lv_iload_n hx hb dX0_remove_21 rfl (lv_at hl 2 rfl) ?_
        obtain ⟨r10, hr11, hf⟩ := gbind hf
        have hr11 := C_X0_isAbove l E x ho hr11
        refine g_callVi (rest := []) hC hI hr11 Y_X0_isAbove V_X0_isAbove w400 (rcv_X0 hC hI ho) ⟨rfl, rfl⟩ ⟨Nat.le_of_ble_eq_true rfl, Nat.le_of_ble_eq_true rfl⟩ rfl hl.1 rfl (Nat.le_of_ble_eq_true rfl) dX0_remove_22 ⟨Nat.zero_le _, Nat.zero_le _⟩ (fun H locs hI => ?_)
        refine lv_if_eq (tgt := 33) hx hb dX0_remove_25 rfl (fun h12 => ?_) (fun h12 => ?_)
        · replace hf := gif h12 hf
          refine lv_iinc (k := 0) (v := v2 + 1) (lv' := [(2, .int (v2 + 1)), (0, .ref (E.2.1 (o + 1))), (1, .int v1)]) hx hb dX0_remove_33 hl rfl rfl (by decide) rfl (fun ls hl => ?_)
          refine lv_goto (tgt := 11) hx hb dX0_remove_36 rfl ?_
          exact ih (v2 + 1) M hf _ _ _ hI (lv_sub hl [0, 1, 2] rfl)
        · replace hf := gifn h12 hf
          refine lv_aload_n hx hb dX0_remove_28 rfl (lv_at hl 1 rfl) ?_
          refine lv_iload_n hx hb dX0_remove_29 rfl (lv_at hl 0 rfl) ?_
          obtain ⟨r13, hr14, hf⟩ := gbind hf
          have hr14 := C_X0_lower l E x ho hr14
          refine g_callVv (rest := []) hC hI hr14 Y_X0_lower V_X0_lower w698 (rcv_X0 hC hI ho) ⟨rfl, rfl⟩ ⟨Nat.le_of_ble_eq_true rfl, Nat.le_of_ble_eq_true rfl⟩ rfl hl.1 rfl (Nat.le_of_ble_eq_true rfl) dX0_remove_30 ⟨Nat.zero_le _, Nat.zero_le _⟩ (fun H locs hI => ?_)
          refine lv_iinc (k := 0) (v := v2 + 1) (lv' := [(2, .int (v2 + 1)), (0, .ref (E.2.1 (o + 1))), (1, .int v1)]) hx hb dX0_remove_33 hl rfl rfl (by decide) rfl (fun ls hl => ?_)
          refine lv_goto (tgt := 11) hx hb dX0_remove_36 rfl ?_
          exact ih (v2 + 1) r13 hf _ _ _ hI (lv_sub hl [0, 1, 2] rfl)
  unfold f_X0_remove at hf
  refine lv_aload_n hx hb dX0_remove_0 rfl (lv_at hl 0 rfl) ?_
  refine lv_iload_n hx hb dX0_remove_1 rfl (lv_at hl 1 rfl) ?_
  obtain ⟨r1, hr2, hf⟩ := gbind hf
  have hr2 := C_X0_hasRow l E x ho hr2
  refine g_callVi (rest := []) hC hI hr2 Y_X0_hasRow V_X0_hasRow w267 (rcv_X0 hC hI ho) ⟨rfl, rfl⟩ ⟨Nat.le_of_ble_eq_true rfl, Nat.le_of_ble_eq_true rfl⟩ rfl hl.1 rfl (Nat.le_of_ble_eq_true rfl) dX0_remove_2 ⟨Nat.zero_le _, Nat.zero_le _⟩ (fun H locs hI => ?_)
  refine lv_if_ne (tgt := 9) hx hb dX0_remove_5 rfl (fun h3 => ?_) (fun h3 => ?_)
  · replace hf := gifn h3 hf
    refine lv_iconst (v := 0) hx hb dX0_remove_9 (by decide) ?_
    refine lv_istore_n (lv' := [(2, .int 0), (0, .ref (E.2.1 (o + 1))), (1, .int v1)]) hx hb dX0_remove_10 rfl hl (by decide) rfl (fun ls hl => ?_)
    exact L11 v1 gF 0 M hf _ _ _ hI (lv_sub hl [0, 1, 2] rfl)
  · replace hf := gif h3 hf
    exact kv _ _ _ _ _ (grv hf) hI rfl dX0_remove_8
theorem dX0_answer_0 : decode cX0_answer 0 = .ok (.aload_n 0, 1) := by decide +kernel
theorem dX0_answer_1 : decode cX0_answer 1 = .ok (.iload_n 1, 1) := by decide +kernel
theorem dX0_answer_2 : decode cX0_answer 2 = .ok (.invokevirtual 60, 3) := by decide +kernel
theorem dX0_answer_5 : decode cX0_answer 5 = .ok (.bipush 7, 2) := by decide +kernel
theorem dX0_answer_7 : decode cX0_answer 7 = .ok (.imul, 1) := by decide +kernel
theorem dX0_answer_8 : decode cX0_answer 8 = .ok (.aload_n 0, 1) := by decide +kernel
theorem dX0_answer_9 : decode cX0_answer 9 = .ok (.iload_n 1, 1) := by decide +kernel
theorem dX0_answer_10 : decode cX0_answer 10 = .ok (.invokevirtual 63, 3) := by decide +kernel
theorem dX0_answer_13 : decode cX0_answer 13 = .ok (.iadd, 1) := by decide +kernel
theorem dX0_answer_14 : decode cX0_answer 14 = .ok (.bipush 10, 2) := by decide +kernel
theorem dX0_answer_16 : decode cX0_answer 16 = .ok (.irem, 1) := by decide +kernel
theorem dX0_answer_17 : decode cX0_answer 17 = .ok (.ireturn, 1) := by decide +kernel
set_option maxRecDepth 100000 in
set_option maxHeartbeats 4000000 in
theorem C_X0_answer (l : Launch) (E : gE) (x : gX) {o : Nat} (ho : gOk o) {v1 : Int32} {M : gM} {r : Int32} (hf : f_X0_answer o v1 M = some r) : gM0 l E yX0_answer (.code yX0_answer cX0_answer 2 (some .int)) (gR 2 42) M x [.ref (E.2.1 (o + 1)), .int v1] (some (.int r)) M := by
  refine gMet (by decide +kernel) (Nat.le_of_ble_eq_true rfl) ?_
  intro p e s m args below meth c H locs ls Q hC hl hI kr kv
  replace hC : gC p s m args c cX0_answer 2 RX0 E := hC
  replace hl : lv_has ls 2 [(0, .ref (E.2.1 (o + 1))), (1, .int v1)] := hl
  have hx := hC.1
  have hb := hC.2.1
  unfold f_X0_answer at hf
  refine lv_aload_n hx hb dX0_answer_0 rfl (lv_at hl 0 rfl) ?_
  refine lv_iload_n hx hb dX0_answer_1 rfl (lv_at hl 1 rfl) ?_
  obtain ⟨r1, hr2, hf⟩ := gbind hf
  have hr2 := C_X0_key l E x ho hr2
  refine g_callVi (rest := []) hC hI hr2 Y_X0_key V_X0_key w291 (rcv_X0 hC hI ho) ⟨rfl, rfl⟩ ⟨Nat.le_of_ble_eq_true rfl, Nat.le_of_ble_eq_true rfl⟩ rfl hl.1 rfl (Nat.le_of_ble_eq_true rfl) dX0_answer_2 ⟨Nat.zero_le _, Nat.zero_le _⟩ (fun H locs hI => ?_)
  refine lv_bipush (v := 7) hx hb dX0_answer_5 (by decide) ?_
  refine lv_imul hx hb dX0_answer_7 ?_
  refine lv_aload_n hx hb dX0_answer_8 rfl (lv_at hl 0 rfl) ?_
  refine lv_iload_n hx hb dX0_answer_9 rfl (lv_at hl 1 rfl) ?_
  obtain ⟨r3, hr4, hf⟩ := gbind hf
  have hr4 := C_X0_weight l E x ho hr4
  refine g_callVi (rest := [.int (r1 * 7)]) hC hI hr4 Y_X0_weight V_X0_weight w307 (rcv_X0 hC hI ho) ⟨rfl, rfl⟩ ⟨Nat.le_of_ble_eq_true rfl, Nat.le_of_ble_eq_true rfl⟩ rfl hl.1 rfl (Nat.le_of_ble_eq_true rfl) dX0_answer_10 ⟨Nat.zero_le _, Nat.zero_le _⟩ (fun H locs hI => ?_)
  refine lv_iadd hx hb dX0_answer_13 ?_
  refine lv_bipush (v := 10) hx hb dX0_answer_14 (by decide) ?_
  refine lv_irem hx hb dX0_answer_16 (by decide) ?_
  exact kr _ _ _ _ _ _ (gri hf) hI ⟨.int, rfl, rfl⟩ dX0_answer_17
theorem dX0_level_0 : decode cX0_level 0 = .ok (.aload_n 0, 1) := by decide +kernel
theorem dX0_level_1 : decode cX0_level 1 = .ok (.iload_n 1, 1) := by decide +kernel
theorem dX0_level_2 : decode cX0_level 2 = .ok (.invokevirtual 44, 3) := by decide +kernel
theorem dX0_level_5 : decode cX0_level 5 = .ok (.ifCond .eq 12, 3) := by decide +kernel
theorem dX0_level_8 : decode cX0_level 8 = .ok (.aload_n 0, 1) := by decide +kernel
theorem dX0_level_9 : decode cX0_level 9 = .ok (.getfield 24, 3) := by decide +kernel
theorem dX0_level_12 : decode cX0_level 12 = .ok (.iload_n 1, 1) := by decide +kernel
theorem dX0_level_13 : decode cX0_level 13 = .ok (.iaload, 1) := by decide +kernel
theorem dX0_level_14 : decode cX0_level 14 = .ok (.goto 4, 3) := by decide +kernel
theorem dX0_level_17 : decode cX0_level 17 = .ok (.iconst (-1), 1) := by decide +kernel
theorem dX0_level_18 : decode cX0_level 18 = .ok (.ireturn, 1) := by decide +kernel
set_option maxRecDepth 100000 in
set_option maxHeartbeats 4000000 in
theorem C_X0_level (l : Launch) (E : gE) (x : gX) {o : Nat} (ho : gOk o) {v1 : Int32} {M : gM} {r : Int32} (hf : f_X0_level o v1 M = some r) : gM0 l E yX0_level (.code yX0_level cX0_level 2 (some .int)) (gR 1 21) M x [.ref (E.2.1 (o + 1)), .int v1] (some (.int r)) M := by
  refine gMet (by decide +kernel) (Nat.le_of_ble_eq_true rfl) ?_
  intro p e s m args below meth c H locs ls Q hC hl hI kr kv
  replace hC : gC p s m args c cX0_level 2 RX0 E := hC
  replace hl : lv_has ls 2 [(0, .ref (E.2.1 (o + 1))), (1, .int v1)] := hl
  have hx := hC.1
  have hb := hC.2.1
  unfold f_X0_level at hf
  refine lv_aload_n hx hb dX0_level_0 rfl (lv_at hl 0 rfl) ?_
  refine lv_iload_n hx hb dX0_level_1 rfl (lv_at hl 1 rfl) ?_
  obtain ⟨r1, hr2, hf⟩ := gbind hf
  have hr2 := C_X0_hasRow l E x ho hr2
  refine g_callVi (rest := []) hC hI hr2 Y_X0_hasRow V_X0_hasRow w267 (rcv_X0 hC hI ho) ⟨rfl, rfl⟩ ⟨Nat.le_of_ble_eq_true rfl, Nat.le_of_ble_eq_true rfl⟩ rfl hl.1 rfl (Nat.le_of_ble_eq_true rfl) dX0_level_2 ⟨Nat.zero_le _, Nat.zero_le _⟩ (fun H locs hI => ?_)
  refine lv_if_eq (tgt := 17) hx hb dX0_level_5 rfl (fun h3 => ?_) (fun h3 => ?_)
  · replace hf := gif h3 hf
    refine lv_iconst (v := (-1)) hx hb dX0_level_17 (by decide) ?_
    exact kr _ _ _ _ _ _ (gri hf) hI ⟨.int, rfl, rfl⟩ dX0_level_18
  · replace hf := gifn h3 hf
    refine lv_aload_n hx hb dX0_level_8 rfl (lv_at hl 0 rfl) ?_
    refine gt_X0_X0_levels hC hI ho dX0_level_9 ?_
    refine lv_iload_n hx hb dX0_level_12 rfl (lv_at hl 1 rfl) ?_
    obtain ⟨h4, hf⟩ := gifN hf
    refine g_iald hC hI (k := v1.toNatClampNeg) (gIA_6 ho) h4 rfl dX0_level_13 ?_
    refine lv_goto (tgt := 18) hx hb dX0_level_14 rfl ?_
    exact kr _ _ _ _ _ _ (gri hf) hI ⟨.int, rfl, rfl⟩ dX0_level_18
theorem dX0_topRow_0 : decode cX0_topRow 0 = .ok (.aload_n 0, 1) := by decide +kernel
theorem dX0_topRow_1 : decode cX0_topRow 1 = .ok (.iload_n 1, 1) := by decide +kernel
theorem dX0_topRow_2 : decode cX0_topRow 2 = .ok (.aload_n 0, 1) := by decide +kernel
theorem dX0_topRow_3 : decode cX0_topRow 3 = .ok (.iload_n 1, 1) := by decide +kernel
theorem dX0_topRow_4 : decode cX0_topRow 4 = .ok (.invokevirtual 40, 3) := by decide +kernel
theorem dX0_topRow_7 : decode cX0_topRow 7 = .ok (.iconst 1, 1) := by decide +kernel
theorem dX0_topRow_8 : decode cX0_topRow 8 = .ok (.isub, 1) := by decide +kernel
theorem dX0_topRow_9 : decode cX0_topRow 9 = .ok (.invokevirtual 72, 3) := by decide +kernel
theorem dX0_topRow_12 : decode cX0_topRow 12 = .ok (.ireturn, 1) := by decide +kernel
set_option maxRecDepth 100000 in
set_option maxHeartbeats 4000000 in
theorem C_X0_topRow (l : Launch) (E : gE) (x : gX) {o : Nat} (ho : gOk o) {v1 : Int32} {M : gM} {r : Int32} (hf : f_X0_topRow o v1 M = some r) : gM0 l E yX0_topRow (.code yX0_topRow cX0_topRow 2 (some .int)) (gR 1 23) M x [.ref (E.2.1 (o + 1)), .int v1] (some (.int r)) M := by
  refine gMet (by decide +kernel) (Nat.le_of_ble_eq_true rfl) ?_
  intro p e s m args below meth c H locs ls Q hC hl hI kr kv
  replace hC : gC p s m args c cX0_topRow 2 RX0 E := hC
  replace hl : lv_has ls 2 [(0, .ref (E.2.1 (o + 1))), (1, .int v1)] := hl
  have hx := hC.1
  have hb := hC.2.1
  unfold f_X0_topRow at hf
  refine lv_aload_n hx hb dX0_topRow_0 rfl (lv_at hl 0 rfl) ?_
  refine lv_iload_n hx hb dX0_topRow_1 rfl (lv_at hl 1 rfl) ?_
  refine lv_aload_n hx hb dX0_topRow_2 rfl (lv_at hl 0 rfl) ?_
  refine lv_iload_n hx hb dX0_topRow_3 rfl (lv_at hl 1 rfl) ?_
  obtain ⟨r1, hr2, hf⟩ := gbind hf
  have hr2 := C_X0_height l E x ho hr2
  refine g_callVi (rest := [.int v1, .ref (E.2.1 (o + 1))]) hC hI hr2 Y_X0_height V_X0_height w412 (rcv_X0 hC hI ho) ⟨rfl, rfl⟩ ⟨Nat.le_of_ble_eq_true rfl, Nat.le_of_ble_eq_true rfl⟩ rfl hl.1 rfl (Nat.le_of_ble_eq_true rfl) dX0_topRow_4 ⟨Nat.zero_le _, Nat.zero_le _⟩ (fun H locs hI => ?_)
  refine lv_iconst (v := 1) hx hb dX0_topRow_7 (by decide) ?_
  refine lv_isub hx hb dX0_topRow_8 ?_
  obtain ⟨r3, hr4, hf⟩ := gbind hf
  have hr4 := C_X0_rowAt l E x ho hr4
  refine g_callVi (rest := []) hC hI hr4 Y_X0_rowAt V_X0_rowAt w366 (rcv_X0 hC hI ho) ⟨rfl, rfl⟩ ⟨Nat.le_of_ble_eq_true rfl, Nat.le_of_ble_eq_true rfl⟩ rfl hl.1 rfl (Nat.le_of_ble_eq_true rfl) dX0_topRow_9 ⟨Nat.zero_le _, Nat.zero_le _⟩ (fun H locs hI => ?_)
  exact kr _ _ _ _ _ _ (gri hf) hI ⟨.int, rfl, rfl⟩ dX0_topRow_12
theorem dX0_heaviestRowAbove_0 : decode cX0_heaviestRowAbove 0 = .ok (.iconst (-1), 1) := by decide +kernel
theorem dX0_heaviestRowAbove_1 : decode cX0_heaviestRowAbove 1 = .ok (.istore_n 2, 1) := by decide +kernel
theorem dX0_heaviestRowAbove_2 : decode cX0_heaviestRowAbove 2 = .ok (.iconst 0, 1) := by decide +kernel
theorem dX0_heaviestRowAbove_3 : decode cX0_heaviestRowAbove 3 = .ok (.istore_n 3, 1) := by decide +kernel
theorem dX0_heaviestRowAbove_4 : decode cX0_heaviestRowAbove 4 = .ok (.iload_n 3, 1) := by decide +kernel
theorem dX0_heaviestRowAbove_5 : decode cX0_heaviestRowAbove 5 = .ok (.aload_n 0, 1) := by decide +kernel
theorem dX0_heaviestRowAbove_6 : decode cX0_heaviestRowAbove 6 = .ok (.getfield 30, 3) := by decide +kernel
theorem dX0_heaviestRowAbove_9 : decode cX0_heaviestRowAbove 9 = .ok (.if_icmp .ge 38, 3) := by decide +kernel
theorem dX0_heaviestRowAbove_12 : decode cX0_heaviestRowAbove 12 = .ok (.aload_n 0, 1) := by decide +kernel
theorem dX0_heaviestRowAbove_13 : decode cX0_heaviestRowAbove 13 = .ok (.iload_n 3, 1) := by decide +kernel
theorem dX0_heaviestRowAbove_14 : decode cX0_heaviestRowAbove 14 = .ok (.iload_n 1, 1) := by decide +kernel
theorem dX0_heaviestRowAbove_15 : decode cX0_heaviestRowAbove 15 = .ok (.invokevirtual 48, 3) := by decide +kernel
theorem dX0_heaviestRowAbove_18 : decode cX0_heaviestRowAbove 18 = .ok (.ifCond .eq 23, 3) := by decide +kernel
theorem dX0_heaviestRowAbove_21 : decode cX0_heaviestRowAbove 21 = .ok (.iload_n 2, 1) := by decide +kernel
theorem dX0_heaviestRowAbove_22 : decode cX0_heaviestRowAbove 22 = .ok (.iconst (-1), 1) := by decide +kernel
theorem dX0_heaviestRowAbove_23 : decode cX0_heaviestRowAbove 23 = .ok (.if_icmp .eq 16, 3) := by decide +kernel
theorem dX0_heaviestRowAbove_26 : decode cX0_heaviestRowAbove 26 = .ok (.aload_n 0, 1) := by decide +kernel
theorem dX0_heaviestRowAbove_27 : decode cX0_heaviestRowAbove 27 = .ok (.iload_n 3, 1) := by decide +kernel
theorem dX0_heaviestRowAbove_28 : decode cX0_heaviestRowAbove 28 = .ok (.invokevirtual 63, 3) := by decide +kernel
theorem dX0_heaviestRowAbove_31 : decode cX0_heaviestRowAbove 31 = .ok (.aload_n 0, 1) := by decide +kernel
theorem dX0_heaviestRowAbove_32 : decode cX0_heaviestRowAbove 32 = .ok (.iload_n 2, 1) := by decide +kernel
theorem dX0_heaviestRowAbove_33 : decode cX0_heaviestRowAbove 33 = .ok (.invokevirtual 63, 3) := by decide +kernel
theorem dX0_heaviestRowAbove_36 : decode cX0_heaviestRowAbove 36 = .ok (.if_icmp .le 5, 3) := by decide +kernel
theorem dX0_heaviestRowAbove_39 : decode cX0_heaviestRowAbove 39 = .ok (.iload_n 3, 1) := by decide +kernel
theorem dX0_heaviestRowAbove_40 : decode cX0_heaviestRowAbove 40 = .ok (.istore_n 2, 1) := by decide +kernel
theorem dX0_heaviestRowAbove_41 : decode cX0_heaviestRowAbove 41 = .ok (.iinc 3 1, 3) := by decide +kernel
theorem dX0_heaviestRowAbove_44 : decode cX0_heaviestRowAbove 44 = .ok (.goto (-40), 3) := by decide +kernel
theorem dX0_heaviestRowAbove_47 : decode cX0_heaviestRowAbove 47 = .ok (.iload_n 2, 1) := by decide +kernel
theorem dX0_heaviestRowAbove_48 : decode cX0_heaviestRowAbove 48 = .ok (.ireturn, 1) := by decide +kernel
set_option maxRecDepth 100000 in
set_option maxHeartbeats 4000000 in
theorem C_X0_heaviestRowAbove (l : Launch) (E : gE) (x : gX) {o : Nat} (ho : gOk o) {v1 : Int32} {M : gM} {r : Int32} (hf : f_X0_heaviestRowAbove o v1 M = some r) : gM0 l E yX0_heaviestRowAbove (.code yX0_heaviestRowAbove cX0_heaviestRowAbove 4 (some .int)) (gR 2 43) M x [.ref (E.2.1 (o + 1)), .int v1] (some (.int r)) M := by
  refine gMet (by decide +kernel) (Nat.le_of_ble_eq_true rfl) ?_
  intro p e s m args below meth c H locs ls Q hC hl hI kr kv
  replace hC : gC p s m args c cX0_heaviestRowAbove 4 RX0 E := hC
  replace hl : lv_has ls 4 [(0, .ref (E.2.1 (o + 1))), (1, .int v1)] := hl
  have hx := hC.1
  have hb := hC.2.1
  have L4 : ∀ (v1 : Int32) (n : Nat) (v3 : Int32) (v2 : Int32), f_X0_heaviestRowAbove_L4 o M v1 n v3 v2 = some r → ∀ (H : Heap) (locs : List Loc) (ls : Array Slot), gI E s M x H locs → lv_has ls 4 [(3, .int v3), (2, .int v2), (0, .ref (E.2.1 (o + 1))), (1, .int v1)] → W p l e (gR 2 43) s m args below meth c H locs 0 0 Q (F0 m 4 ls []) := by
    intro v1 n
    induction n with
    | zero => intro v3 v2 hf; rw [f_X0_heaviestRowAbove_L4] at hf; cases hf
    | succ n ih =>
      intro v3 v2 hf H locs ls hI hl
      rw [f_X0_heaviestRowAbove_L4] at hf
      refine lv_iload_n hx hb dX0_heaviestRowAbove_4 rfl (lv_at hl 0 rfl) ?_
      refine lv_aload_n hx hb dX0_heaviestRowAbove_5 rfl (lv_at hl 2 rfl) ?_
      refine gt_X0_X0_count hC hI ho dX0_heaviestRowAbove_6 ?_
      refine lv_icmp_ge (tgt := 47) hx hb dX0_heaviestRowAbove_9 rfl (fun h1 => ?_) (fun h1 => ?_)
      · replace hf := gif h1 hf
        refine lv_iload_n hx hb dX0_heaviestRowAbove_47 rfl (lv_at hl 1 rfl) ?_
        exact kr _ _ _ _ _ _ (gri hf) hI ⟨.int, rfl, rfl⟩ dX0_heaviestRowAbove_48
      · replace hf := gifn h1 hf
        refine lv_aload_n hx hb dX0_heaviestRowAbove_12 rfl (lv_at hl 2 rfl) ?_
        refine lv_iload_n hx hb dX0_heaviestRowAbove_13 rfl (lv_at hl 0 rfl) ?_
        refine lv_iload_n hx hb dX0_heaviestRowAbove_14 rfl (lv_at hl 3 rfl) ?_
        obtain ⟨r2, hr3, hf⟩ := gbind hf
        have hr3 := C_X0_isAbove l E x ho hr3
        refine g_callVi (rest := []) hC hI hr3 Y_X0_isAbove V_X0_isAbove w400 (rcv_X0 hC hI ho) ⟨rfl, rfl⟩ ⟨Nat.le_of_ble_eq_true rfl, Nat.le_of_ble_eq_true rfl⟩ rfl hl.1 rfl (Nat.le_of_ble_eq_true rfl) dX0_heaviestRowAbove_15 ⟨Nat.zero_le _, Nat.zero_le _⟩ (fun H locs hI => ?_)
        refine lv_if_eq (tgt := 41) hx hb dX0_heaviestRowAbove_18 rfl (fun h4 => ?_) (fun h4 => ?_)
        · replace hf := gif h4 hf
          refine lv_iinc (k := 0) (v := v3 + 1) (lv' := [(3, .int (v3 + 1)), (2, .int v2), (0, .ref (E.2.1 (o + 1))), (1, .int v1)]) hx hb dX0_heaviestRowAbove_41 hl rfl rfl (by decide) rfl (fun ls hl => ?_)
          refine lv_goto (tgt := 4) hx hb dX0_heaviestRowAbove_44 rfl ?_
          exact ih (v3 + 1) v2 hf _ _ _ hI (lv_sub hl [0, 1, 2, 3] rfl)
        · replace hf := gifn h4 hf
          refine lv_iload_n hx hb dX0_heaviestRowAbove_21 rfl (lv_at hl 1 rfl) ?_
          refine lv_iconst (v := (-1)) hx hb dX0_heaviestRowAbove_22 (by decide) ?_
          refine lv_icmp_eq (tgt := 39) hx hb dX0_heaviestRowAbove_23 rfl (fun h5 => ?_) (fun h5 => ?_)
          · replace hf := gif h5 hf
            refine lv_iload_n hx hb dX0_heaviestRowAbove_39 rfl (lv_at hl 0 rfl) ?_
            refine lv_istore_n (lv' := [(2, .int v3), (3, .int v3), (0, .ref (E.2.1 (o + 1))), (1, .int v1)]) hx hb dX0_heaviestRowAbove_40 rfl hl (by decide) rfl (fun ls hl => ?_)
            refine lv_iinc (k := 1) (v := v3 + 1) (lv' := [(3, .int (v3 + 1)), (2, .int v3), (0, .ref (E.2.1 (o + 1))), (1, .int v1)]) hx hb dX0_heaviestRowAbove_41 hl rfl rfl (by decide) rfl (fun ls hl => ?_)
            refine lv_goto (tgt := 4) hx hb dX0_heaviestRowAbove_44 rfl ?_
            exact ih (v3 + 1) v3 hf _ _ _ hI (lv_sub hl [0, 1, 2, 3] rfl)
          · replace hf := gifn h5 hf
            refine lv_aload_n hx hb dX0_heaviestRowAbove_26 rfl (lv_at hl 2 rfl) ?_
            refine lv_iload_n hx hb dX0_heaviestRowAbove_27 rfl (lv_at hl 0 rfl) ?_
            obtain ⟨r6, hr7, hf⟩ := gbind hf
            have hr7 := C_X0_weight l E x ho hr7
            refine g_callVi (rest := []) hC hI hr7 Y_X0_weight V_X0_weight w307 (rcv_X0 hC hI ho) ⟨rfl, rfl⟩ ⟨Nat.le_of_ble_eq_true rfl, Nat.le_of_ble_eq_true rfl⟩ rfl hl.1 rfl (Nat.le_of_ble_eq_true rfl) dX0_heaviestRowAbove_28 ⟨Nat.zero_le _, Nat.zero_le _⟩ (fun H locs hI => ?_)
            refine lv_aload_n hx hb dX0_heaviestRowAbove_31 rfl (lv_at hl 2 rfl) ?_
            refine lv_iload_n hx hb dX0_heaviestRowAbove_32 rfl (lv_at hl 1 rfl) ?_
            obtain ⟨r8, hr9, hf⟩ := gbind hf
            have hr9 := C_X0_weight l E x ho hr9
            refine g_callVi (rest := [.int r6]) hC hI hr9 Y_X0_weight V_X0_weight w307 (rcv_X0 hC hI ho) ⟨rfl, rfl⟩ ⟨Nat.le_of_ble_eq_true rfl, Nat.le_of_ble_eq_true rfl⟩ rfl hl.1 rfl (Nat.le_of_ble_eq_true rfl) dX0_heaviestRowAbove_33 ⟨Nat.zero_le _, Nat.zero_le _⟩ (fun H locs hI => ?_)
            refine lv_icmp_le (tgt := 41) hx hb dX0_heaviestRowAbove_36 rfl (fun h10 => ?_) (fun h10 => ?_)
            · replace hf := gif h10 hf
              refine lv_iinc (k := 0) (v := v3 + 1) (lv' := [(3, .int (v3 + 1)), (2, .int v2), (0, .ref (E.2.1 (o + 1))), (1, .int v1)]) hx hb dX0_heaviestRowAbove_41 hl rfl rfl (by decide) rfl (fun ls hl => ?_)
              refine lv_goto (tgt := 4) hx hb dX0_heaviestRowAbove_44 rfl ?_
              exact ih (v3 + 1) v2 hf _ _ _ hI (lv_sub hl [0, 1, 2, 3] rfl)
            · replace hf := gifn h10 hf
              refine lv_iload_n hx hb dX0_heaviestRowAbove_39 rfl (lv_at hl 0 rfl) ?_
              refine lv_istore_n (lv' := [(2, .int v3), (3, .int v3), (0, .ref (E.2.1 (o + 1))), (1, .int v1)]) hx hb dX0_heaviestRowAbove_40 rfl hl (by decide) rfl (fun ls hl => ?_)
              refine lv_iinc (k := 1) (v := v3 + 1) (lv' := [(3, .int (v3 + 1)), (2, .int v3), (0, .ref (E.2.1 (o + 1))), (1, .int v1)]) hx hb dX0_heaviestRowAbove_41 hl rfl rfl (by decide) rfl (fun ls hl => ?_)
              refine lv_goto (tgt := 4) hx hb dX0_heaviestRowAbove_44 rfl ?_
              exact ih (v3 + 1) v3 hf _ _ _ hI (lv_sub hl [0, 1, 2, 3] rfl)
  unfold f_X0_heaviestRowAbove at hf
  refine lv_iconst (v := (-1)) hx hb dX0_heaviestRowAbove_0 (by decide) ?_
  refine lv_istore_n (lv' := [(2, .int (-1)), (0, .ref (E.2.1 (o + 1))), (1, .int v1)]) hx hb dX0_heaviestRowAbove_1 rfl hl (by decide) rfl (fun ls hl => ?_)
  refine lv_iconst (v := 0) hx hb dX0_heaviestRowAbove_2 (by decide) ?_
  refine lv_istore_n (lv' := [(3, .int 0), (2, .int (-1)), (0, .ref (E.2.1 (o + 1))), (1, .int v1)]) hx hb dX0_heaviestRowAbove_3 rfl hl (by decide) rfl (fun ls hl => ?_)
  exact L4 v1 gF 0 (-1) hf _ _ _ hI (lv_sub hl [0, 1, 2, 3] rfl)
theorem dX0_lowestStack_0 : decode cX0_lowestStack 0 = .ok (.iconst 0, 1) := by decide +kernel
theorem dX0_lowestStack_1 : decode cX0_lowestStack 1 = .ok (.istore_n 2, 1) := by decide +kernel
theorem dX0_lowestStack_2 : decode cX0_lowestStack 2 = .ok (.iconst 1, 1) := by decide +kernel
theorem dX0_lowestStack_3 : decode cX0_lowestStack 3 = .ok (.istore_n 3, 1) := by decide +kernel
theorem dX0_lowestStack_4 : decode cX0_lowestStack 4 = .ok (.iload_n 3, 1) := by decide +kernel
theorem dX0_lowestStack_5 : decode cX0_lowestStack 5 = .ok (.iconst 4, 1) := by decide +kernel
theorem dX0_lowestStack_6 : decode cX0_lowestStack 6 = .ok (.if_icmp .ge 32, 3) := by decide +kernel
theorem dX0_lowestStack_9 : decode cX0_lowestStack 9 = .ok (.aload_n 0, 1) := by decide +kernel
theorem dX0_lowestStack_10 : decode cX0_lowestStack 10 = .ok (.iload_n 1, 1) := by decide +kernel
theorem dX0_lowestStack_11 : decode cX0_lowestStack 11 = .ok (.iload_n 3, 1) := by decide +kernel
theorem dX0_lowestStack_12 : decode cX0_lowestStack 12 = .ok (.invokestatic 76, 3) := by decide +kernel
theorem dX0_lowestStack_15 : decode cX0_lowestStack 15 = .ok (.invokevirtual 40, 3) := by decide +kernel
theorem dX0_lowestStack_18 : decode cX0_lowestStack 18 = .ok (.aload_n 0, 1) := by decide +kernel
theorem dX0_lowestStack_19 : decode cX0_lowestStack 19 = .ok (.iload_n 1, 1) := by decide +kernel
theorem dX0_lowestStack_20 : decode cX0_lowestStack 20 = .ok (.iload_n 2, 1) := by decide +kernel
theorem dX0_lowestStack_21 : decode cX0_lowestStack 21 = .ok (.invokestatic 76, 3) := by decide +kernel
theorem dX0_lowestStack_24 : decode cX0_lowestStack 24 = .ok (.invokevirtual 40, 3) := by decide +kernel
theorem dX0_lowestStack_27 : decode cX0_lowestStack 27 = .ok (.if_icmp .ge 5, 3) := by decide +kernel
theorem dX0_lowestStack_30 : decode cX0_lowestStack 30 = .ok (.iload_n 3, 1) := by decide +kernel
theorem dX0_lowestStack_31 : decode cX0_lowestStack 31 = .ok (.istore_n 2, 1) := by decide +kernel
theorem dX0_lowestStack_32 : decode cX0_lowestStack 32 = .ok (.iinc 3 1, 3) := by decide +kernel
theorem dX0_lowestStack_35 : decode cX0_lowestStack 35 = .ok (.goto (-31), 3) := by decide +kernel
theorem dX0_lowestStack_38 : decode cX0_lowestStack 38 = .ok (.iload_n 2, 1) := by decide +kernel
theorem dX0_lowestStack_39 : decode cX0_lowestStack 39 = .ok (.ireturn, 1) := by decide +kernel
set_option maxRecDepth 100000 in
set_option maxHeartbeats 4000000 in
theorem C_X0_lowestStack (l : Launch) (E : gE) (x : gX) {o : Nat} (ho : gOk o) {v1 : Int32} {M : gM} {r : Int32} (hf : f_X0_lowestStack o v1 M = some r) : gM0 l E yX0_lowestStack (.code yX0_lowestStack cX0_lowestStack 4 (some .int)) (gR 1 23) M x [.ref (E.2.1 (o + 1)), .int v1] (some (.int r)) M := by
  refine gMet (by decide +kernel) (Nat.le_of_ble_eq_true rfl) ?_
  intro p e s m args below meth c H locs ls Q hC hl hI kr kv
  replace hC : gC p s m args c cX0_lowestStack 4 RX0 E := hC
  replace hl : lv_has ls 4 [(0, .ref (E.2.1 (o + 1))), (1, .int v1)] := hl
  have hx := hC.1
  have hb := hC.2.1
  have L4 : ∀ (v1 : Int32) (n : Nat) (v3 : Int32) (v2 : Int32), f_X0_lowestStack_L4 o M v1 n v3 v2 = some r → ∀ (H : Heap) (locs : List Loc) (ls : Array Slot), gI E s M x H locs → lv_has ls 4 [(3, .int v3), (2, .int v2), (0, .ref (E.2.1 (o + 1))), (1, .int v1)] → W p l e (gR 1 23) s m args below meth c H locs 0 0 Q (F0 m 4 ls []) := by
    intro v1 n
    induction n with
    | zero => intro v3 v2 hf; rw [f_X0_lowestStack_L4] at hf; cases hf
    | succ n ih =>
      intro v3 v2 hf H locs ls hI hl
      rw [f_X0_lowestStack_L4] at hf
      refine lv_iload_n hx hb dX0_lowestStack_4 rfl (lv_at hl 0 rfl) ?_
      refine lv_iconst (v := 4) hx hb dX0_lowestStack_5 (by decide) ?_
      refine lv_icmp_ge (tgt := 38) hx hb dX0_lowestStack_6 rfl (fun h1 => ?_) (fun h1 => ?_)
      · replace hf := gif h1 hf
        refine lv_iload_n hx hb dX0_lowestStack_38 rfl (lv_at hl 1 rfl) ?_
        exact kr _ _ _ _ _ _ (gri hf) hI ⟨.int, rfl, rfl⟩ dX0_lowestStack_39
      · replace hf := gifn h1 hf
        refine lv_aload_n hx hb dX0_lowestStack_9 rfl (lv_at hl 2 rfl) ?_
        refine lv_iload_n hx hb dX0_lowestStack_10 rfl (lv_at hl 3 rfl) ?_
        refine lv_iload_n hx hb dX0_lowestStack_11 rfl (lv_at hl 0 rfl) ?_
        obtain ⟨r2, hr3, hf⟩ := gbind hf
        have hr3 := C_X6_pileOf l E x  hr3
        refine g_callSNi (rest := [.ref (E.2.1 (o + 1))]) hC hI hr3 Y_X6_pileOf S_X6_pileOf (List.mem_of_getElem? (i := 7) rfl) ⟨rfl, rfl⟩ ⟨Nat.le_of_ble_eq_true rfl, Nat.le_of_ble_eq_true rfl⟩ rfl hl.1 rfl (Nat.le_of_ble_eq_true rfl) dX0_lowestStack_12 ⟨Nat.zero_le _, Nat.zero_le _⟩ (fun H locs hI => ?_)
        obtain ⟨r4, hr5, hf⟩ := gbind hf
        have hr5 := C_X0_height l E x ho hr5
        refine g_callVi (rest := []) hC hI hr5 Y_X0_height V_X0_height w412 (rcv_X0 hC hI ho) ⟨rfl, rfl⟩ ⟨Nat.le_of_ble_eq_true rfl, Nat.le_of_ble_eq_true rfl⟩ rfl hl.1 rfl (Nat.le_of_ble_eq_true rfl) dX0_lowestStack_15 ⟨Nat.zero_le _, Nat.zero_le _⟩ (fun H locs hI => ?_)
        refine lv_aload_n hx hb dX0_lowestStack_18 rfl (lv_at hl 2 rfl) ?_
        refine lv_iload_n hx hb dX0_lowestStack_19 rfl (lv_at hl 3 rfl) ?_
        refine lv_iload_n hx hb dX0_lowestStack_20 rfl (lv_at hl 1 rfl) ?_
        obtain ⟨r6, hr7, hf⟩ := gbind hf
        have hr7 := C_X6_pileOf l E x  hr7
        refine g_callSNi (rest := [.ref (E.2.1 (o + 1)), .int r4]) hC hI hr7 Y_X6_pileOf S_X6_pileOf (List.mem_of_getElem? (i := 7) rfl) ⟨rfl, rfl⟩ ⟨Nat.le_of_ble_eq_true rfl, Nat.le_of_ble_eq_true rfl⟩ rfl hl.1 rfl (Nat.le_of_ble_eq_true rfl) dX0_lowestStack_21 ⟨Nat.zero_le _, Nat.zero_le _⟩ (fun H locs hI => ?_)
        obtain ⟨r8, hr9, hf⟩ := gbind hf
        have hr9 := C_X0_height l E x ho hr9
        refine g_callVi (rest := [.int r4]) hC hI hr9 Y_X0_height V_X0_height w412 (rcv_X0 hC hI ho) ⟨rfl, rfl⟩ ⟨Nat.le_of_ble_eq_true rfl, Nat.le_of_ble_eq_true rfl⟩ rfl hl.1 rfl (Nat.le_of_ble_eq_true rfl) dX0_lowestStack_24 ⟨Nat.zero_le _, Nat.zero_le _⟩ (fun H locs hI => ?_)
        refine lv_icmp_ge (tgt := 32) hx hb dX0_lowestStack_27 rfl (fun h10 => ?_) (fun h10 => ?_)
        · replace hf := gif h10 hf
          refine lv_iinc (k := 0) (v := v3 + 1) (lv' := [(3, .int (v3 + 1)), (2, .int v2), (0, .ref (E.2.1 (o + 1))), (1, .int v1)]) hx hb dX0_lowestStack_32 hl rfl rfl (by decide) rfl (fun ls hl => ?_)
          refine lv_goto (tgt := 4) hx hb dX0_lowestStack_35 rfl ?_
          exact ih (v3 + 1) v2 hf _ _ _ hI (lv_sub hl [0, 1, 2, 3] rfl)
        · replace hf := gifn h10 hf
          refine lv_iload_n hx hb dX0_lowestStack_30 rfl (lv_at hl 0 rfl) ?_
          refine lv_istore_n (lv' := [(2, .int v3), (3, .int v3), (0, .ref (E.2.1 (o + 1))), (1, .int v1)]) hx hb dX0_lowestStack_31 rfl hl (by decide) rfl (fun ls hl => ?_)
          refine lv_iinc (k := 1) (v := v3 + 1) (lv' := [(3, .int (v3 + 1)), (2, .int v3), (0, .ref (E.2.1 (o + 1))), (1, .int v1)]) hx hb dX0_lowestStack_32 hl rfl rfl (by decide) rfl (fun ls hl => ?_)
          refine lv_goto (tgt := 4) hx hb dX0_lowestStack_35 rfl ?_
          exact ih (v3 + 1) v3 hf _ _ _ hI (lv_sub hl [0, 1, 2, 3] rfl)
  unfold f_X0_lowestStack at hf
  refine lv_iconst (v := 0) hx hb dX0_lowestStack_0 (by decide) ?_
  refine lv_istore_n (lv' := [(2, .int 0), (0, .ref (E.2.1 (o + 1))), (1, .int v1)]) hx hb dX0_lowestStack_1 rfl hl (by decide) rfl (fun ls hl => ?_)
  refine lv_iconst (v := 1) hx hb dX0_lowestStack_2 (by decide) ?_
  refine lv_istore_n (lv' := [(3, .int 1), (2, .int 0), (0, .ref (E.2.1 (o + 1))), (1, .int v1)]) hx hb dX0_lowestStack_3 rfl hl (by decide) rfl (fun ls hl => ?_)
  exact L4 v1 gF 1 0 hf _ _ _ hI (lv_sub hl [0, 1, 2, 3] rfl)
theorem dX0_heavyOverLightPairs_0 : decode cX0_heavyOverLightPairs 0 = .ok (.iconst 0, 1) := by decide +kernel
theorem dX0_heavyOverLightPairs_1 : decode cX0_heavyOverLightPairs 1 = .ok (.istore_n 2, 1) := by decide +kernel
theorem dX0_heavyOverLightPairs_2 : decode cX0_heavyOverLightPairs 2 = .ok (.iconst 1, 1) := by decide +kernel
theorem dX0_heavyOverLightPairs_3 : decode cX0_heavyOverLightPairs 3 = .ok (.istore_n 3, 1) := by decide +kernel
theorem dX0_heavyOverLightPairs_4 : decode cX0_heavyOverLightPairs 4 = .ok (.iload_n 3, 1) := by decide +kernel
theorem dX0_heavyOverLightPairs_5 : decode cX0_heavyOverLightPairs 5 = .ok (.iconst 5, 1) := by decide +kernel
theorem dX0_heavyOverLightPairs_6 : decode cX0_heavyOverLightPairs 6 = .ok (.if_icmp .ge 51, 3) := by decide +kernel
theorem dX0_heavyOverLightPairs_9 : decode cX0_heavyOverLightPairs 9 = .ok (.iconst 0, 1) := by decide +kernel
theorem dX0_heavyOverLightPairs_10 : decode cX0_heavyOverLightPairs 10 = .ok (.istore 4, 2) := by decide +kernel
theorem dX0_heavyOverLightPairs_12 : decode cX0_heavyOverLightPairs 12 = .ok (.iload 4, 2) := by decide +kernel
theorem dX0_heavyOverLightPairs_14 : decode cX0_heavyOverLightPairs 14 = .ok (.iload_n 3, 1) := by decide +kernel
theorem dX0_heavyOverLightPairs_15 : decode cX0_heavyOverLightPairs 15 = .ok (.if_icmp .ge 36, 3) := by decide +kernel
theorem dX0_heavyOverLightPairs_18 : decode cX0_heavyOverLightPairs 18 = .ok (.aload_n 0, 1) := by decide +kernel
theorem dX0_heavyOverLightPairs_19 : decode cX0_heavyOverLightPairs 19 = .ok (.aload_n 0, 1) := by decide +kernel
theorem dX0_heavyOverLightPairs_20 : decode cX0_heavyOverLightPairs 20 = .ok (.iload_n 1, 1) := by decide +kernel
theorem dX0_heavyOverLightPairs_21 : decode cX0_heavyOverLightPairs 21 = .ok (.iload_n 3, 1) := by decide +kernel
theorem dX0_heavyOverLightPairs_22 : decode cX0_heavyOverLightPairs 22 = .ok (.invokevirtual 72, 3) := by decide +kernel
theorem dX0_heavyOverLightPairs_25 : decode cX0_heavyOverLightPairs 25 = .ok (.invokevirtual 63, 3) := by decide +kernel
theorem dX0_heavyOverLightPairs_28 : decode cX0_heavyOverLightPairs 28 = .ok (.aload_n 0, 1) := by decide +kernel
theorem dX0_heavyOverLightPairs_29 : decode cX0_heavyOverLightPairs 29 = .ok (.aload_n 0, 1) := by decide +kernel
theorem dX0_heavyOverLightPairs_30 : decode cX0_heavyOverLightPairs 30 = .ok (.iload_n 1, 1) := by decide +kernel
theorem dX0_heavyOverLightPairs_31 : decode cX0_heavyOverLightPairs 31 = .ok (.iload 4, 2) := by decide +kernel
theorem dX0_heavyOverLightPairs_33 : decode cX0_heavyOverLightPairs 33 = .ok (.invokevirtual 72, 3) := by decide +kernel
theorem dX0_heavyOverLightPairs_36 : decode cX0_heavyOverLightPairs 36 = .ok (.invokevirtual 63, 3) := by decide +kernel
theorem dX0_heavyOverLightPairs_39 : decode cX0_heavyOverLightPairs 39 = .ok (.if_icmp .le 6, 3) := by decide +kernel
theorem dX0_heavyOverLightPairs_42 : decode cX0_heavyOverLightPairs 42 = .ok (.iinc 2 1, 3) := by decide +kernel
theorem dX0_heavyOverLightPairs_45 : decode cX0_heavyOverLightPairs 45 = .ok (.iinc 4 1, 3) := by decide +kernel
theorem dX0_heavyOverLightPairs_48 : decode cX0_heavyOverLightPairs 48 = .ok (.goto (-36), 3) := by decide +kernel
theorem dX0_heavyOverLightPairs_51 : decode cX0_heavyOverLightPairs 51 = .ok (.iinc 3 1, 3) := by decide +kernel
theorem dX0_heavyOverLightPairs_54 : decode cX0_heavyOverLightPairs 54 = .ok (.goto (-50), 3) := by decide +kernel
theorem dX0_heavyOverLightPairs_57 : decode cX0_heavyOverLightPairs 57 = .ok (.iload_n 2, 1) := by decide +kernel
theorem dX0_heavyOverLightPairs_58 : decode cX0_heavyOverLightPairs 58 = .ok (.ireturn, 1) := by decide +kernel
set_option maxRecDepth 100000 in
set_option maxHeartbeats 4000000 in
theorem C_X0_heavyOverLightPairs (l : Launch) (E : gE) (x : gX) {o : Nat} (ho : gOk o) {v1 : Int32} {M : gM} {r : Int32} (hf : f_X0_heavyOverLightPairs o v1 M = some r) : gM0 l E yX0_heavyOverLightPairs (.code yX0_heavyOverLightPairs cX0_heavyOverLightPairs 5 (some .int)) (gR 2 42) M x [.ref (E.2.1 (o + 1)), .int v1] (some (.int r)) M := by
  refine gMet (by decide +kernel) (Nat.le_of_ble_eq_true rfl) ?_
  intro p e s m args below meth c H locs ls Q hC hl hI kr kv
  replace hC : gC p s m args c cX0_heavyOverLightPairs 5 RX0 E := hC
  replace hl : lv_has ls 5 [(0, .ref (E.2.1 (o + 1))), (1, .int v1)] := hl
  have hx := hC.1
  have hb := hC.2.1
  have L12 : ∀ (v3 : Int32) (v1 : Int32) (n : Nat) (v4 : Int32) (v2 : Int32) (q : Int32 × Int32), f_X0_heavyOverLightPairs_L12 o M v3 v1 n v4 v2 = some q → ∀ (H : Heap) (locs : List Loc) (ls : Array Slot), gI E s M x H locs → lv_has ls 5 [(4, .int v4), (3, .int v3), (2, .int v2), (0, .ref (E.2.1 (o + 1))), (1, .int v1)] → (∀ (H : Heap) (locs : List Loc) (ls : Array Slot), gI E s M x H locs → lv_has ls 5 [(4, .int q.1), (3, .int v3), (2, .int q.2), (0, .ref (E.2.1 (o + 1))), (1, .int v1)] → W p l e (gR 2 42) s m args below meth c H locs 0 0 Q (F0 m 51 ls [])) → W p l e (gR 2 42) s m args below meth c H locs 0 0 Q (F0 m 12 ls []) := by
    intro v3 v1 n
    induction n with
    | zero => intro v4 v2 q hf; rw [f_X0_heavyOverLightPairs_L12] at hf; cases hf
    | succ n ih =>
      intro v4 v2 q hf H locs ls hI hl hk
      rw [f_X0_heavyOverLightPairs_L12] at hf
      refine lv_iload hx hb dX0_heavyOverLightPairs_12 (lv_at hl 0 rfl) ?_
      refine lv_iload_n hx hb dX0_heavyOverLightPairs_14 rfl (lv_at hl 1 rfl) ?_
      refine lv_icmp_ge (tgt := 51) hx hb dX0_heavyOverLightPairs_15 rfl (fun h2 => ?_) (fun h2 => ?_)
      · replace hf := gif h2 hf
        obtain rfl := Option.some.inj hf
        exact hk _ _ _ hI (lv_sub hl [0, 1, 2, 3, 4] rfl)
      · replace hf := gifn h2 hf
        refine lv_aload_n hx hb dX0_heavyOverLightPairs_18 rfl (lv_at hl 3 rfl) ?_
        refine lv_aload_n hx hb dX0_heavyOverLightPairs_19 rfl (lv_at hl 3 rfl) ?_
        refine lv_iload_n hx hb dX0_heavyOverLightPairs_20 rfl (lv_at hl 4 rfl) ?_
        refine lv_iload_n hx hb dX0_heavyOverLightPairs_21 rfl (lv_at hl 1 rfl) ?_
        obtain ⟨r3, hr4, hf⟩ := gbind hf
        have hr4 := C_X0_rowAt l E x ho hr4
        refine g_callVi (rest := [.ref (E.2.1 (o + 1))]) hC hI hr4 Y_X0_rowAt V_X0_rowAt w366 (rcv_X0 hC hI ho) ⟨rfl, rfl⟩ ⟨Nat.le_of_ble_eq_true rfl, Nat.le_of_ble_eq_true rfl⟩ rfl hl.1 rfl (Nat.le_of_ble_eq_true rfl) dX0_heavyOverLightPairs_22 ⟨Nat.zero_le _, Nat.zero_le _⟩ (fun H locs hI => ?_)
        obtain ⟨r5, hr6, hf⟩ := gbind hf
        have hr6 := C_X0_weight l E x ho hr6
        refine g_callVi (rest := []) hC hI hr6 Y_X0_weight V_X0_weight w307 (rcv_X0 hC hI ho) ⟨rfl, rfl⟩ ⟨Nat.le_of_ble_eq_true rfl, Nat.le_of_ble_eq_true rfl⟩ rfl hl.1 rfl (Nat.le_of_ble_eq_true rfl) dX0_heavyOverLightPairs_25 ⟨Nat.zero_le _, Nat.zero_le _⟩ (fun H locs hI => ?_)
        refine lv_aload_n hx hb dX0_heavyOverLightPairs_28 rfl (lv_at hl 3 rfl) ?_
        refine lv_aload_n hx hb dX0_heavyOverLightPairs_29 rfl (lv_at hl 3 rfl) ?_
        refine lv_iload_n hx hb dX0_heavyOverLightPairs_30 rfl (lv_at hl 4 rfl) ?_
        refine lv_iload hx hb dX0_heavyOverLightPairs_31 (lv_at hl 0 rfl) ?_
        obtain ⟨r7, hr8, hf⟩ := gbind hf
        have hr8 := C_X0_rowAt l E x ho hr8
        refine g_callVi (rest := [.ref (E.2.1 (o + 1)), .int r5]) hC hI hr8 Y_X0_rowAt V_X0_rowAt w366 (rcv_X0 hC hI ho) ⟨rfl, rfl⟩ ⟨Nat.le_of_ble_eq_true rfl, Nat.le_of_ble_eq_true rfl⟩ rfl hl.1 rfl (Nat.le_of_ble_eq_true rfl) dX0_heavyOverLightPairs_33 ⟨Nat.zero_le _, Nat.zero_le _⟩ (fun H locs hI => ?_)
        obtain ⟨r9, hr10, hf⟩ := gbind hf
        have hr10 := C_X0_weight l E x ho hr10
        refine g_callVi (rest := [.int r5]) hC hI hr10 Y_X0_weight V_X0_weight w307 (rcv_X0 hC hI ho) ⟨rfl, rfl⟩ ⟨Nat.le_of_ble_eq_true rfl, Nat.le_of_ble_eq_true rfl⟩ rfl hl.1 rfl (Nat.le_of_ble_eq_true rfl) dX0_heavyOverLightPairs_36 ⟨Nat.zero_le _, Nat.zero_le _⟩ (fun H locs hI => ?_)
        refine lv_icmp_le (tgt := 45) hx hb dX0_heavyOverLightPairs_39 rfl (fun h11 => ?_) (fun h11 => ?_)
        · replace hf := gif h11 hf
          refine lv_iinc (k := 0) (v := v4 + 1) (lv' := [(4, .int (v4 + 1)), (3, .int v3), (2, .int v2), (0, .ref (E.2.1 (o + 1))), (1, .int v1)]) hx hb dX0_heavyOverLightPairs_45 hl rfl rfl (by decide) rfl (fun ls hl => ?_)
          refine lv_goto (tgt := 12) hx hb dX0_heavyOverLightPairs_48 rfl ?_
          exact ih (v4 + 1) v2 _ hf _ _ _ hI (lv_sub hl [0, 1, 2, 3, 4] rfl) hk
        · replace hf := gifn h11 hf
          refine lv_iinc (k := 2) (v := v2 + 1) (lv' := [(2, .int (v2 + 1)), (4, .int v4), (3, .int v3), (0, .ref (E.2.1 (o + 1))), (1, .int v1)]) hx hb dX0_heavyOverLightPairs_42 hl rfl rfl (by decide) rfl (fun ls hl => ?_)
          refine lv_iinc (k := 1) (v := v4 + 1) (lv' := [(4, .int (v4 + 1)), (2, .int (v2 + 1)), (3, .int v3), (0, .ref (E.2.1 (o + 1))), (1, .int v1)]) hx hb dX0_heavyOverLightPairs_45 hl rfl rfl (by decide) rfl (fun ls hl => ?_)
          refine lv_goto (tgt := 12) hx hb dX0_heavyOverLightPairs_48 rfl ?_
          exact ih (v4 + 1) (v2 + 1) _ hf _ _ _ hI (lv_sub hl [0, 2, 1, 3, 4] rfl) hk
  have L4 : ∀ (v1 : Int32) (n : Nat) (v3 : Int32) (v2 : Int32), f_X0_heavyOverLightPairs_L4 o M v1 n v3 v2 = some r → ∀ (H : Heap) (locs : List Loc) (ls : Array Slot), gI E s M x H locs → lv_has ls 5 [(3, .int v3), (2, .int v2), (0, .ref (E.2.1 (o + 1))), (1, .int v1)] → W p l e (gR 2 42) s m args below meth c H locs 0 0 Q (F0 m 4 ls []) := by
    intro v1 n
    induction n with
    | zero => intro v3 v2 hf; rw [f_X0_heavyOverLightPairs_L4] at hf; cases hf
    | succ n ih =>
      intro v3 v2 hf H locs ls hI hl
      rw [f_X0_heavyOverLightPairs_L4] at hf
      refine lv_iload_n hx hb dX0_heavyOverLightPairs_4 rfl (lv_at hl 0 rfl) ?_
      refine lv_iconst (v := 5) hx hb dX0_heavyOverLightPairs_5 (by decide) ?_
      refine lv_icmp_ge (tgt := 57) hx hb dX0_heavyOverLightPairs_6 rfl (fun h1 => ?_) (fun h1 => ?_)
      · replace hf := gif h1 hf
        refine lv_iload_n hx hb dX0_heavyOverLightPairs_57 rfl (lv_at hl 1 rfl) ?_
        exact kr _ _ _ _ _ _ (gri hf) hI ⟨.int, rfl, rfl⟩ dX0_heavyOverLightPairs_58
      · replace hf := gifn h1 hf
        refine lv_iconst (v := 0) hx hb dX0_heavyOverLightPairs_9 (by decide) ?_
        refine lv_istore (lv' := [(4, .int 0), (3, .int v3), (2, .int v2), (0, .ref (E.2.1 (o + 1))), (1, .int v1)]) hx hb dX0_heavyOverLightPairs_10 hl (by decide) rfl (fun ls hl => ?_)
        obtain ⟨q12, hq12, hf⟩ := gbind hf
        refine L12 v3 v1 gF 0 v2 q12 hq12 _ _ _ hI (lv_sub hl [0, 1, 2, 3, 4] rfl) (fun H locs ls hI hl => ?_)
        try simp only at hI hl
        refine lv_iinc (k := 1) (v := v3 + 1) (lv' := [(3, .int (v3 + 1)), (4, .int q12.1), (2, .int q12.2), (0, .ref (E.2.1 (o + 1))), (1, .int v1)]) hx hb dX0_heavyOverLightPairs_51 hl rfl rfl (by decide) rfl (fun ls hl => ?_)
        refine lv_goto (tgt := 4) hx hb dX0_heavyOverLightPairs_54 rfl ?_
        exact ih (v3 + 1) q12.2 hf _ _ _ hI (lv_sub hl [0, 2, 3, 4] rfl)
  unfold f_X0_heavyOverLightPairs at hf
  refine lv_iconst (v := 0) hx hb dX0_heavyOverLightPairs_0 (by decide) ?_
  refine lv_istore_n (lv' := [(2, .int 0), (0, .ref (E.2.1 (o + 1))), (1, .int v1)]) hx hb dX0_heavyOverLightPairs_1 rfl hl (by decide) rfl (fun ls hl => ?_)
  refine lv_iconst (v := 1) hx hb dX0_heavyOverLightPairs_2 (by decide) ?_
  refine lv_istore_n (lv' := [(3, .int 1), (2, .int 0), (0, .ref (E.2.1 (o + 1))), (1, .int v1)]) hx hb dX0_heavyOverLightPairs_3 rfl hl (by decide) rfl (fun ls hl => ?_)
  exact L4 v1 gF 1 0 hf _ _ _ hI (lv_sub hl [0, 1, 2, 3] rfl)
