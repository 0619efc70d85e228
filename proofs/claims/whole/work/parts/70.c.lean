theorem dX7_copy_0 : decode cX7_copy 0 = .ok (.iconst 0, 1) := by decide +kernel
theorem dX7_copy_1 : decode cX7_copy 1 = .ok (.istore 4, 2) := by decide +kernel
theorem dX7_copy_3 : decode cX7_copy 3 = .ok (.iload 4, 2) := by decide +kernel
theorem dX7_copy_5 : decode cX7_copy 5 = .ok (.sipush 259, 3) := by decide +kernel
theorem dX7_copy_8 : decode cX7_copy 8 = .ok (.if_icmp .ge 21, 3) := by decide +kernel
theorem dX7_copy_11 : decode cX7_copy 11 = .ok (.aload_n 2, 1) := by decide +kernel
theorem dX7_copy_12 : decode cX7_copy 12 = .ok (.iload_n 3, 1) := by decide +kernel
theorem dX7_copy_13 : decode cX7_copy 13 = .ok (.iload 4, 2) := by decide +kernel
theorem dX7_copy_15 : decode cX7_copy 15 = .ok (.iadd, 1) := by decide +kernel
theorem dX7_copy_16 : decode cX7_copy 16 = .ok (.aload_n 0, 1) := by decide +kernel
theorem dX7_copy_17 : decode cX7_copy 17 = .ok (.iload_n 1, 1) := by decide +kernel
theorem dX7_copy_18 : decode cX7_copy 18 = .ok (.iload 4, 2) := by decide +kernel
theorem dX7_copy_20 : decode cX7_copy 20 = .ok (.iadd, 1) := by decide +kernel
theorem dX7_copy_21 : decode cX7_copy 21 = .ok (.iaload, 1) := by decide +kernel
theorem dX7_copy_22 : decode cX7_copy 22 = .ok (.iastore, 1) := by decide +kernel
theorem dX7_copy_23 : decode cX7_copy 23 = .ok (.iinc 4 1, 3) := by decide +kernel
theorem dX7_copy_26 : decode cX7_copy 26 = .ok (.goto (-23), 3) := by decide +kernel
theorem dX7_copy_29 : decode cX7_copy 29 = .ok (.return_, 1) := by decide +kernel
set_option maxRecDepth 100000 in
set_option maxHeartbeats 4000000 in
theorem C_X7_copy (l : Launch) (E : gE) (x : gX) {a0 n0 : Nat} {a2 n2 : Nat} (ha0 : gIA a0 n0) (ha2 : gIA a2 n2) {v1 v3 : Int32} {M : gM} {M' : gM} (hf : f_X7_copy a0 n0 a2 n2 v1 v3 M = some M') : gM0 l E yX7_copy (.code yX7_copy cX7_copy 5 none) (gR 0 0) M x [.ref (E.2.1 a0), .int v1, .ref (E.2.1 a2), .int v3] none M' := by
  refine gMet (by decide +kernel) (Nat.le_of_ble_eq_true rfl) ?_
  intro p e s m args below meth c H locs ls Q hC hl hI kr kv
  replace hC : gC p s m args c cX7_copy 5 RX7 E := hC
  replace hl : lv_has ls 5 [(0, .ref (E.2.1 a0)), (1, .int v1), (2, .ref (E.2.1 a2)), (3, .int v3)] := hl
  have hx := hC.1
  have hb := hC.2.1
  have L3 : ∀ (v1 : Int32) (v3 : Int32) (n : Nat) (v4 : Int32) (M : gM), f_X7_copy_L3 a0 n0 a2 n2 v1 v3 n v4 M = some M' → ∀ (H : Heap) (locs : List Loc) (ls : Array Slot), gI E s M x H locs → lv_has ls 5 [(4, .int v4), (0, .ref (E.2.1 a0)), (1, .int v1), (2, .ref (E.2.1 a2)), (3, .int v3)] → W p l e (gR 0 0) s m args below meth c H locs 0 0 Q (F0 m 3 ls []) := by
    intro v1 v3 n
    induction n with
    | zero => intro v4 M hf; rw [f_X7_copy_L3] at hf; cases hf
    | succ n ih =>
      intro v4 M hf H locs ls hI hl
      rw [f_X7_copy_L3] at hf
      refine lv_iload hx hb dX7_copy_3 (lv_at hl 0 rfl) ?_
      refine lv_sipush (v := 259) hx hb dX7_copy_5 (by decide) ?_
      refine lv_icmp_ge (tgt := 29) hx hb dX7_copy_8 rfl (fun h1 => ?_) (fun h1 => ?_)
      · replace hf := gif h1 hf
        exact kv _ _ _ _ _ (grv hf) hI rfl dX7_copy_29
      · replace hf := gifn h1 hf
        refine lv_aload_n hx hb dX7_copy_11 rfl (lv_at hl 3 rfl) ?_
        refine lv_iload_n hx hb dX7_copy_12 rfl (lv_at hl 4 rfl) ?_
        refine lv_iload hx hb dX7_copy_13 (lv_at hl 0 rfl) ?_
        refine lv_iadd hx hb dX7_copy_15 ?_
        refine lv_aload_n hx hb dX7_copy_16 rfl (lv_at hl 1 rfl) ?_
        refine lv_iload_n hx hb dX7_copy_17 rfl (lv_at hl 2 rfl) ?_
        refine lv_iload hx hb dX7_copy_18 (lv_at hl 0 rfl) ?_
        refine lv_iadd hx hb dX7_copy_20 ?_
        obtain ⟨h2, hf⟩ := gifN hf
        refine g_iald hC hI (k := (v1 + v4).toNatClampNeg) ha0 h2 rfl dX7_copy_21 ?_
        obtain ⟨h3, hf⟩ := gifN hf
        obtain ⟨M4, eM4, hf⟩ := glet hf
        refine g_iast hC hI (k := (v3 + v4).toNatClampNeg) ha2 h3 rfl dX7_copy_22 (fun H locs hI => ?_)
        replace hI := g_mem eM4 hI
        refine lv_iinc (k := 0) (v := v4 + 1) (lv' := [(4, .int (v4 + 1)), (0, .ref (E.2.1 a0)), (1, .int v1), (2, .ref (E.2.1 a2)), (3, .int v3)]) hx hb dX7_copy_23 hl rfl rfl (by decide) rfl (fun ls hl => ?_)
        refine lv_goto (tgt := 3) hx hb dX7_copy_26 rfl ?_
        exact ih (v4 + 1) M4 hf _ _ _ hI (lv_sub hl [0, 1, 2, 3, 4] rfl)
  unfold f_X7_copy at hf
  refine lv_iconst (v := 0) hx hb dX7_copy_0 (by decide) ?_
  refine lv_istore (lv' := [(4, .int 0), (0, .ref (E.2.1 a0)), (1, .int v1), (2, .ref (E.2.1 a2)), (3, .int v3)]) hx hb dX7_copy_1 hl (by decide) rfl (fun ls hl => ?_)
  exact L3 v1 v3 gF 0 M hf _ _ _ hI (lv_sub hl [0, 1, 2, 3, 4] rfl)
theorem dX7_begin_0 : decode cX7_begin 0 = .ok (.aload_n 0, 1) := by decide +kernel
theorem dX7_begin_1 : decode cX7_begin 1 = .ok (.getfield 7, 3) := by decide +kernel
theorem dX7_begin_4 : decode cX7_begin 4 = .ok (.iconst 0, 1) := by decide +kernel
theorem dX7_begin_5 : decode cX7_begin 5 = .ok (.aload_n 0, 1) := by decide +kernel
theorem dX7_begin_6 : decode cX7_begin 6 = .ok (.getfield 13, 3) := by decide +kernel
theorem dX7_begin_9 : decode cX7_begin 9 = .ok (.iconst 0, 1) := by decide +kernel
theorem dX7_begin_10 : decode cX7_begin 10 = .ok (.invokestatic 45, 3) := by decide +kernel
theorem dX7_begin_13 : decode cX7_begin 13 = .ok (.return_, 1) := by decide +kernel
set_option maxRecDepth 100000 in
set_option maxHeartbeats 4000000 in
theorem C_X7_begin (l : Launch) (E : gE) (x : gX) {M : gM} {M' : gM} (hf : f_X7_begin M = some M') : gM0 l E yX7_begin (.code yX7_begin cX7_begin 1 none) (gR 1 24) M x [.ref (E.2.1 150)] none M' := by
  refine gMet (by decide +kernel) (Nat.le_of_ble_eq_true rfl) ?_
  intro p e s m args below meth c H locs ls Q hC hl hI kr kv
  replace hC : gC p s m args c cX7_begin 1 RX7 E := hC
  replace hl : lv_has ls 1 [(0, .ref (E.2.1 150))] := hl
  have hx := hC.1
  have hb := hC.2.1
  unfold f_X7_begin at hf
  refine lv_aload_n hx hb dX7_begin_0 rfl (lv_at hl 0 rfl) ?_
  refine gt_X7_X7_g hC hI dX7_begin_1 ?_
  refine lv_iconst (v := 0) hx hb dX7_begin_4 (by decide) ?_
  refine lv_aload_n hx hb dX7_begin_5 rfl (lv_at hl 0 rfl) ?_
  refine gt_X7_X7_before hC hI dX7_begin_6 ?_
  refine lv_iconst (v := 0) hx hb dX7_begin_9 (by decide) ?_
  obtain ⟨r1, hr2, hf⟩ := gbind hf
  have hr2 := C_X7_copy l E x gIA_151 gIA_152 hr2
  refine g_callSv (rest := []) hC hI hr2 Y_X7_copy S_X7_copy w1388 ⟨rfl, rfl⟩ ⟨Nat.le_of_ble_eq_true rfl, Nat.le_of_ble_eq_true rfl⟩ rfl hl.1 rfl (Nat.le_of_ble_eq_true rfl) dX7_begin_10 ⟨Nat.le_of_ble_eq_true rfl, Nat.le_of_ble_eq_true rfl⟩ (fun H locs hI => ?_)
  exact kv _ _ _ _ _ (grv hf) hI rfl dX7_begin_13
theorem dX7_kept_0 : decode cX7_kept 0 = .ok (.aload_n 0, 1) := by decide +kernel
theorem dX7_kept_1 : decode cX7_kept 1 = .ok (.getfield 42, 3) := by decide +kernel
theorem dX7_kept_4 : decode cX7_kept 4 = .ok (.ifCond .eq 18, 3) := by decide +kernel
theorem dX7_kept_7 : decode cX7_kept 7 = .ok (.aload_n 0, 1) := by decide +kernel
theorem dX7_kept_8 : decode cX7_kept 8 = .ok (.getfield 13, 3) := by decide +kernel
theorem dX7_kept_11 : decode cX7_kept 11 = .ok (.iconst 0, 1) := by decide +kernel
theorem dX7_kept_12 : decode cX7_kept 12 = .ok (.aload_n 0, 1) := by decide +kernel
theorem dX7_kept_13 : decode cX7_kept 13 = .ok (.getfield 7, 3) := by decide +kernel
theorem dX7_kept_16 : decode cX7_kept 16 = .ok (.iconst 0, 1) := by decide +kernel
theorem dX7_kept_17 : decode cX7_kept 17 = .ok (.invokestatic 45, 3) := by decide +kernel
theorem dX7_kept_20 : decode cX7_kept 20 = .ok (.iconst 0, 1) := by decide +kernel
theorem dX7_kept_21 : decode cX7_kept 21 = .ok (.ireturn, 1) := by decide +kernel
theorem dX7_kept_22 : decode cX7_kept 22 = .ok (.aload_n 0, 1) := by decide +kernel
theorem dX7_kept_23 : decode cX7_kept 23 = .ok (.getfield 49, 3) := by decide +kernel
theorem dX7_kept_26 : decode cX7_kept 26 = .ok (.bipush 8, 2) := by decide +kernel
theorem dX7_kept_28 : decode cX7_kept 28 = .ok (.if_icmp .ne 44, 3) := by decide +kernel
theorem dX7_kept_31 : decode cX7_kept 31 = .ok (.iconst 0, 1) := by decide +kernel
theorem dX7_kept_32 : decode cX7_kept 32 = .ok (.istore_n 2, 1) := by decide +kernel
theorem dX7_kept_33 : decode cX7_kept 33 = .ok (.iload_n 2, 1) := by decide +kernel
theorem dX7_kept_34 : decode cX7_kept 34 = .ok (.sipush 1813, 3) := by decide +kernel
theorem dX7_kept_37 : decode cX7_kept 37 = .ok (.if_icmp .ge 25, 3) := by decide +kernel
theorem dX7_kept_40 : decode cX7_kept 40 = .ok (.aload_n 0, 1) := by decide +kernel
theorem dX7_kept_41 : decode cX7_kept 41 = .ok (.getfield 19, 3) := by decide +kernel
theorem dX7_kept_44 : decode cX7_kept 44 = .ok (.iload_n 2, 1) := by decide +kernel
theorem dX7_kept_45 : decode cX7_kept 45 = .ok (.aload_n 0, 1) := by decide +kernel
theorem dX7_kept_46 : decode cX7_kept 46 = .ok (.getfield 19, 3) := by decide +kernel
theorem dX7_kept_49 : decode cX7_kept 49 = .ok (.iload_n 2, 1) := by decide +kernel
theorem dX7_kept_50 : decode cX7_kept 50 = .ok (.sipush 259, 3) := by decide +kernel
theorem dX7_kept_53 : decode cX7_kept 53 = .ok (.iadd, 1) := by decide +kernel
theorem dX7_kept_54 : decode cX7_kept 54 = .ok (.iaload, 1) := by decide +kernel
theorem dX7_kept_55 : decode cX7_kept 55 = .ok (.iastore, 1) := by decide +kernel
theorem dX7_kept_56 : decode cX7_kept 56 = .ok (.iinc 2 1, 3) := by decide +kernel
theorem dX7_kept_59 : decode cX7_kept 59 = .ok (.goto (-26), 3) := by decide +kernel
theorem dX7_kept_62 : decode cX7_kept 62 = .ok (.aload_n 0, 1) := by decide +kernel
theorem dX7_kept_63 : decode cX7_kept 63 = .ok (.dup, 1) := by decide +kernel
theorem dX7_kept_64 : decode cX7_kept 64 = .ok (.getfield 49, 3) := by decide +kernel
theorem dX7_kept_67 : decode cX7_kept 67 = .ok (.iconst 1, 1) := by decide +kernel
theorem dX7_kept_68 : decode cX7_kept 68 = .ok (.isub, 1) := by decide +kernel
theorem dX7_kept_69 : decode cX7_kept 69 = .ok (.putfield 49, 3) := by decide +kernel
theorem dX7_kept_72 : decode cX7_kept 72 = .ok (.aload_n 0, 1) := by decide +kernel
theorem dX7_kept_73 : decode cX7_kept 73 = .ok (.getfield 13, 3) := by decide +kernel
theorem dX7_kept_76 : decode cX7_kept 76 = .ok (.iconst 0, 1) := by decide +kernel
theorem dX7_kept_77 : decode cX7_kept 77 = .ok (.aload_n 0, 1) := by decide +kernel
theorem dX7_kept_78 : decode cX7_kept 78 = .ok (.getfield 19, 3) := by decide +kernel
theorem dX7_kept_81 : decode cX7_kept 81 = .ok (.aload_n 0, 1) := by decide +kernel
theorem dX7_kept_82 : decode cX7_kept 82 = .ok (.getfield 49, 3) := by decide +kernel
theorem dX7_kept_85 : decode cX7_kept 85 = .ok (.sipush 259, 3) := by decide +kernel
theorem dX7_kept_88 : decode cX7_kept 88 = .ok (.imul, 1) := by decide +kernel
theorem dX7_kept_89 : decode cX7_kept 89 = .ok (.invokestatic 45, 3) := by decide +kernel
theorem dX7_kept_92 : decode cX7_kept 92 = .ok (.aload_n 0, 1) := by decide +kernel
theorem dX7_kept_93 : decode cX7_kept 93 = .ok (.dup, 1) := by decide +kernel
theorem dX7_kept_94 : decode cX7_kept 94 = .ok (.getfield 49, 3) := by decide +kernel
theorem dX7_kept_97 : decode cX7_kept 97 = .ok (.iconst 1, 1) := by decide +kernel
theorem dX7_kept_98 : decode cX7_kept 98 = .ok (.iadd, 1) := by decide +kernel
theorem dX7_kept_99 : decode cX7_kept 99 = .ok (.putfield 49, 3) := by decide +kernel
theorem dX7_kept_102 : decode cX7_kept 102 = .ok (.iload_n 1, 1) := by decide +kernel
theorem dX7_kept_103 : decode cX7_kept 103 = .ok (.ireturn, 1) := by decide +kernel
set_option maxRecDepth 100000 in
set_option maxHeartbeats 4000000 in
theorem C_X7_kept (l : Launch) (E : gE) (x : gX) {v1 : Int32} {M : gM} {r : Int32} {M' : gM} (hf : f_X7_kept v1 M = some (r, M')) : gM0 l E yX7_kept (.code yX7_kept cX7_kept 3 (some .int)) (gR 1 24) M x [.ref (E.2.1 150), .int v1] (some (.int r)) M' := by
  refine gMet (by decide +kernel) (Nat.le_of_ble_eq_true rfl) ?_
  intro p e s m args below meth c H locs ls Q hC hl hI kr kv
  replace hC : gC p s m args c cX7_kept 3 RX7 E := hC
  replace hl : lv_has ls 3 [(0, .ref (E.2.1 150)), (1, .int v1)] := hl
  have hx := hC.1
  have hb := hC.2.1
  have L33 : ∀ (v1 : Int32) (n : Nat) (v2 : Int32) (M : gM), f_X7_kept_L33 v1 n v2 M = some (r, M') → ∀ (H : Heap) (locs : List Loc) (ls : Array Slot), gI E s M x H locs → lv_has ls 3 [(2, .int v2), (0, .ref (E.2.1 150)), (1, .int v1)] → W p l e (gR 1 24) s m args below meth c H locs 0 0 Q (F0 m 33 ls []) := by
    intro v1 n
    induction n with
    | zero => intro v2 M hf; rw [f_X7_kept_L33] at hf; cases hf
    | succ n ih =>
      intro v2 M hf H locs ls hI hl
      rw [f_X7_kept_L33] at hf
      refine lv_iload_n hx hb dX7_kept_33 rfl (lv_at hl 0 rfl) ?_
      refine lv_sipush (v := 1813) hx hb dX7_kept_34 (by decide) ?_
      refine lv_icmp_ge (tgt := 62) hx hb dX7_kept_37 rfl (fun h6 => ?_) (fun h6 => ?_)
      · replace hf := gif h6 hf
        refine lv_aload_n hx hb dX7_kept_62 rfl (lv_at hl 1 rfl) ?_
        refine lv_dup hx hb dX7_kept_63 rfl ?_
        refine gt_X7_X7_changes hC hI dX7_kept_64 ?_
        refine lv_iconst (v := 1) hx hb dX7_kept_67 (by decide) ?_
        refine lv_isub hx hb dX7_kept_68 ?_
        obtain ⟨M7, eM7, hf⟩ := glet hf
        refine pt_X7_X7_changes hC hI dX7_kept_69 (fun H locs hI => ?_)
        replace hI := g_mem eM7 hI
        refine lv_aload_n hx hb dX7_kept_72 rfl (lv_at hl 1 rfl) ?_
        refine gt_X7_X7_before hC hI dX7_kept_73 ?_
        refine lv_iconst (v := 0) hx hb dX7_kept_76 (by decide) ?_
        refine lv_aload_n hx hb dX7_kept_77 rfl (lv_at hl 1 rfl) ?_
        refine gt_X7_X7_history hC hI dX7_kept_78 ?_
        refine lv_aload_n hx hb dX7_kept_81 rfl (lv_at hl 1 rfl) ?_
        refine gt_X7_X7_changes hC hI dX7_kept_82 ?_
        refine lv_sipush (v := 259) hx hb dX7_kept_85 (by decide) ?_
        refine lv_imul hx hb dX7_kept_88 ?_
        obtain ⟨r8, hr9, hf⟩ := gbind hf
        have hr9 := C_X7_copy l E x gIA_152 gIA_154 hr9
        refine g_callSv (rest := []) hC hI hr9 Y_X7_copy S_X7_copy w1388 ⟨rfl, rfl⟩ ⟨Nat.le_of_ble_eq_true rfl, Nat.le_of_ble_eq_true rfl⟩ rfl hl.1 rfl (Nat.le_of_ble_eq_true rfl) dX7_kept_89 ⟨Nat.le_of_ble_eq_true rfl, Nat.le_of_ble_eq_true rfl⟩ (fun H locs hI => ?_)
        refine lv_aload_n hx hb dX7_kept_92 rfl (lv_at hl 1 rfl) ?_
        refine lv_dup hx hb dX7_kept_93 rfl ?_
        refine gt_X7_X7_changes hC hI dX7_kept_94 ?_
        refine lv_iconst (v := 1) hx hb dX7_kept_97 (by decide) ?_
        refine lv_iadd hx hb dX7_kept_98 ?_
        obtain ⟨M10, eM10, hf⟩ := glet hf
        refine pt_X7_X7_changes hC hI dX7_kept_99 (fun H locs hI => ?_)
        replace hI := g_mem eM10 hI
        refine lv_iload_n hx hb dX7_kept_102 rfl (lv_at hl 2 rfl) ?_
        exact kr _ _ _ _ _ _ (grw hf) hI ⟨.int, rfl, rfl⟩ dX7_kept_103
      · replace hf := gifn h6 hf
        refine lv_aload_n hx hb dX7_kept_40 rfl (lv_at hl 1 rfl) ?_
        refine gt_X7_X7_history hC hI dX7_kept_41 ?_
        refine lv_iload_n hx hb dX7_kept_44 rfl (lv_at hl 0 rfl) ?_
        refine lv_aload_n hx hb dX7_kept_45 rfl (lv_at hl 1 rfl) ?_
        refine gt_X7_X7_history hC hI dX7_kept_46 ?_
        refine lv_iload_n hx hb dX7_kept_49 rfl (lv_at hl 0 rfl) ?_
        refine lv_sipush (v := 259) hx hb dX7_kept_50 (by decide) ?_
        refine lv_iadd hx hb dX7_kept_53 ?_
        obtain ⟨h11, hf⟩ := gifN hf
        refine g_iald hC hI (k := (v2 + 259).toNatClampNeg) gIA_154 h11 rfl dX7_kept_54 ?_
        obtain ⟨h12, hf⟩ := gifN hf
        obtain ⟨M13, eM13, hf⟩ := glet hf
        refine g_iast hC hI (k := v2.toNatClampNeg) gIA_154 h12 rfl dX7_kept_55 (fun H locs hI => ?_)
        replace hI := g_mem eM13 hI
        refine lv_iinc (k := 0) (v := v2 + 1) (lv' := [(2, .int (v2 + 1)), (0, .ref (E.2.1 150)), (1, .int v1)]) hx hb dX7_kept_56 hl rfl rfl (by decide) rfl (fun ls hl => ?_)
        refine lv_goto (tgt := 33) hx hb dX7_kept_59 rfl ?_
        exact ih (v2 + 1) M13 hf _ _ _ hI (lv_sub hl [0, 1, 2] rfl)
  unfold f_X7_kept at hf
  refine lv_aload_n hx hb dX7_kept_0 rfl (lv_at hl 0 rfl) ?_
  refine gt_X7_X7_thrown hC hI dX7_kept_1 ?_
  refine lv_if_eq (tgt := 22) hx hb dX7_kept_4 rfl (fun h1 => ?_) (fun h1 => ?_)
  · replace hf := gif h1 hf
    refine lv_aload_n hx hb dX7_kept_22 rfl (lv_at hl 0 rfl) ?_
    refine gt_X7_X7_changes hC hI dX7_kept_23 ?_
    refine lv_bipush (v := 8) hx hb dX7_kept_26 (by decide) ?_
    refine lv_icmp_ne (tgt := 72) hx hb dX7_kept_28 rfl (fun h2 => ?_) (fun h2 => ?_)
    · replace hf := gifn h2 hf
      refine lv_aload_n hx hb dX7_kept_72 rfl (lv_at hl 0 rfl) ?_
      refine gt_X7_X7_before hC hI dX7_kept_73 ?_
      refine lv_iconst (v := 0) hx hb dX7_kept_76 (by decide) ?_
      refine lv_aload_n hx hb dX7_kept_77 rfl (lv_at hl 0 rfl) ?_
      refine gt_X7_X7_history hC hI dX7_kept_78 ?_
      refine lv_aload_n hx hb dX7_kept_81 rfl (lv_at hl 0 rfl) ?_
      refine gt_X7_X7_changes hC hI dX7_kept_82 ?_
      refine lv_sipush (v := 259) hx hb dX7_kept_85 (by decide) ?_
      refine lv_imul hx hb dX7_kept_88 ?_
      obtain ⟨r3, hr4, hf⟩ := gbind hf
      have hr4 := C_X7_copy l E x gIA_152 gIA_154 hr4
      refine g_callSv (rest := []) hC hI hr4 Y_X7_copy S_X7_copy w1388 ⟨rfl, rfl⟩ ⟨Nat.le_of_ble_eq_true rfl, Nat.le_of_ble_eq_true rfl⟩ rfl hl.1 rfl (Nat.le_of_ble_eq_true rfl) dX7_kept_89 ⟨Nat.le_of_ble_eq_true rfl, Nat.le_of_ble_eq_true rfl⟩ (fun H locs hI => ?_)
      refine lv_aload_n hx hb dX7_kept_92 rfl (lv_at hl 0 rfl) ?_
      refine lv_dup hx hb dX7_kept_93 rfl ?_
      refine gt_X7_X7_changes hC hI dX7_kept_94 ?_
      refine lv_iconst (v := 1) hx hb dX7_kept_97 (by decide) ?_
      refine lv_iadd hx hb dX7_kept_98 ?_
      obtain ⟨M5, eM5, hf⟩ := glet hf
      refine pt_X7_X7_changes hC hI dX7_kept_99 (fun H locs hI => ?_)
      replace hI := g_mem eM5 hI
      refine lv_iload_n hx hb dX7_kept_102 rfl (lv_at hl 1 rfl) ?_
      exact kr _ _ _ _ _ _ (grw hf) hI ⟨.int, rfl, rfl⟩ dX7_kept_103
    · replace hf := gif h2 hf
      refine lv_iconst (v := 0) hx hb dX7_kept_31 (by decide) ?_
      refine lv_istore_n (lv' := [(2, .int 0), (0, .ref (E.2.1 150)), (1, .int v1)]) hx hb dX7_kept_32 rfl hl (by decide) rfl (fun ls hl => ?_)
      exact L33 v1 gF 0 M hf _ _ _ hI (lv_sub hl [0, 1, 2] rfl)
  · replace hf := gifn h1 hf
    refine lv_aload_n hx hb dX7_kept_7 rfl (lv_at hl 0 rfl) ?_
    refine gt_X7_X7_before hC hI dX7_kept_8 ?_
    refine lv_iconst (v := 0) hx hb dX7_kept_11 (by decide) ?_
    refine lv_aload_n hx hb dX7_kept_12 rfl (lv_at hl 0 rfl) ?_
    refine gt_X7_X7_g hC hI dX7_kept_13 ?_
    refine lv_iconst (v := 0) hx hb dX7_kept_16 (by decide) ?_
    obtain ⟨r14, hr15, hf⟩ := gbind hf
    have hr15 := C_X7_copy l E x gIA_152 gIA_151 hr15
    refine g_callSv (rest := []) hC hI hr15 Y_X7_copy S_X7_copy w1388 ⟨rfl, rfl⟩ ⟨Nat.le_of_ble_eq_true rfl, Nat.le_of_ble_eq_true rfl⟩ rfl hl.1 rfl (Nat.le_of_ble_eq_true rfl) dX7_kept_17 ⟨Nat.le_of_ble_eq_true rfl, Nat.le_of_ble_eq_true rfl⟩ (fun H locs hI => ?_)
    refine lv_iconst (v := 0) hx hb dX7_kept_20 (by decide) ?_
    exact kr _ _ _ _ _ _ (grw hf) hI ⟨.int, rfl, rfl⟩ dX7_kept_21
theorem dX7_isBerth_0 : decode cX7_isBerth 0 = .ok (.iload_n 0, 1) := by decide +kernel
theorem dX7_isBerth_1 : decode cX7_isBerth 1 = .ok (.iconst 0, 1) := by decide +kernel
theorem dX7_isBerth_2 : decode cX7_isBerth 2 = .ok (.iconst 2, 1) := by decide +kernel
theorem dX7_isBerth_3 : decode cX7_isBerth 3 = .ok (.invokestatic 52, 3) := by decide +kernel
theorem dX7_isBerth_6 : decode cX7_isBerth 6 = .ok (.ireturn, 1) := by decide +kernel
set_option maxRecDepth 100000 in
set_option maxHeartbeats 4000000 in
theorem C_X7_isBerth (l : Launch) (E : gE) (x : gX) {v0 : Int32} {M : gM} {r : Bool} (hf : f_X7_isBerth v0 M = some r) : gM0 l E yX7_isBerth (.code yX7_isBerth cX7_isBerth 1 (some .boolean)) (gR 1 22) M x [.int v0] (some (.int (gb r))) M := by
  refine gMet (by decide +kernel) (Nat.le_of_ble_eq_true rfl) ?_
  intro p e s m args below meth c H locs ls Q hC hl hI kr kv
  replace hC : gC p s m args c cX7_isBerth 1 RX7 E := hC
  replace hl : lv_has ls 1 [(0, .int v0)] := hl
  have hx := hC.1
  have hb := hC.2.1
  unfold f_X7_isBerth at hf
  refine lv_iload_n hx hb dX7_isBerth_0 rfl (lv_at hl 0 rfl) ?_
  refine lv_iconst (v := 0) hx hb dX7_isBerth_1 (by decide) ?_
  refine lv_iconst (v := 2) hx hb dX7_isBerth_2 (by decide) ?_
  obtain ⟨r1, hr2, hf⟩ := gbind hf
  have hr2 := C_X7_in l E x  hr2
  refine g_callSi (rest := []) hC hI hr2 Y_X7_in S_X7_in w1398 ⟨rfl, rfl⟩ ⟨Nat.le_of_ble_eq_true rfl, Nat.le_of_ble_eq_true rfl⟩ rfl hl.1 rfl (Nat.le_of_ble_eq_true rfl) dX7_isBerth_3 ⟨Nat.le_of_ble_eq_true rfl, Nat.le_of_ble_eq_true rfl⟩ (fun H locs hI => ?_)
  exact kr _ _ _ _ _ _ (grb hf) hI ⟨.boolean, rfl, gb_nar _⟩ dX7_isBerth_6
theorem dX7_isStack_0 : decode cX7_isStack 0 = .ok (.iload_n 0, 1) := by decide +kernel
theorem dX7_isStack_1 : decode cX7_isStack 1 = .ok (.invokestatic 56, 3) := by decide +kernel
theorem dX7_isStack_4 : decode cX7_isStack 4 = .ok (.ifCond .eq 16, 3) := by decide +kernel
theorem dX7_isStack_7 : decode cX7_isStack 7 = .ok (.iload_n 1, 1) := by decide +kernel
theorem dX7_isStack_8 : decode cX7_isStack 8 = .ok (.iconst 0, 1) := by decide +kernel
theorem dX7_isStack_9 : decode cX7_isStack 9 = .ok (.iconst 3, 1) := by decide +kernel
theorem dX7_isStack_10 : decode cX7_isStack 10 = .ok (.invokestatic 52, 3) := by decide +kernel
theorem dX7_isStack_13 : decode cX7_isStack 13 = .ok (.ifCond .eq 7, 3) := by decide +kernel
theorem dX7_isStack_16 : decode cX7_isStack 16 = .ok (.iconst 1, 1) := by decide +kernel
theorem dX7_isStack_17 : decode cX7_isStack 17 = .ok (.goto 4, 3) := by decide +kernel
theorem dX7_isStack_20 : decode cX7_isStack 20 = .ok (.iconst 0, 1) := by decide +kernel
theorem dX7_isStack_21 : decode cX7_isStack 21 = .ok (.ireturn, 1) := by decide +kernel
set_option maxRecDepth 100000 in
set_option maxHeartbeats 4000000 in
theorem C_X7_isStack (l : Launch) (E : gE) (x : gX) {v0 v1 : Int32} {M : gM} {r : Bool} (hf : f_X7_isStack v0 v1 M = some r) : gM0 l E yX7_isStack (.code yX7_isStack cX7_isStack 2 (some .boolean)) (gR 2 42) M x [.int v0, .int v1] (some (.int (gb r))) M := by
  refine gMet (by decide +kernel) (Nat.le_of_ble_eq_true rfl) ?_
  intro p e s m args below meth c H locs ls Q hC hl hI kr kv
  replace hC : gC p s m args c cX7_isStack 2 RX7 E := hC
  replace hl : lv_has ls 2 [(0, .int v0), (1, .int v1)] := hl
  have hx := hC.1
  have hb := hC.2.1
  unfold f_X7_isStack at hf
  refine lv_iload_n hx hb dX7_isStack_0 rfl (lv_at hl 0 rfl) ?_
  obtain ⟨r1, hr2, hf⟩ := gbind hf
  have hr2 := C_X7_isBerth l E x  hr2
  refine g_callSi (rest := []) hC hI hr2 Y_X7_isBerth S_X7_isBerth w1395 ⟨rfl, rfl⟩ ⟨Nat.le_of_ble_eq_true rfl, Nat.le_of_ble_eq_true rfl⟩ rfl hl.1 rfl (Nat.le_of_ble_eq_true rfl) dX7_isStack_1 ⟨Nat.le_of_ble_eq_true rfl, Nat.le_of_ble_eq_true rfl⟩ (fun H locs hI => ?_)
  refine lv_if_eq (tgt := 20) hx hb dX7_isStack_4 rfl (fun h3 => ?_) (fun h3 => ?_)
  · replace hf := gif h3 hf
    refine lv_iconst (v := 0) hx hb dX7_isStack_20 (by decide) ?_
    exact kr _ _ _ _ _ _ (grb0 hf) hI ⟨.boolean, rfl, rfl⟩ dX7_isStack_21
  · replace hf := gifn h3 hf
    refine lv_iload_n hx hb dX7_isStack_7 rfl (lv_at hl 1 rfl) ?_
    refine lv_iconst (v := 0) hx hb dX7_isStack_8 (by decide) ?_
    refine lv_iconst (v := 3) hx hb dX7_isStack_9 (by decide) ?_
    obtain ⟨r4, hr5, hf⟩ := gbind hf
    have hr5 := C_X7_in l E x  hr5
    refine g_callSi (rest := []) hC hI hr5 Y_X7_in S_X7_in w1398 ⟨rfl, rfl⟩ ⟨Nat.le_of_ble_eq_true rfl, Nat.le_of_ble_eq_true rfl⟩ rfl hl.1 rfl (Nat.le_of_ble_eq_true rfl) dX7_isStack_10 ⟨Nat.le_of_ble_eq_true rfl, Nat.le_of_ble_eq_true rfl⟩ (fun H locs hI => ?_)
    refine lv_if_eq (tgt := 20) hx hb dX7_isStack_13 rfl (fun h6 => ?_) (fun h6 => ?_)
    · replace hf := gif h6 hf
      refine lv_iconst (v := 0) hx hb dX7_isStack_20 (by decide) ?_
      exact kr _ _ _ _ _ _ (grb0 hf) hI ⟨.boolean, rfl, rfl⟩ dX7_isStack_21
    · replace hf := gifn h6 hf
      refine lv_iconst (v := 1) hx hb dX7_isStack_16 (by decide) ?_
      refine lv_goto (tgt := 21) hx hb dX7_isStack_17 rfl ?_
      exact kr _ _ _ _ _ _ (grb1 hf) hI ⟨.boolean, rfl, rfl⟩ dX7_isStack_21
theorem dX7_isShip_0 : decode cX7_isShip 0 = .ok (.iload_n 1, 1) := by decide +kernel
theorem dX7_isShip_1 : decode cX7_isShip 1 = .ok (.invokestatic 56, 3) := by decide +kernel
theorem dX7_isShip_4 : decode cX7_isShip 4 = .ok (.ifCond .eq 20, 3) := by decide +kernel
theorem dX7_isShip_7 : decode cX7_isShip 7 = .ok (.aload_n 0, 1) := by decide +kernel
theorem dX7_isShip_8 : decode cX7_isShip 8 = .ok (.getfield 7, 3) := by decide +kernel
theorem dX7_isShip_11 : decode cX7_isShip 11 = .ok (.bipush 7, 2) := by decide +kernel
theorem dX7_isShip_13 : decode cX7_isShip 13 = .ok (.iload_n 1, 1) := by decide +kernel
theorem dX7_isShip_14 : decode cX7_isShip 14 = .ok (.iadd, 1) := by decide +kernel
theorem dX7_isShip_15 : decode cX7_isShip 15 = .ok (.iaload, 1) := by decide +kernel
theorem dX7_isShip_16 : decode cX7_isShip 16 = .ok (.iconst 1, 1) := by decide +kernel
theorem dX7_isShip_17 : decode cX7_isShip 17 = .ok (.if_icmp .ne 7, 3) := by decide +kernel
theorem dX7_isShip_20 : decode cX7_isShip 20 = .ok (.iconst 1, 1) := by decide +kernel
theorem dX7_isShip_21 : decode cX7_isShip 21 = .ok (.goto 4, 3) := by decide +kernel
theorem dX7_isShip_24 : decode cX7_isShip 24 = .ok (.iconst 0, 1) := by decide +kernel
theorem dX7_isShip_25 : decode cX7_isShip 25 = .ok (.ireturn, 1) := by decide +kernel
set_option maxRecDepth 100000 in
set_option maxHeartbeats 4000000 in
theorem C_X7_isShip (l : Launch) (E : gE) (x : gX) {v1 : Int32} {M : gM} {r : Bool} (hf : f_X7_isShip v1 M = some r) : gM0 l E yX7_isShip (.code yX7_isShip cX7_isShip 2 (some .boolean)) (gR 2 42) M x [.ref (E.2.1 150), .int v1] (some (.int (gb r))) M := by
  refine gMet (by decide +kernel) (Nat.le_of_ble_eq_true rfl) ?_
  intro p e s m args below meth c H locs ls Q hC hl hI kr kv
  replace hC : gC p s m args c cX7_isShip 2 RX7 E := hC
  replace hl : lv_has ls 2 [(0, .ref (E.2.1 150)), (1, .int v1)] := hl
  have hx := hC.1
  have hb := hC.2.1
  unfold f_X7_isShip at hf
  refine lv_iload_n hx hb dX7_isShip_0 rfl (lv_at hl 1 rfl) ?_
  obtain ⟨r1, hr2, hf⟩ := gbind hf
  have hr2 := C_X7_isBerth l E x  hr2
  refine g_callSi (rest := []) hC hI hr2 Y_X7_isBerth S_X7_isBerth w1395 ⟨rfl, rfl⟩ ⟨Nat.le_of_ble_eq_true rfl, Nat.le_of_ble_eq_true rfl⟩ rfl hl.1 rfl (Nat.le_of_ble_eq_true rfl) dX7_isShip_1 ⟨Nat.le_of_ble_eq_true rfl, Nat.le_of_ble_eq_true rfl⟩ (fun H locs hI => ?_)
  refine lv_if_eq (tgt := 24) hx hb dX7_isShip_4 rfl (fun h3 => ?_) (fun h3 => ?_)
  · replace hf := gif h3 hf
    refine lv_iconst (v := 0) hx hb dX7_isShip_24 (by decide) ?_
    exact kr _ _ _ _ _ _ (grb0 hf) hI ⟨.boolean, rfl, rfl⟩ dX7_isShip_25
  · replace hf := gifn h3 hf
    refine lv_aload_n hx hb dX7_isShip_7 rfl (lv_at hl 0 rfl) ?_
    refine gt_X7_X7_g hC hI dX7_isShip_8 ?_
    refine lv_bipush (v := 7) hx hb dX7_isShip_11 (by decide) ?_
    refine lv_iload_n hx hb dX7_isShip_13 rfl (lv_at hl 1 rfl) ?_
    refine lv_iadd hx hb dX7_isShip_14 ?_
    obtain ⟨h4, hf⟩ := gifN hf
    refine g_iald hC hI (k := (7 + v1).toNatClampNeg) gIA_151 h4 rfl dX7_isShip_15 ?_
    refine lv_iconst (v := 1) hx hb dX7_isShip_16 (by decide) ?_
    refine lv_icmp_ne (tgt := 24) hx hb dX7_isShip_17 rfl (fun h5 => ?_) (fun h5 => ?_)
    · replace hf := gifn h5 hf
      refine lv_iconst (v := 0) hx hb dX7_isShip_24 (by decide) ?_
      exact kr _ _ _ _ _ _ (grb0 hf) hI ⟨.boolean, rfl, rfl⟩ dX7_isShip_25
    · replace hf := gif h5 hf
      refine lv_iconst (v := 1) hx hb dX7_isShip_20 (by decide) ?_
      refine lv_goto (tgt := 25) hx hb dX7_isShip_21 rfl ?_
      exact kr _ _ _ _ _ _ (grb1 hf) hI ⟨.boolean, rfl, rfl⟩ dX7_isShip_25
theorem dX7_height_0 : decode cX7_height 0 = .ok (.aload_n 0, 1) := by decide +kernel
theorem dX7_height_1 : decode cX7_height 1 = .ok (.getfield 7, 3) := by decide +kernel
theorem dX7_height_4 : decode cX7_height 4 = .ok (.bipush 22, 2) := by decide +kernel
theorem dX7_height_6 : decode cX7_height 6 = .ok (.iconst 4, 1) := by decide +kernel
theorem dX7_height_7 : decode cX7_height 7 = .ok (.iload_n 1, 1) := by decide +kernel
theorem dX7_height_8 : decode cX7_height 8 = .ok (.imul, 1) := by decide +kernel
theorem dX7_height_9 : decode cX7_height 9 = .ok (.iadd, 1) := by decide +kernel
theorem dX7_height_10 : decode cX7_height 10 = .ok (.iload_n 2, 1) := by decide +kernel
theorem dX7_height_11 : decode cX7_height 11 = .ok (.iadd, 1) := by decide +kernel
theorem dX7_height_12 : decode cX7_height 12 = .ok (.iaload, 1) := by decide +kernel
theorem dX7_height_13 : decode cX7_height 13 = .ok (.ireturn, 1) := by decide +kernel
set_option maxRecDepth 100000 in
set_option maxHeartbeats 4000000 in
theorem C_X7_height (l : Launch) (E : gE) (x : gX) {v1 v2 : Int32} {M : gM} {r : Int32} (hf : f_X7_height v1 v2 M = some r) : gM0 l E yX7_height (.code yX7_height cX7_height 3 (some .int)) (gR 0 0) M x [.ref (E.2.1 150), .int v1, .int v2] (some (.int r)) M := by
  refine gMet (by decide +kernel) (Nat.le_of_ble_eq_true rfl) ?_
  intro p e s m args below meth c H locs ls Q hC hl hI kr kv
  replace hC : gC p s m args c cX7_height 3 RX7 E := hC
  replace hl : lv_has ls 3 [(0, .ref (E.2.1 150)), (1, .int v1), (2, .int v2)] := hl
  have hx := hC.1
  have hb := hC.2.1
  unfold f_X7_height at hf
  refine lv_aload_n hx hb dX7_height_0 rfl (lv_at hl 0 rfl) ?_
  refine gt_X7_X7_g hC hI dX7_height_1 ?_
  refine lv_bipush (v := 22) hx hb dX7_height_4 (by decide) ?_
  refine lv_iconst (v := 4) hx hb dX7_height_6 (by decide) ?_
  refine lv_iload_n hx hb dX7_height_7 rfl (lv_at hl 1 rfl) ?_
  refine lv_imul hx hb dX7_height_8 ?_
  refine lv_iadd hx hb dX7_height_9 ?_
  refine lv_iload_n hx hb dX7_height_10 rfl (lv_at hl 2 rfl) ?_
  refine lv_iadd hx hb dX7_height_11 ?_
  obtain ⟨h1, hf⟩ := gifN hf
  refine g_iald hC hI (k := ((22 + (4 * v1)) + v2).toNatClampNeg) gIA_151 h1 rfl dX7_height_12 ?_
  exact kr _ _ _ _ _ _ (gri hf) hI ⟨.int, rfl, rfl⟩ dX7_height_13
theorem dX7_cell_0 : decode cX7_cell 0 = .ok (.bipush 20, 2) := by decide +kernel
theorem dX7_cell_2 : decode cX7_cell 2 = .ok (.iload_n 0, 1) := by decide +kernel
theorem dX7_cell_3 : decode cX7_cell 3 = .ok (.imul, 1) := by decide +kernel
theorem dX7_cell_4 : decode cX7_cell 4 = .ok (.iconst 5, 1) := by decide +kernel
theorem dX7_cell_5 : decode cX7_cell 5 = .ok (.iload_n 1, 1) := by decide +kernel
theorem dX7_cell_6 : decode cX7_cell 6 = .ok (.imul, 1) := by decide +kernel
theorem dX7_cell_7 : decode cX7_cell 7 = .ok (.iadd, 1) := by decide +kernel
theorem dX7_cell_8 : decode cX7_cell 8 = .ok (.iload_n 2, 1) := by decide +kernel
theorem dX7_cell_9 : decode cX7_cell 9 = .ok (.iadd, 1) := by decide +kernel
theorem dX7_cell_10 : decode cX7_cell 10 = .ok (.ireturn, 1) := by decide +kernel
set_option maxRecDepth 100000 in
set_option maxHeartbeats 4000000 in
theorem C_X7_cell (l : Launch) (E : gE) (x : gX) {v0 v1 v2 : Int32} {M : gM} {r : Int32} (hf : f_X7_cell v0 v1 v2 M = some r) : gM0 l E yX7_cell (.code yX7_cell cX7_cell 3 (some .int)) (gR 0 0) M x [.int v0, .int v1, .int v2] (some (.int r)) M := by
  refine gMet (by decide +kernel) (Nat.le_of_ble_eq_true rfl) ?_
  intro p e s m args below meth c H locs ls Q hC hl hI kr kv
  replace hC : gC p s m args c cX7_cell 3 RX7 E := hC
  replace hl : lv_has ls 3 [(0, .int v0), (1, .int v1), (2, .int v2)] := hl
  have hx := hC.1
  have hb := hC.2.1
  unfold f_X7_cell at hf
  refine lv_bipush (v := 20) hx hb dX7_cell_0 (by decide) ?_
  refine lv_iload_n hx hb dX7_cell_2 rfl (lv_at hl 0 rfl) ?_
  refine lv_imul hx hb dX7_cell_3 ?_
  refine lv_iconst (v := 5) hx hb dX7_cell_4 (by decide) ?_
  refine lv_iload_n hx hb dX7_cell_5 rfl (lv_at hl 1 rfl) ?_
  refine lv_imul hx hb dX7_cell_6 ?_
  refine lv_iadd hx hb dX7_cell_7 ?_
  refine lv_iload_n hx hb dX7_cell_8 rfl (lv_at hl 2 rfl) ?_
  refine lv_iadd hx hb dX7_cell_9 ?_
  exact kr _ _ _ _ _ _ (gri hf) hI ⟨.int, rfl, rfl⟩ dX7_cell_10
theorem dX7_isFull_0 : decode cX7_isFull 0 = .ok (.iload_n 1, 1) := by decide +kernel
theorem dX7_isFull_1 : decode cX7_isFull 1 = .ok (.iconst 5, 1) := by decide +kernel
theorem dX7_isFull_2 : decode cX7_isFull 2 = .ok (.irem, 1) := by decide +kernel
theorem dX7_isFull_3 : decode cX7_isFull 3 = .ok (.aload_n 0, 1) := by decide +kernel
theorem dX7_isFull_4 : decode cX7_isFull 4 = .ok (.getfield 7, 3) := by decide +kernel
theorem dX7_isFull_7 : decode cX7_isFull 7 = .ok (.bipush 22, 2) := by decide +kernel
theorem dX7_isFull_9 : decode cX7_isFull 9 = .ok (.iload_n 1, 1) := by decide +kernel
theorem dX7_isFull_10 : decode cX7_isFull 10 = .ok (.iconst 5, 1) := by decide +kernel
theorem dX7_isFull_11 : decode cX7_isFull 11 = .ok (.idiv, 1) := by decide +kernel
theorem dX7_isFull_12 : decode cX7_isFull 12 = .ok (.iadd, 1) := by decide +kernel
theorem dX7_isFull_13 : decode cX7_isFull 13 = .ok (.iaload, 1) := by decide +kernel
theorem dX7_isFull_14 : decode cX7_isFull 14 = .ok (.if_icmp .ge 7, 3) := by decide +kernel
theorem dX7_isFull_17 : decode cX7_isFull 17 = .ok (.iconst 1, 1) := by decide +kernel
theorem dX7_isFull_18 : decode cX7_isFull 18 = .ok (.goto 4, 3) := by decide +kernel
theorem dX7_isFull_21 : decode cX7_isFull 21 = .ok (.iconst 0, 1) := by decide +kernel
theorem dX7_isFull_22 : decode cX7_isFull 22 = .ok (.ireturn, 1) := by decide +kernel
set_option maxRecDepth 100000 in
set_option maxHeartbeats 4000000 in
theorem C_X7_isFull (l : Launch) (E : gE) (x : gX) {v1 : Int32} {M : gM} {r : Bool} (hf : f_X7_isFull v1 M = some r) : gM0 l E yX7_isFull (.code yX7_isFull cX7_isFull 2 (some .boolean)) (gR 0 0) M x [.ref (E.2.1 150), .int v1] (some (.int (gb r))) M := by
  refine gMet (by decide +kernel) (Nat.le_of_ble_eq_true rfl) ?_
  intro p e s m args below meth c H locs ls Q hC hl hI kr kv
  replace hC : gC p s m args c cX7_isFull 2 RX7 E := hC
  replace hl : lv_has ls 2 [(0, .ref (E.2.1 150)), (1, .int v1)] := hl
  have hx := hC.1
  have hb := hC.2.1
  unfold f_X7_isFull at hf
  refine lv_iload_n hx hb dX7_isFull_0 rfl (lv_at hl 1 rfl) ?_
  refine lv_iconst (v := 5) hx hb dX7_isFull_1 (by decide) ?_
  refine lv_irem hx hb dX7_isFull_2 (by decide) ?_
  refine lv_aload_n hx hb dX7_isFull_3 rfl (lv_at hl 0 rfl) ?_
  refine gt_X7_X7_g hC hI dX7_isFull_4 ?_
  refine lv_bipush (v := 22) hx hb dX7_isFull_7 (by decide) ?_
  refine lv_iload_n hx hb dX7_isFull_9 rfl (lv_at hl 1 rfl) ?_
  refine lv_iconst (v := 5) hx hb dX7_isFull_10 (by decide) ?_
  refine lv_idiv hx hb dX7_isFull_11 (by decide) ?_
  refine lv_iadd hx hb dX7_isFull_12 ?_
  obtain ⟨h1, hf⟩ := gifN hf
  refine g_iald hC hI (k := (22 + (v1 / 5)).toNatClampNeg) gIA_151 h1 rfl dX7_isFull_13 ?_
  refine lv_icmp_ge (tgt := 21) hx hb dX7_isFull_14 rfl (fun h2 => ?_) (fun h2 => ?_)
  · replace hf := gif h2 hf
    refine lv_iconst (v := 0) hx hb dX7_isFull_21 (by decide) ?_
    exact kr _ _ _ _ _ _ (grb0 hf) hI ⟨.boolean, rfl, rfl⟩ dX7_isFull_22
  · replace hf := gifn h2 hf
    refine lv_iconst (v := 1) hx hb dX7_isFull_17 (by decide) ?_
    refine lv_goto (tgt := 22) hx hb dX7_isFull_18 rfl ?_
    exact kr _ _ _ _ _ _ (grb1 hf) hI ⟨.boolean, rfl, rfl⟩ dX7_isFull_22
theorem dX7_cellOf_0 : decode cX7_cellOf 0 = .ok (.iconst 0, 1) := by decide +kernel
theorem dX7_cellOf_1 : decode cX7_cellOf 1 = .ok (.istore_n 2, 1) := by decide +kernel
theorem dX7_cellOf_2 : decode cX7_cellOf 2 = .ok (.iload_n 2, 1) := by decide +kernel
theorem dX7_cellOf_3 : decode cX7_cellOf 3 = .ok (.bipush 60, 2) := by decide +kernel
theorem dX7_cellOf_5 : decode cX7_cellOf 5 = .ok (.if_icmp .ge 32, 3) := by decide +kernel
theorem dX7_cellOf_8 : decode cX7_cellOf 8 = .ok (.aload_n 0, 1) := by decide +kernel
theorem dX7_cellOf_9 : decode cX7_cellOf 9 = .ok (.iload_n 2, 1) := by decide +kernel
theorem dX7_cellOf_10 : decode cX7_cellOf 10 = .ok (.invokevirtual 60, 3) := by decide +kernel
theorem dX7_cellOf_13 : decode cX7_cellOf 13 = .ok (.ifCond .eq 18, 3) := by decide +kernel
theorem dX7_cellOf_16 : decode cX7_cellOf 16 = .ok (.aload_n 0, 1) := by decide +kernel
theorem dX7_cellOf_17 : decode cX7_cellOf 17 = .ok (.getfield 7, 3) := by decide +kernel
theorem dX7_cellOf_20 : decode cX7_cellOf 20 = .ok (.bipush 34, 2) := by decide +kernel
theorem dX7_cellOf_22 : decode cX7_cellOf 22 = .ok (.iload_n 2, 1) := by decide +kernel
theorem dX7_cellOf_23 : decode cX7_cellOf 23 = .ok (.iadd, 1) := by decide +kernel
theorem dX7_cellOf_24 : decode cX7_cellOf 24 = .ok (.iaload, 1) := by decide +kernel
theorem dX7_cellOf_25 : decode cX7_cellOf 25 = .ok (.iload_n 1, 1) := by decide +kernel
theorem dX7_cellOf_26 : decode cX7_cellOf 26 = .ok (.if_icmp .ne 5, 3) := by decide +kernel
theorem dX7_cellOf_29 : decode cX7_cellOf 29 = .ok (.iload_n 2, 1) := by decide +kernel
theorem dX7_cellOf_30 : decode cX7_cellOf 30 = .ok (.ireturn, 1) := by decide +kernel
theorem dX7_cellOf_31 : decode cX7_cellOf 31 = .ok (.iinc 2 1, 3) := by decide +kernel
theorem dX7_cellOf_34 : decode cX7_cellOf 34 = .ok (.goto (-32), 3) := by decide +kernel
theorem dX7_cellOf_37 : decode cX7_cellOf 37 = .ok (.iconst (-1), 1) := by decide +kernel
theorem dX7_cellOf_38 : decode cX7_cellOf 38 = .ok (.ireturn, 1) := by decide +kernel
set_option maxRecDepth 100000 in
set_option maxHeartbeats 4000000 in
theorem C_X7_cellOf (l : Launch) (E : gE) (x : gX) {v1 : Int32} {M : gM} {r : Int32} (hf : f_X7_cellOf v1 M = some r) : gM0 l E yX7_cellOf (.code yX7_cellOf cX7_cellOf 3 (some .int)) (gR 1 21) M x [.ref (E.2.1 150), .int v1] (some (.int r)) M := by
  refine gMet (by decide +kernel) (Nat.le_of_ble_eq_true rfl) ?_
  intro p e s m args below meth c H locs ls Q hC hl hI kr kv
  replace hC : gC p s m args c cX7_cellOf 3 RX7 E := hC
  replace hl : lv_has ls 3 [(0, .ref (E.2.1 150)), (1, .int v1)] := hl
  have hx := hC.1
  have hb := hC.2.1
  have L2 : ∀ (v1 : Int32) (n : Nat) (v2 : Int32), f_X7_cellOf_L2 M v1 n v2 = some r → ∀ (H : Heap) (locs : List Loc) (ls : Array Slot), gI E s M x H locs → lv_has ls 3 [(2, .int v2), (0, .ref (E.2.1 150)), (1, .int v1)] → W p l e (gR 1 21) s m args below meth c H locs 0 0 Q (F0 m 2 ls []) := by
    intro v1 n
    induction n with
    | zero => intro v2 hf; rw [f_X7_cellOf_L2] at hf; cases hf
    | succ n ih =>
      intro v2 hf H locs ls hI hl
      rw [f_X7_cellOf_L2] at hf
      refine lv_iload_n hx hb dX7_cellOf_2 rfl (lv_at hl 0 rfl) ?_
      refine lv_bipush (v := 60) hx hb dX7_cellOf_3 (by decide) ?_
      refine lv_icmp_ge (tgt := 37) hx hb dX7_cellOf_5 rfl (fun h1 => ?_) (fun h1 => ?_)
      · replace hf := gif h1 hf
        refine lv_iconst (v := (-1)) hx hb dX7_cellOf_37 (by decide) ?_
        exact kr _ _ _ _ _ _ (gri hf) hI ⟨.int, rfl, rfl⟩ dX7_cellOf_38
      · replace hf := gifn h1 hf
        refine lv_aload_n hx hb dX7_cellOf_8 rfl (lv_at hl 1 rfl) ?_
        refine lv_iload_n hx hb dX7_cellOf_9 rfl (lv_at hl 0 rfl) ?_
        obtain ⟨r2, hr3, hf⟩ := gbind hf
        have hr3 := C_X7_isFull l E x  hr3
        refine g_callVi (rest := []) hC hI hr3 Y_X7_isFull V_X7_isFull w1602 (rcv_X7 hC hI) ⟨rfl, rfl⟩ ⟨Nat.le_of_ble_eq_true rfl, Nat.le_of_ble_eq_true rfl⟩ rfl hl.1 rfl (Nat.le_of_ble_eq_true rfl) dX7_cellOf_10 ⟨Nat.le_of_ble_eq_true rfl, Nat.le_of_ble_eq_true rfl⟩ (fun H locs hI => ?_)
        refine lv_if_eq (tgt := 31) hx hb dX7_cellOf_13 rfl (fun h4 => ?_) (fun h4 => ?_)
        · replace hf := gif h4 hf
          refine lv_iinc (k := 0) (v := v2 + 1) (lv' := [(2, .int (v2 + 1)), (0, .ref (E.2.1 150)), (1, .int v1)]) hx hb dX7_cellOf_31 hl rfl rfl (by decide) rfl (fun ls hl => ?_)
          refine lv_goto (tgt := 2) hx hb dX7_cellOf_34 rfl ?_
          exact ih (v2 + 1) hf _ _ _ hI (lv_sub hl [0, 1, 2] rfl)
        · replace hf := gifn h4 hf
          refine lv_aload_n hx hb dX7_cellOf_16 rfl (lv_at hl 1 rfl) ?_
          refine gt_X7_X7_g hC hI dX7_cellOf_17 ?_
          refine lv_bipush (v := 34) hx hb dX7_cellOf_20 (by decide) ?_
          refine lv_iload_n hx hb dX7_cellOf_22 rfl (lv_at hl 0 rfl) ?_
          refine lv_iadd hx hb dX7_cellOf_23 ?_
          obtain ⟨h5, hf⟩ := gifN hf
          refine g_iald hC hI (k := (34 + v2).toNatClampNeg) gIA_151 h5 rfl dX7_cellOf_24 ?_
          refine lv_iload_n hx hb dX7_cellOf_25 rfl (lv_at hl 2 rfl) ?_
          refine lv_icmp_ne (tgt := 31) hx hb dX7_cellOf_26 rfl (fun h6 => ?_) (fun h6 => ?_)
          · replace hf := gifn h6 hf
            refine lv_iinc (k := 0) (v := v2 + 1) (lv' := [(2, .int (v2 + 1)), (0, .ref (E.2.1 150)), (1, .int v1)]) hx hb dX7_cellOf_31 hl rfl rfl (by decide) rfl (fun ls hl => ?_)
            refine lv_goto (tgt := 2) hx hb dX7_cellOf_34 rfl ?_
            exact ih (v2 + 1) hf _ _ _ hI (lv_sub hl [0, 1, 2] rfl)
          · replace hf := gif h6 hf
            refine lv_iload_n hx hb dX7_cellOf_29 rfl (lv_at hl 0 rfl) ?_
            exact kr _ _ _ _ _ _ (gri hf) hI ⟨.int, rfl, rfl⟩ dX7_cellOf_30
  unfold f_X7_cellOf at hf
  refine lv_iconst (v := 0) hx hb dX7_cellOf_0 (by decide) ?_
  refine lv_istore_n (lv' := [(2, .int 0), (0, .ref (E.2.1 150)), (1, .int v1)]) hx hb dX7_cellOf_1 rfl hl (by decide) rfl (fun ls hl => ?_)
  exact L2 v1 gF 0 hf _ _ _ hI (lv_sub hl [0, 1, 2] rfl)
theorem dX7_placeOf_0 : decode cX7_placeOf 0 = .ok (.iconst 0, 1) := by decide +kernel
theorem dX7_placeOf_1 : decode cX7_placeOf 1 = .ok (.istore_n 2, 1) := by decide +kernel
theorem dX7_placeOf_2 : decode cX7_placeOf 2 = .ok (.iload_n 2, 1) := by decide +kernel
theorem dX7_placeOf_3 : decode cX7_placeOf 3 = .ok (.aload_n 0, 1) := by decide +kernel
theorem dX7_placeOf_4 : decode cX7_placeOf 4 = .ok (.getfield 7, 3) := by decide +kernel
theorem dX7_placeOf_7 : decode cX7_placeOf 7 = .ok (.bipush 6, 2) := by decide +kernel
theorem dX7_placeOf_9 : decode cX7_placeOf 9 = .ok (.iaload, 1) := by decide +kernel
theorem dX7_placeOf_10 : decode cX7_placeOf 10 = .ok (.if_icmp .ge 25, 3) := by decide +kernel
theorem dX7_placeOf_13 : decode cX7_placeOf 13 = .ok (.aload_n 0, 1) := by decide +kernel
theorem dX7_placeOf_14 : decode cX7_placeOf 14 = .ok (.getfield 7, 3) := by decide +kernel
theorem dX7_placeOf_17 : decode cX7_placeOf 17 = .ok (.sipush 214, 3) := by decide +kernel
theorem dX7_placeOf_20 : decode cX7_placeOf 20 = .ok (.iload_n 2, 1) := by decide +kernel
theorem dX7_placeOf_21 : decode cX7_placeOf 21 = .ok (.iadd, 1) := by decide +kernel
theorem dX7_placeOf_22 : decode cX7_placeOf 22 = .ok (.iaload, 1) := by decide +kernel
theorem dX7_placeOf_23 : decode cX7_placeOf 23 = .ok (.iload_n 1, 1) := by decide +kernel
theorem dX7_placeOf_24 : decode cX7_placeOf 24 = .ok (.if_icmp .ne 5, 3) := by decide +kernel
theorem dX7_placeOf_27 : decode cX7_placeOf 27 = .ok (.iload_n 2, 1) := by decide +kernel
theorem dX7_placeOf_28 : decode cX7_placeOf 28 = .ok (.ireturn, 1) := by decide +kernel
theorem dX7_placeOf_29 : decode cX7_placeOf 29 = .ok (.iinc 2 1, 3) := by decide +kernel
theorem dX7_placeOf_32 : decode cX7_placeOf 32 = .ok (.goto (-30), 3) := by decide +kernel
theorem dX7_placeOf_35 : decode cX7_placeOf 35 = .ok (.iconst (-1), 1) := by decide +kernel
theorem dX7_placeOf_36 : decode cX7_placeOf 36 = .ok (.ireturn, 1) := by decide +kernel
set_option maxRecDepth 100000 in
set_option maxHeartbeats 4000000 in
theorem C_X7_placeOf (l : Launch) (E : gE) (x : gX) {v1 : Int32} {M : gM} {r : Int32} (hf : f_X7_placeOf v1 M = some r) : gM0 l E yX7_placeOf (.code yX7_placeOf cX7_placeOf 3 (some .int)) (gR 0 0) M x [.ref (E.2.1 150), .int v1] (some (.int r)) M := by
  refine gMet (by decide +kernel) (Nat.le_of_ble_eq_true rfl) ?_
  intro p e s m args below meth c H locs ls Q hC hl hI kr kv
  replace hC : gC p s m args c cX7_placeOf 3 RX7 E := hC
  replace hl : lv_has ls 3 [(0, .ref (E.2.1 150)), (1, .int v1)] := hl
  have hx := hC.1
  have hb := hC.2.1
  have L2 : ∀ (v1 : Int32) (n : Nat) (v2 : Int32), f_X7_placeOf_L2 M v1 n v2 = some r → ∀ (H : Heap) (locs : List Loc) (ls : Array Slot), gI E s M x H locs → lv_has ls 3 [(2, .int v2), (0, .ref (E.2.1 150)), (1, .int v1)] → W p l e (gR 0 0) s m args below meth c H locs 0 0 Q (F0 m 2 ls []) := by
    intro v1 n
    induction n with
    | zero => intro v2 hf; rw [f_X7_placeOf_L2] at hf; cases hf
    | succ n ih =>
      intro v2 hf H locs ls hI hl
      rw [f_X7_placeOf_L2] at hf
      refine lv_iload_n hx hb dX7_placeOf_2 rfl (lv_at hl 0 rfl) ?_
      refine lv_aload_n hx hb dX7_placeOf_3 rfl (lv_at hl 1 rfl) ?_
      refine gt_X7_X7_g hC hI dX7_placeOf_4 ?_
      refine lv_bipush (v := 6) hx hb dX7_placeOf_7 (by decide) ?_
      refine g_iald hC hI (k := 6) gIA_151 (by decide) rfl dX7_placeOf_9 ?_
      refine lv_icmp_ge (tgt := 35) hx hb dX7_placeOf_10 rfl (fun h1 => ?_) (fun h1 => ?_)
      · replace hf := gif h1 hf
        refine lv_iconst (v := (-1)) hx hb dX7_placeOf_35 (by decide) ?_
        exact kr _ _ _ _ _ _ (gri hf) hI ⟨.int, rfl, rfl⟩ dX7_placeOf_36
      · replace hf := gifn h1 hf
        refine lv_aload_n hx hb dX7_placeOf_13 rfl (lv_at hl 1 rfl) ?_
        refine gt_X7_X7_g hC hI dX7_placeOf_14 ?_
        refine lv_sipush (v := 214) hx hb dX7_placeOf_17 (by decide) ?_
        refine lv_iload_n hx hb dX7_placeOf_20 rfl (lv_at hl 0 rfl) ?_
        refine lv_iadd hx hb dX7_placeOf_21 ?_
        obtain ⟨h2, hf⟩ := gifN hf
        refine g_iald hC hI (k := (214 + v2).toNatClampNeg) gIA_151 h2 rfl dX7_placeOf_22 ?_
        refine lv_iload_n hx hb dX7_placeOf_23 rfl (lv_at hl 2 rfl) ?_
        refine lv_icmp_ne (tgt := 29) hx hb dX7_placeOf_24 rfl (fun h3 => ?_) (fun h3 => ?_)
        · replace hf := gifn h3 hf
          refine lv_iinc (k := 0) (v := v2 + 1) (lv' := [(2, .int (v2 + 1)), (0, .ref (E.2.1 150)), (1, .int v1)]) hx hb dX7_placeOf_29 hl rfl rfl (by decide) rfl (fun ls hl => ?_)
          refine lv_goto (tgt := 2) hx hb dX7_placeOf_32 rfl ?_
          exact ih (v2 + 1) hf _ _ _ hI (lv_sub hl [0, 1, 2] rfl)
        · replace hf := gif h3 hf
          refine lv_iload_n hx hb dX7_placeOf_27 rfl (lv_at hl 0 rfl) ?_
          exact kr _ _ _ _ _ _ (gri hf) hI ⟨.int, rfl, rfl⟩ dX7_placeOf_28
  unfold f_X7_placeOf at hf
  refine lv_iconst (v := 0) hx hb dX7_placeOf_0 (by decide) ?_
  refine lv_istore_n (lv' := [(2, .int 0), (0, .ref (E.2.1 150)), (1, .int v1)]) hx hb dX7_placeOf_1 rfl hl (by decide) rfl (fun ls hl => ?_)
  exact L2 v1 gF 0 hf _ _ _ hI (lv_sub hl [0, 1, 2] rfl)
theorem dX7_ships_0 : decode cX7_ships 0 = .ok (.aload_n 0, 1) := by decide +kernel
theorem dX7_ships_1 : decode cX7_ships 1 = .ok (.getfield 7, 3) := by decide +kernel
theorem dX7_ships_4 : decode cX7_ships 4 = .ok (.bipush 7, 2) := by decide +kernel
theorem dX7_ships_6 : decode cX7_ships 6 = .ok (.iaload, 1) := by decide +kernel
theorem dX7_ships_7 : decode cX7_ships 7 = .ok (.aload_n 0, 1) := by decide +kernel
theorem dX7_ships_8 : decode cX7_ships 8 = .ok (.getfield 7, 3) := by decide +kernel
theorem dX7_ships_11 : decode cX7_ships 11 = .ok (.bipush 8, 2) := by decide +kernel
theorem dX7_ships_13 : decode cX7_ships 13 = .ok (.iaload, 1) := by decide +kernel
theorem dX7_ships_14 : decode cX7_ships 14 = .ok (.iadd, 1) := by decide +kernel
theorem dX7_ships_15 : decode cX7_ships 15 = .ok (.aload_n 0, 1) := by decide +kernel
theorem dX7_ships_16 : decode cX7_ships 16 = .ok (.getfield 7, 3) := by decide +kernel
theorem dX7_ships_19 : decode cX7_ships 19 = .ok (.bipush 9, 2) := by decide +kernel
theorem dX7_ships_21 : decode cX7_ships 21 = .ok (.iaload, 1) := by decide +kernel
theorem dX7_ships_22 : decode cX7_ships 22 = .ok (.iadd, 1) := by decide +kernel
theorem dX7_ships_23 : decode cX7_ships 23 = .ok (.ireturn, 1) := by decide +kernel
set_option maxRecDepth 100000 in
set_option maxHeartbeats 4000000 in
theorem C_X7_ships (l : Launch) (E : gE) (x : gX) {M : gM} {r : Int32} (hf : f_X7_ships M = some r) : gM0 l E yX7_ships (.code yX7_ships cX7_ships 1 (some .int)) (gR 0 0) M x [.ref (E.2.1 150)] (some (.int r)) M := by
  refine gMet (by decide +kernel) (Nat.le_of_ble_eq_true rfl) ?_
  intro p e s m args below meth c H locs ls Q hC hl hI kr kv
  replace hC : gC p s m args c cX7_ships 1 RX7 E := hC
  replace hl : lv_has ls 1 [(0, .ref (E.2.1 150))] := hl
  have hx := hC.1
  have hb := hC.2.1
  unfold f_X7_ships at hf
  refine lv_aload_n hx hb dX7_ships_0 rfl (lv_at hl 0 rfl) ?_
  refine gt_X7_X7_g hC hI dX7_ships_1 ?_
  refine lv_bipush (v := 7) hx hb dX7_ships_4 (by decide) ?_
  refine g_iald hC hI (k := 7) gIA_151 (by decide) rfl dX7_ships_6 ?_
  refine lv_aload_n hx hb dX7_ships_7 rfl (lv_at hl 0 rfl) ?_
  refine gt_X7_X7_g hC hI dX7_ships_8 ?_
  refine lv_bipush (v := 8) hx hb dX7_ships_11 (by decide) ?_
  refine g_iald hC hI (k := 8) gIA_151 (by decide) rfl dX7_ships_13 ?_
  refine lv_iadd hx hb dX7_ships_14 ?_
  refine lv_aload_n hx hb dX7_ships_15 rfl (lv_at hl 0 rfl) ?_
  refine gt_X7_X7_g hC hI dX7_ships_16 ?_
  refine lv_bipush (v := 9) hx hb dX7_ships_19 (by decide) ?_
  refine g_iald hC hI (k := 9) gIA_151 (by decide) rfl dX7_ships_21 ?_
  refine lv_iadd hx hb dX7_ships_22 ?_
  exact kr _ _ _ _ _ _ (gri hf) hI ⟨.int, rfl, rfl⟩ dX7_ships_23
theorem dX7_load_0 : decode cX7_load 0 = .ok (.iconst 0, 1) := by decide +kernel
theorem dX7_load_1 : decode cX7_load 1 = .ok (.istore_n 2, 1) := by decide +kernel
theorem dX7_load_2 : decode cX7_load 2 = .ok (.iconst 0, 1) := by decide +kernel
theorem dX7_load_3 : decode cX7_load 3 = .ok (.istore_n 3, 1) := by decide +kernel
theorem dX7_load_4 : decode cX7_load 4 = .ok (.iload_n 3, 1) := by decide +kernel
theorem dX7_load_5 : decode cX7_load 5 = .ok (.iconst 4, 1) := by decide +kernel
theorem dX7_load_6 : decode cX7_load 6 = .ok (.if_icmp .ge 18, 3) := by decide +kernel
theorem dX7_load_9 : decode cX7_load 9 = .ok (.iload_n 2, 1) := by decide +kernel
theorem dX7_load_10 : decode cX7_load 10 = .ok (.aload_n 0, 1) := by decide +kernel
theorem dX7_load_11 : decode cX7_load 11 = .ok (.iload_n 1, 1) := by decide +kernel
theorem dX7_load_12 : decode cX7_load 12 = .ok (.iload_n 3, 1) := by decide +kernel
theorem dX7_load_13 : decode cX7_load 13 = .ok (.invokevirtual 63, 3) := by decide +kernel
theorem dX7_load_16 : decode cX7_load 16 = .ok (.iadd, 1) := by decide +kernel
theorem dX7_load_17 : decode cX7_load 17 = .ok (.istore_n 2, 1) := by decide +kernel
theorem dX7_load_18 : decode cX7_load 18 = .ok (.iinc 3 1, 3) := by decide +kernel
theorem dX7_load_21 : decode cX7_load 21 = .ok (.goto (-17), 3) := by decide +kernel
theorem dX7_load_24 : decode cX7_load 24 = .ok (.iload_n 2, 1) := by decide +kernel
theorem dX7_load_25 : decode cX7_load 25 = .ok (.ireturn, 1) := by decide +kernel
set_option maxRecDepth 100000 in
set_option maxHeartbeats 4000000 in
theorem C_X7_load (l : Launch) (E : gE) (x : gX) {v1 : Int32} {M : gM} {r : Int32} (hf : f_X7_load v1 M = some r) : gM0 l E yX7_load (.code yX7_load cX7_load 4 (some .int)) (gR 1 22) M x [.ref (E.2.1 150), .int v1] (some (.int r)) M := by
  refine gMet (by decide +kernel) (Nat.le_of_ble_eq_true rfl) ?_
  intro p e s m args below meth c H locs ls Q hC hl hI kr kv
  replace hC : gC p s m args c cX7_load 4 RX7 E := hC
  replace hl : lv_has ls 4 [(0, .ref (E.2.1 150)), (1, .int v1)] := hl
  have hx := hC.1
  have hb := hC.2.1
  have L4 : ∀ (v1 : Int32) (n : Nat) (v3 : Int32) (v2 : Int32), f_X7_load_L4 M v1 n v3 v2 = some r → ∀ (H : Heap) (locs : List Loc) (ls : Array Slot), gI E s M x H locs → lv_has ls 4 [(3, .int v3), (2, .int v2), (0, .ref (E.2.1 150)), (1, .int v1)] → W p l e (gR 1 22) s m args below meth c H locs 0 0 Q (F0 m 4 ls []) := by
    intro v1 n
    induction n with
    | zero => intro v3 v2 hf; rw [f_X7_load_L4] at hf; cases hf
    | succ n ih =>
      intro v3 v2 hf H locs ls hI hl
      rw [f_X7_load_L4] at hf
      refine lv_iload_n hx hb dX7_load_4 rfl (lv_at hl 0 rfl) ?_
      refine lv_iconst (v := 4) hx hb dX7_load_5 (by decide) ?_
      refine lv_icmp_ge (tgt := 24) hx hb dX7_load_6 rfl (fun h1 => ?_) (fun h1 => ?_)
      · replace hf := gif h1 hf
        refine lv_iload_n hx hb dX7_load_24 rfl (lv_at hl 1 rfl) ?_
        exact kr _ _ _ _ _ _ (gri hf) hI ⟨.int, rfl, rfl⟩ dX7_load_25
      · replace hf := gifn h1 hf
        refine lv_iload_n hx hb dX7_load_9 rfl (lv_at hl 1 rfl) ?_
        refine lv_aload_n hx hb dX7_load_10 rfl (lv_at hl 2 rfl) ?_
        refine lv_iload_n hx hb dX7_load_11 rfl (lv_at hl 3 rfl) ?_
        refine lv_iload_n hx hb dX7_load_12 rfl (lv_at hl 0 rfl) ?_
        obtain ⟨r2, hr3, hf⟩ := gbind hf
        have hr3 := C_X7_height l E x  hr3
        refine g_callVi (rest := [.int v2]) hC hI hr3 Y_X7_height V_X7_height w1428 (rcv_X7 hC hI) ⟨rfl, rfl⟩ ⟨Nat.le_of_ble_eq_true rfl, Nat.le_of_ble_eq_true rfl⟩ rfl hl.1 rfl (Nat.le_of_ble_eq_true rfl) dX7_load_13 ⟨Nat.le_of_ble_eq_true rfl, Nat.le_of_ble_eq_true rfl⟩ (fun H locs hI => ?_)
        refine lv_iadd hx hb dX7_load_16 ?_
        obtain ⟨z4, ez4, hf⟩ := glet hf
        refine g_top ez4 ?_
        refine lv_istore_n (lv' := [(2, .int z4), (3, .int v3), (0, .ref (E.2.1 150)), (1, .int v1)]) hx hb dX7_load_17 rfl hl (by decide) rfl (fun ls hl => ?_)
        refine lv_iinc (k := 1) (v := v3 + 1) (lv' := [(3, .int (v3 + 1)), (2, .int z4), (0, .ref (E.2.1 150)), (1, .int v1)]) hx hb dX7_load_18 hl rfl rfl (by decide) rfl (fun ls hl => ?_)
        refine lv_goto (tgt := 4) hx hb dX7_load_21 rfl ?_
        exact ih (v3 + 1) z4 hf _ _ _ hI (lv_sub hl [0, 1, 2, 3] rfl)
  unfold f_X7_load at hf
  refine lv_iconst (v := 0) hx hb dX7_load_0 (by decide) ?_
  refine lv_istore_n (lv' := [(2, .int 0), (0, .ref (E.2.1 150)), (1, .int v1)]) hx hb dX7_load_1 rfl hl (by decide) rfl (fun ls hl => ?_)
  refine lv_iconst (v := 0) hx hb dX7_load_2 (by decide) ?_
  refine lv_istore_n (lv' := [(3, .int 0), (2, .int 0), (0, .ref (E.2.1 150)), (1, .int v1)]) hx hb dX7_load_3 rfl hl (by decide) rfl (fun ls hl => ?_)
  exact L4 v1 gF 0 0 hf _ _ _ hI (lv_sub hl [0, 1, 2, 3] rfl)
theorem dX7_puts_0 : decode cX7_puts 0 = .ok (.aload_n 0, 1) := by decide +kernel
theorem dX7_puts_1 : decode cX7_puts 1 = .ok (.getfield 7, 3) := by decide +kernel
theorem dX7_puts_4 : decode cX7_puts 4 = .ok (.bipush 34, 2) := by decide +kernel
theorem dX7_puts_6 : decode cX7_puts 6 = .ok (.iload_n 1, 1) := by decide +kernel
theorem dX7_puts_7 : decode cX7_puts 7 = .ok (.iadd, 1) := by decide +kernel
theorem dX7_puts_8 : decode cX7_puts 8 = .ok (.iload_n 2, 1) := by decide +kernel
theorem dX7_puts_9 : decode cX7_puts 9 = .ok (.iastore, 1) := by decide +kernel
theorem dX7_puts_10 : decode cX7_puts 10 = .ok (.aload_n 0, 1) := by decide +kernel
theorem dX7_puts_11 : decode cX7_puts 11 = .ok (.getfield 7, 3) := by decide +kernel
theorem dX7_puts_14 : decode cX7_puts 14 = .ok (.bipush 94, 2) := by decide +kernel
theorem dX7_puts_16 : decode cX7_puts 16 = .ok (.iload_n 1, 1) := by decide +kernel
theorem dX7_puts_17 : decode cX7_puts 17 = .ok (.iadd, 1) := by decide +kernel
theorem dX7_puts_18 : decode cX7_puts 18 = .ok (.iload_n 3, 1) := by decide +kernel
theorem dX7_puts_19 : decode cX7_puts 19 = .ok (.iastore, 1) := by decide +kernel
theorem dX7_puts_20 : decode cX7_puts 20 = .ok (.aload_n 0, 1) := by decide +kernel
theorem dX7_puts_21 : decode cX7_puts 21 = .ok (.getfield 7, 3) := by decide +kernel
theorem dX7_puts_24 : decode cX7_puts 24 = .ok (.sipush 154, 3) := by decide +kernel
theorem dX7_puts_27 : decode cX7_puts 27 = .ok (.iload_n 1, 1) := by decide +kernel
theorem dX7_puts_28 : decode cX7_puts 28 = .ok (.iadd, 1) := by decide +kernel
theorem dX7_puts_29 : decode cX7_puts 29 = .ok (.iload 4, 2) := by decide +kernel
theorem dX7_puts_31 : decode cX7_puts 31 = .ok (.iastore, 1) := by decide +kernel
theorem dX7_puts_32 : decode cX7_puts 32 = .ok (.aload_n 0, 1) := by decide +kernel
theorem dX7_puts_33 : decode cX7_puts 33 = .ok (.getfield 7, 3) := by decide +kernel
theorem dX7_puts_36 : decode cX7_puts 36 = .ok (.bipush 22, 2) := by decide +kernel
theorem dX7_puts_38 : decode cX7_puts 38 = .ok (.iload_n 1, 1) := by decide +kernel
theorem dX7_puts_39 : decode cX7_puts 39 = .ok (.iconst 5, 1) := by decide +kernel
theorem dX7_puts_40 : decode cX7_puts 40 = .ok (.idiv, 1) := by decide +kernel
theorem dX7_puts_41 : decode cX7_puts 41 = .ok (.iadd, 1) := by decide +kernel
theorem dX7_puts_42 : decode cX7_puts 42 = .ok (.dup2, 1) := by decide +kernel
theorem dX7_puts_43 : decode cX7_puts 43 = .ok (.iaload, 1) := by decide +kernel
theorem dX7_puts_44 : decode cX7_puts 44 = .ok (.iconst 1, 1) := by decide +kernel
theorem dX7_puts_45 : decode cX7_puts 45 = .ok (.iadd, 1) := by decide +kernel
theorem dX7_puts_46 : decode cX7_puts 46 = .ok (.iastore, 1) := by decide +kernel
theorem dX7_puts_47 : decode cX7_puts 47 = .ok (.return_, 1) := by decide +kernel
set_option maxRecDepth 100000 in
set_option maxHeartbeats 4000000 in
theorem C_X7_puts (l : Launch) (E : gE) (x : gX) {v1 v2 v3 v4 : Int32} {M : gM} {M' : gM} (hf : f_X7_puts v1 v2 v3 v4 M = some M') : gM0 l E yX7_puts (.code yX7_puts cX7_puts 5 none) (gR 0 0) M x [.ref (E.2.1 150), .int v1, .int v2, .int v3, .int v4] none M' := by
  refine gMet (by decide +kernel) (Nat.le_of_ble_eq_true rfl) ?_
  intro p e s m args below meth c H locs ls Q hC hl hI kr kv
  replace hC : gC p s m args c cX7_puts 5 RX7 E := hC
  replace hl : lv_has ls 5 [(0, .ref (E.2.1 150)), (1, .int v1), (2, .int v2), (3, .int v3), (4, .int v4)] := hl
  have hx := hC.1
  have hb := hC.2.1
  unfold f_X7_puts at hf
  refine lv_aload_n hx hb dX7_puts_0 rfl (lv_at hl 0 rfl) ?_
  refine gt_X7_X7_g hC hI dX7_puts_1 ?_
  refine lv_bipush (v := 34) hx hb dX7_puts_4 (by decide) ?_
  refine lv_iload_n hx hb dX7_puts_6 rfl (lv_at hl 1 rfl) ?_
  refine lv_iadd hx hb dX7_puts_7 ?_
  refine lv_iload_n hx hb dX7_puts_8 rfl (lv_at hl 2 rfl) ?_
  obtain ⟨h1, hf⟩ := gifN hf
  obtain ⟨M2, eM2, hf⟩ := glet hf
  refine g_iast hC hI (k := (34 + v1).toNatClampNeg) gIA_151 h1 rfl dX7_puts_9 (fun H locs hI => ?_)
  replace hI := g_mem eM2 hI
  refine lv_aload_n hx hb dX7_puts_10 rfl (lv_at hl 0 rfl) ?_
  refine gt_X7_X7_g hC hI dX7_puts_11 ?_
  refine lv_bipush (v := 94) hx hb dX7_puts_14 (by decide) ?_
  refine lv_iload_n hx hb dX7_puts_16 rfl (lv_at hl 1 rfl) ?_
  refine lv_iadd hx hb dX7_puts_17 ?_
  refine lv_iload_n hx hb dX7_puts_18 rfl (lv_at hl 3 rfl) ?_
  obtain ⟨h3, hf⟩ := gifN hf
  obtain ⟨M4, eM4, hf⟩ := glet hf
  refine g_iast hC hI (k := (94 + v1).toNatClampNeg) gIA_151 h3 rfl dX7_puts_19 (fun H locs hI => ?_)
  replace hI := g_mem eM4 hI
  refine lv_aload_n hx hb dX7_puts_20 rfl (lv_at hl 0 rfl) ?_
  refine gt_X7_X7_g hC hI dX7_puts_21 ?_
  refine lv_sipush (v := 154) hx hb dX7_puts_24 (by decide) ?_
  refine lv_iload_n hx hb dX7_puts_27 rfl (lv_at hl 1 rfl) ?_
  refine lv_iadd hx hb dX7_puts_28 ?_
  refine lv_iload hx hb dX7_puts_29 (lv_at hl 4 rfl) ?_
  obtain ⟨h5, hf⟩ := gifN hf
  obtain ⟨M6, eM6, hf⟩ := glet hf
  refine g_iast hC hI (k := (154 + v1).toNatClampNeg) gIA_151 h5 rfl dX7_puts_31 (fun H locs hI => ?_)
  replace hI := g_mem eM6 hI
  refine lv_aload_n hx hb dX7_puts_32 rfl (lv_at hl 0 rfl) ?_
  refine gt_X7_X7_g hC hI dX7_puts_33 ?_
  refine lv_bipush (v := 22) hx hb dX7_puts_36 (by decide) ?_
  refine lv_iload_n hx hb dX7_puts_38 rfl (lv_at hl 1 rfl) ?_
  refine lv_iconst (v := 5) hx hb dX7_puts_39 (by decide) ?_
  refine lv_idiv hx hb dX7_puts_40 (by decide) ?_
  refine lv_iadd hx hb dX7_puts_41 ?_
  refine lv_dup2_11 hx hb dX7_puts_42 rfl rfl ?_
  obtain ⟨h7, hf⟩ := gifN hf
  refine g_iald hC hI (k := (22 + (v1 / 5)).toNatClampNeg) gIA_151 h7 rfl dX7_puts_43 ?_
  refine lv_iconst (v := 1) hx hb dX7_puts_44 (by decide) ?_
  refine lv_iadd hx hb dX7_puts_45 ?_
  obtain ⟨h8, hf⟩ := gifN hf
  obtain ⟨M9, eM9, hf⟩ := glet hf
  refine g_iast hC hI (k := (22 + (v1 / 5)).toNatClampNeg) gIA_151 h8 rfl dX7_puts_46 (fun H locs hI => ?_)
  replace hI := g_mem eM9 hI
  exact kv _ _ _ _ _ (grv hf) hI rfl dX7_puts_47
theorem dX7_moors_0 : decode cX7_moors 0 = .ok (.iload_n 1, 1) := by decide +kernel
theorem dX7_moors_1 : decode cX7_moors 1 = .ok (.invokestatic 56, 3) := by decide +kernel
theorem dX7_moors_4 : decode cX7_moors 4 = .ok (.ifCond .ne 9, 3) := by decide +kernel
theorem dX7_moors_7 : decode cX7_moors 7 = .ok (.aload_n 0, 1) := by decide +kernel
theorem dX7_moors_8 : decode cX7_moors 8 = .ok (.iconst 1, 1) := by decide +kernel
theorem dX7_moors_9 : decode cX7_moors 9 = .ok (.invokevirtual 67, 3) := by decide +kernel
theorem dX7_moors_12 : decode cX7_moors 12 = .ok (.ireturn, 1) := by decide +kernel
theorem dX7_moors_13 : decode cX7_moors 13 = .ok (.iload_n 2, 1) := by decide +kernel
theorem dX7_moors_14 : decode cX7_moors 14 = .ok (.iconst 1, 1) := by decide +kernel
theorem dX7_moors_15 : decode cX7_moors 15 = .ok (.bipush 9, 2) := by decide +kernel
theorem dX7_moors_17 : decode cX7_moors 17 = .ok (.invokestatic 52, 3) := by decide +kernel
theorem dX7_moors_20 : decode cX7_moors 20 = .ok (.ifCond .eq 26, 3) := by decide +kernel
theorem dX7_moors_23 : decode cX7_moors 23 = .ok (.iload_n 3, 1) := by decide +kernel
theorem dX7_moors_24 : decode cX7_moors 24 = .ok (.aload_n 0, 1) := by decide +kernel
theorem dX7_moors_25 : decode cX7_moors 25 = .ok (.getfield 7, 3) := by decide +kernel
theorem dX7_moors_28 : decode cX7_moors 28 = .ok (.iconst 0, 1) := by decide +kernel
theorem dX7_moors_29 : decode cX7_moors 29 = .ok (.iaload, 1) := by decide +kernel
theorem dX7_moors_30 : decode cX7_moors 30 = .ok (.aload_n 0, 1) := by decide +kernel
theorem dX7_moors_31 : decode cX7_moors 31 = .ok (.getfield 7, 3) := by decide +kernel
theorem dX7_moors_34 : decode cX7_moors 34 = .ok (.iconst 0, 1) := by decide +kernel
theorem dX7_moors_35 : decode cX7_moors 35 = .ok (.iaload, 1) := by decide +kernel
theorem dX7_moors_36 : decode cX7_moors 36 = .ok (.sipush 999, 3) := by decide +kernel
theorem dX7_moors_39 : decode cX7_moors 39 = .ok (.iadd, 1) := by decide +kernel
theorem dX7_moors_40 : decode cX7_moors 40 = .ok (.invokestatic 52, 3) := by decide +kernel
theorem dX7_moors_43 : decode cX7_moors 43 = .ok (.ifCond .ne 9, 3) := by decide +kernel
theorem dX7_moors_46 : decode cX7_moors 46 = .ok (.aload_n 0, 1) := by decide +kernel
theorem dX7_moors_47 : decode cX7_moors 47 = .ok (.iconst 2, 1) := by decide +kernel
theorem dX7_moors_48 : decode cX7_moors 48 = .ok (.invokevirtual 67, 3) := by decide +kernel
theorem dX7_moors_51 : decode cX7_moors 51 = .ok (.ireturn, 1) := by decide +kernel
theorem dX7_moors_52 : decode cX7_moors 52 = .ok (.aload_n 0, 1) := by decide +kernel
theorem dX7_moors_53 : decode cX7_moors 53 = .ok (.getfield 7, 3) := by decide +kernel
theorem dX7_moors_56 : decode cX7_moors 56 = .ok (.bipush 7, 2) := by decide +kernel
theorem dX7_moors_58 : decode cX7_moors 58 = .ok (.iload_n 1, 1) := by decide +kernel
theorem dX7_moors_59 : decode cX7_moors 59 = .ok (.iadd, 1) := by decide +kernel
theorem dX7_moors_60 : decode cX7_moors 60 = .ok (.iaload, 1) := by decide +kernel
theorem dX7_moors_61 : decode cX7_moors 61 = .ok (.iconst 1, 1) := by decide +kernel
theorem dX7_moors_62 : decode cX7_moors 62 = .ok (.if_icmp .ne 9, 3) := by decide +kernel
theorem dX7_moors_65 : decode cX7_moors 65 = .ok (.aload_n 0, 1) := by decide +kernel
theorem dX7_moors_66 : decode cX7_moors 66 = .ok (.iconst 3, 1) := by decide +kernel
theorem dX7_moors_67 : decode cX7_moors 67 = .ok (.invokevirtual 67, 3) := by decide +kernel
theorem dX7_moors_70 : decode cX7_moors 70 = .ok (.ireturn, 1) := by decide +kernel
theorem dX7_moors_71 : decode cX7_moors 71 = .ok (.aload_n 0, 1) := by decide +kernel
theorem dX7_moors_72 : decode cX7_moors 72 = .ok (.getfield 7, 3) := by decide +kernel
theorem dX7_moors_75 : decode cX7_moors 75 = .ok (.bipush 7, 2) := by decide +kernel
theorem dX7_moors_77 : decode cX7_moors 77 = .ok (.iload_n 1, 1) := by decide +kernel
theorem dX7_moors_78 : decode cX7_moors 78 = .ok (.iadd, 1) := by decide +kernel
theorem dX7_moors_79 : decode cX7_moors 79 = .ok (.iconst 1, 1) := by decide +kernel
theorem dX7_moors_80 : decode cX7_moors 80 = .ok (.iastore, 1) := by decide +kernel
theorem dX7_moors_81 : decode cX7_moors 81 = .ok (.aload_n 0, 1) := by decide +kernel
theorem dX7_moors_82 : decode cX7_moors 82 = .ok (.getfield 7, 3) := by decide +kernel
theorem dX7_moors_85 : decode cX7_moors 85 = .ok (.bipush 10, 2) := by decide +kernel
theorem dX7_moors_87 : decode cX7_moors 87 = .ok (.iload_n 1, 1) := by decide +kernel
theorem dX7_moors_88 : decode cX7_moors 88 = .ok (.iadd, 1) := by decide +kernel
theorem dX7_moors_89 : decode cX7_moors 89 = .ok (.iload_n 2, 1) := by decide +kernel
theorem dX7_moors_90 : decode cX7_moors 90 = .ok (.iastore, 1) := by decide +kernel
theorem dX7_moors_91 : decode cX7_moors 91 = .ok (.aload_n 0, 1) := by decide +kernel
theorem dX7_moors_92 : decode cX7_moors 92 = .ok (.getfield 7, 3) := by decide +kernel
theorem dX7_moors_95 : decode cX7_moors 95 = .ok (.bipush 13, 2) := by decide +kernel
theorem dX7_moors_97 : decode cX7_moors 97 = .ok (.iload_n 1, 1) := by decide +kernel
theorem dX7_moors_98 : decode cX7_moors 98 = .ok (.iadd, 1) := by decide +kernel
theorem dX7_moors_99 : decode cX7_moors 99 = .ok (.iload_n 3, 1) := by decide +kernel
theorem dX7_moors_100 : decode cX7_moors 100 = .ok (.iastore, 1) := by decide +kernel
theorem dX7_moors_101 : decode cX7_moors 101 = .ok (.aload_n 0, 1) := by decide +kernel
theorem dX7_moors_102 : decode cX7_moors 102 = .ok (.aload_n 0, 1) := by decide +kernel
theorem dX7_moors_103 : decode cX7_moors 103 = .ok (.invokevirtual 71, 3) := by decide +kernel
theorem dX7_moors_106 : decode cX7_moors 106 = .ok (.invokevirtual 75, 3) := by decide +kernel
theorem dX7_moors_109 : decode cX7_moors 109 = .ok (.ireturn, 1) := by decide +kernel
set_option maxRecDepth 100000 in
set_option maxHeartbeats 4000000 in
theorem C_X7_moors (l : Launch) (E : gE) (x : gX) {v1 v2 v3 : Int32} {M : gM} {r : Int32} {M' : gM} (hf : f_X7_moors v1 v2 v3 M = some (r, M')) : gM0 l E yX7_moors (.code yX7_moors cX7_moors 4 (some .int)) (gR 2 42) M x [.ref (E.2.1 150), .int v1, .int v2, .int v3] (some (.int r)) M' := by
  refine gMet (by decide +kernel) (Nat.le_of_ble_eq_true rfl) ?_
  intro p e s m args below meth c H locs ls Q hC hl hI kr kv
  replace hC : gC p s m args c cX7_moors 4 RX7 E := hC
  replace hl : lv_has ls 4 [(0, .ref (E.2.1 150)), (1, .int v1), (2, .int v2), (3, .int v3)] := hl
  have hx := hC.1
  have hb := hC.2.1
  unfold f_X7_moors at hf
  refine lv_iload_n hx hb dX7_moors_0 rfl (lv_at hl 1 rfl) ?_
  obtain ⟨r1, hr2, hf⟩ := gbind hf
  have hr2 := C_X7_isBerth l E x  hr2
  refine g_callSi (rest := []) hC hI hr2 Y_X7_isBerth S_X7_isBerth w1395 ⟨rfl, rfl⟩ ⟨Nat.le_of_ble_eq_true rfl, Nat.le_of_ble_eq_true rfl⟩ rfl hl.1 rfl (Nat.le_of_ble_eq_true rfl) dX7_moors_1 ⟨Nat.le_of_ble_eq_true rfl, Nat.le_of_ble_eq_true rfl⟩ (fun H locs hI => ?_)
  refine lv_if_ne (tgt := 13) hx hb dX7_moors_4 rfl (fun h3 => ?_) (fun h3 => ?_)
  · replace hf := gifn h3 hf
    refine lv_iload_n hx hb dX7_moors_13 rfl (lv_at hl 2 rfl) ?_
    refine lv_iconst (v := 1) hx hb dX7_moors_14 (by decide) ?_
    refine lv_bipush (v := 9) hx hb dX7_moors_15 (by decide) ?_
    obtain ⟨r4, hr5, hf⟩ := gbind hf
    have hr5 := C_X7_in l E x  hr5
    refine g_callSi (rest := []) hC hI hr5 Y_X7_in S_X7_in w1398 ⟨rfl, rfl⟩ ⟨Nat.le_of_ble_eq_true rfl, Nat.le_of_ble_eq_true rfl⟩ rfl hl.1 rfl (Nat.le_of_ble_eq_true rfl) dX7_moors_17 ⟨Nat.le_of_ble_eq_true rfl, Nat.le_of_ble_eq_true rfl⟩ (fun H locs hI => ?_)
    refine lv_if_eq (tgt := 46) hx hb dX7_moors_20 rfl (fun h6 => ?_) (fun h6 => ?_)
    · replace hf := gif h6 hf
      refine lv_aload_n hx hb dX7_moors_46 rfl (lv_at hl 0 rfl) ?_
      refine lv_iconst (v := 2) hx hb dX7_moors_47 (by decide) ?_
      obtain ⟨r7, hr8, hf⟩ := gbind hf
      have hr8 := C_X7_fails l E x  hr8
      refine g_callVi (rest := []) hC hI hr8 Y_X7_fails V_X7_fails w1401 (rcv_X7 hC hI) ⟨rfl, rfl⟩ ⟨Nat.le_of_ble_eq_true rfl, Nat.le_of_ble_eq_true rfl⟩ rfl hl.1 rfl (Nat.le_of_ble_eq_true rfl) dX7_moors_48 ⟨Nat.le_of_ble_eq_true rfl, Nat.le_of_ble_eq_true rfl⟩ (fun H locs hI => ?_)
      exact kr _ _ _ _ _ _ (grw hf) hI ⟨.int, rfl, rfl⟩ dX7_moors_51
    · replace hf := gifn h6 hf
      refine lv_iload_n hx hb dX7_moors_23 rfl (lv_at hl 3 rfl) ?_
      refine lv_aload_n hx hb dX7_moors_24 rfl (lv_at hl 0 rfl) ?_
      refine gt_X7_X7_g hC hI dX7_moors_25 ?_
      refine lv_iconst (v := 0) hx hb dX7_moors_28 (by decide) ?_
      refine g_iald hC hI (k := 0) gIA_151 (by decide) rfl dX7_moors_29 ?_
      refine lv_aload_n hx hb dX7_moors_30 rfl (lv_at hl 0 rfl) ?_
      refine gt_X7_X7_g hC hI dX7_moors_31 ?_
      refine lv_iconst (v := 0) hx hb dX7_moors_34 (by decide) ?_
      refine g_iald hC hI (k := 0) gIA_151 (by decide) rfl dX7_moors_35 ?_
      refine lv_sipush (v := 999) hx hb dX7_moors_36 (by decide) ?_
      refine lv_iadd hx hb dX7_moors_39 ?_
      obtain ⟨r9, hr10, hf⟩ := gbind hf
      have hr10 := C_X7_in l E x  hr10
      refine g_callSi (rest := []) hC hI hr10 Y_X7_in S_X7_in w1398 ⟨rfl, rfl⟩ ⟨Nat.le_of_ble_eq_true rfl, Nat.le_of_ble_eq_true rfl⟩ rfl hl.1 rfl (Nat.le_of_ble_eq_true rfl) dX7_moors_40 ⟨Nat.le_of_ble_eq_true rfl, Nat.le_of_ble_eq_true rfl⟩ (fun H locs hI => ?_)
      refine lv_if_ne (tgt := 52) hx hb dX7_moors_43 rfl (fun h11 => ?_) (fun h11 => ?_)
      · replace hf := gifn h11 hf
        refine lv_aload_n hx hb dX7_moors_52 rfl (lv_at hl 0 rfl) ?_
        refine gt_X7_X7_g hC hI dX7_moors_53 ?_
        refine lv_bipush (v := 7) hx hb dX7_moors_56 (by decide) ?_
        refine lv_iload_n hx hb dX7_moors_58 rfl (lv_at hl 1 rfl) ?_
        refine lv_iadd hx hb dX7_moors_59 ?_
        obtain ⟨h12, hf⟩ := gifN hf
        refine g_iald hC hI (k := (7 + v1).toNatClampNeg) gIA_151 h12 rfl dX7_moors_60 ?_
        refine lv_iconst (v := 1) hx hb dX7_moors_61 (by decide) ?_
        refine lv_icmp_ne (tgt := 71) hx hb dX7_moors_62 rfl (fun h13 => ?_) (fun h13 => ?_)
        · replace hf := gifn h13 hf
          refine lv_aload_n hx hb dX7_moors_71 rfl (lv_at hl 0 rfl) ?_
          refine gt_X7_X7_g hC hI dX7_moors_72 ?_
          refine lv_bipush (v := 7) hx hb dX7_moors_75 (by decide) ?_
          refine lv_iload_n hx hb dX7_moors_77 rfl (lv_at hl 1 rfl) ?_
          refine lv_iadd hx hb dX7_moors_78 ?_
          refine lv_iconst (v := 1) hx hb dX7_moors_79 (by decide) ?_
          obtain ⟨h14, hf⟩ := gifN hf
          obtain ⟨M15, eM15, hf⟩ := glet hf
          refine g_iast hC hI (k := (7 + v1).toNatClampNeg) gIA_151 h14 rfl dX7_moors_80 (fun H locs hI => ?_)
          replace hI := g_mem eM15 hI
          refine lv_aload_n hx hb dX7_moors_81 rfl (lv_at hl 0 rfl) ?_
          refine gt_X7_X7_g hC hI dX7_moors_82 ?_
          refine lv_bipush (v := 10) hx hb dX7_moors_85 (by decide) ?_
          refine lv_iload_n hx hb dX7_moors_87 rfl (lv_at hl 1 rfl) ?_
          refine lv_iadd hx hb dX7_moors_88 ?_
          refine lv_iload_n hx hb dX7_moors_89 rfl (lv_at hl 2 rfl) ?_
          obtain ⟨h16, hf⟩ := gifN hf
          obtain ⟨M17, eM17, hf⟩ := glet hf
          refine g_iast hC hI (k := (10 + v1).toNatClampNeg) gIA_151 h16 rfl dX7_moors_90 (fun H locs hI => ?_)
          replace hI := g_mem eM17 hI
          refine lv_aload_n hx hb dX7_moors_91 rfl (lv_at hl 0 rfl) ?_
          refine gt_X7_X7_g hC hI dX7_moors_92 ?_
          refine lv_bipush (v := 13) hx hb dX7_moors_95 (by decide) ?_
          refine lv_iload_n hx hb dX7_moors_97 rfl (lv_at hl 1 rfl) ?_
          refine lv_iadd hx hb dX7_moors_98 ?_
          refine lv_iload_n hx hb dX7_moors_99 rfl (lv_at hl 3 rfl) ?_
          obtain ⟨h18, hf⟩ := gifN hf
          obtain ⟨M19, eM19, hf⟩ := glet hf
          refine g_iast hC hI (k := (13 + v1).toNatClampNeg) gIA_151 h18 rfl dX7_moors_100 (fun H locs hI => ?_)
          replace hI := g_mem eM19 hI
          refine lv_aload_n hx hb dX7_moors_101 rfl (lv_at hl 0 rfl) ?_
          refine lv_aload_n hx hb dX7_moors_102 rfl (lv_at hl 0 rfl) ?_
          obtain ⟨r20, hr21, hf⟩ := gbind hf
          have hr21 := C_X7_ships l E x  hr21
          refine g_callVi (rest := [.ref (E.2.1 150)]) hC hI hr21 Y_X7_ships V_X7_ships w1405 (rcv_X7 hC hI) ⟨rfl, rfl⟩ ⟨Nat.le_of_ble_eq_true rfl, Nat.le_of_ble_eq_true rfl⟩ rfl hl.1 rfl (Nat.le_of_ble_eq_true rfl) dX7_moors_103 ⟨Nat.le_of_ble_eq_true rfl, Nat.le_of_ble_eq_true rfl⟩ (fun H locs hI => ?_)
          obtain ⟨r22, hr23, hf⟩ := gbind hf
          have hr23 := C_X7_done l E x  hr23
          refine g_callVi (rest := []) hC hI hr23 Y_X7_done V_X7_done w1409 (rcv_X7 hC hI) ⟨rfl, rfl⟩ ⟨Nat.le_of_ble_eq_true rfl, Nat.le_of_ble_eq_true rfl⟩ rfl hl.1 rfl (Nat.le_of_ble_eq_true rfl) dX7_moors_106 ⟨Nat.le_of_ble_eq_true rfl, Nat.le_of_ble_eq_true rfl⟩ (fun H locs hI => ?_)
          exact kr _ _ _ _ _ _ (grw hf) hI ⟨.int, rfl, rfl⟩ dX7_moors_109
        · replace hf := gif h13 hf
          refine lv_aload_n hx hb dX7_moors_65 rfl (lv_at hl 0 rfl) ?_
          refine lv_iconst (v := 3) hx hb dX7_moors_66 (by decide) ?_
          obtain ⟨r24, hr25, hf⟩ := gbind hf
          have hr25 := C_X7_fails l E x  hr25
          refine g_callVi (rest := []) hC hI hr25 Y_X7_fails V_X7_fails w1401 (rcv_X7 hC hI) ⟨rfl, rfl⟩ ⟨Nat.le_of_ble_eq_true rfl, Nat.le_of_ble_eq_true rfl⟩ rfl hl.1 rfl (Nat.le_of_ble_eq_true rfl) dX7_moors_67 ⟨Nat.le_of_ble_eq_true rfl, Nat.le_of_ble_eq_true rfl⟩ (fun H locs hI => ?_)
          exact kr _ _ _ _ _ _ (grw hf) hI ⟨.int, rfl, rfl⟩ dX7_moors_70
      · replace hf := gif h11 hf
        refine lv_aload_n hx hb dX7_moors_46 rfl (lv_at hl 0 rfl) ?_
        refine lv_iconst (v := 2) hx hb dX7_moors_47 (by decide) ?_
        obtain ⟨r26, hr27, hf⟩ := gbind hf
        have hr27 := C_X7_fails l E x  hr27
        refine g_callVi (rest := []) hC hI hr27 Y_X7_fails V_X7_fails w1401 (rcv_X7 hC hI) ⟨rfl, rfl⟩ ⟨Nat.le_of_ble_eq_true rfl, Nat.le_of_ble_eq_true rfl⟩ rfl hl.1 rfl (Nat.le_of_ble_eq_true rfl) dX7_moors_48 ⟨Nat.le_of_ble_eq_true rfl, Nat.le_of_ble_eq_true rfl⟩ (fun H locs hI => ?_)
        exact kr _ _ _ _ _ _ (grw hf) hI ⟨.int, rfl, rfl⟩ dX7_moors_51
  · replace hf := gif h3 hf
    refine lv_aload_n hx hb dX7_moors_7 rfl (lv_at hl 0 rfl) ?_
    refine lv_iconst (v := 1) hx hb dX7_moors_8 (by decide) ?_
    obtain ⟨r28, hr29, hf⟩ := gbind hf
    have hr29 := C_X7_fails l E x  hr29
    refine g_callVi (rest := []) hC hI hr29 Y_X7_fails V_X7_fails w1401 (rcv_X7 hC hI) ⟨rfl, rfl⟩ ⟨Nat.le_of_ble_eq_true rfl, Nat.le_of_ble_eq_true rfl⟩ rfl hl.1 rfl (Nat.le_of_ble_eq_true rfl) dX7_moors_9 ⟨Nat.le_of_ble_eq_true rfl, Nat.le_of_ble_eq_true rfl⟩ (fun H locs hI => ?_)
    exact kr _ _ _ _ _ _ (grw hf) hI ⟨.int, rfl, rfl⟩ dX7_moors_12
theorem dX7_moor_0 : decode cX7_moor 0 = .ok (.aload_n 0, 1) := by decide +kernel
theorem dX7_moor_1 : decode cX7_moor 1 = .ok (.invokevirtual 78, 3) := by decide +kernel
theorem dX7_moor_4 : decode cX7_moor 4 = .ok (.aload_n 0, 1) := by decide +kernel
theorem dX7_moor_5 : decode cX7_moor 5 = .ok (.aload_n 0, 1) := by decide +kernel
theorem dX7_moor_6 : decode cX7_moor 6 = .ok (.iload_n 1, 1) := by decide +kernel
theorem dX7_moor_7 : decode cX7_moor 7 = .ok (.iload_n 2, 1) := by decide +kernel
theorem dX7_moor_8 : decode cX7_moor 8 = .ok (.iload_n 3, 1) := by decide +kernel
theorem dX7_moor_9 : decode cX7_moor 9 = .ok (.invokevirtual 81, 3) := by decide +kernel
theorem dX7_moor_12 : decode cX7_moor 12 = .ok (.invokevirtual 85, 3) := by decide +kernel
theorem dX7_moor_15 : decode cX7_moor 15 = .ok (.ireturn, 1) := by decide +kernel
set_option maxRecDepth 100000 in
set_option maxHeartbeats 4000000 in
theorem C_X7_moor (l : Launch) (E : gE) (x : gX) {v1 v2 v3 : Int32} {M : gM} {r : Int32} {M' : gM} (hf : f_X7_moor v1 v2 v3 M = some (r, M')) : gM0 l E yX7_moor (.code yX7_moor cX7_moor 4 (some .int)) (gR 3 65) M x [.ref (E.2.1 150), .int v1, .int v2, .int v3] (some (.int r)) M' := by
  refine gMet (by decide +kernel) (Nat.le_of_ble_eq_true rfl) ?_
  intro p e s m args below meth c H locs ls Q hC hl hI kr kv
  replace hC : gC p s m args c cX7_moor 4 RX7 E := hC
  replace hl : lv_has ls 4 [(0, .ref (E.2.1 150)), (1, .int v1), (2, .int v2), (3, .int v3)] := hl
  have hx := hC.1
  have hb := hC.2.1
  unfold f_X7_moor at hf
  refine lv_aload_n hx hb dX7_moor_0 rfl (lv_at hl 0 rfl) ?_
  obtain ⟨r1, hr2, hf⟩ := gbind hf
  have hr2 := C_X7_begin l E x  hr2
  refine g_callVv (rest := []) hC hI hr2 Y_X7_begin V_X7_begin w1384 (rcv_X7 hC hI) ⟨rfl, rfl⟩ ⟨Nat.le_of_ble_eq_true rfl, Nat.le_of_ble_eq_true rfl⟩ rfl hl.1 rfl (Nat.le_of_ble_eq_true rfl) dX7_moor_1 ⟨Nat.le_of_ble_eq_true rfl, Nat.le_of_ble_eq_true rfl⟩ (fun H locs hI => ?_)
  refine lv_aload_n hx hb dX7_moor_4 rfl (lv_at hl 0 rfl) ?_
  refine lv_aload_n hx hb dX7_moor_5 rfl (lv_at hl 0 rfl) ?_
  refine lv_iload_n hx hb dX7_moor_6 rfl (lv_at hl 1 rfl) ?_
  refine lv_iload_n hx hb dX7_moor_7 rfl (lv_at hl 2 rfl) ?_
  refine lv_iload_n hx hb dX7_moor_8 rfl (lv_at hl 3 rfl) ?_
  obtain ⟨r3, hr4, hf⟩ := gbind hf
  have hr4 := C_X7_moors l E x  hr4
  refine g_callVi (rest := [.ref (E.2.1 150)]) hC hI hr4 Y_X7_moors V_X7_moors w1391 (rcv_X7 hC hI) ⟨rfl, rfl⟩ ⟨Nat.le_of_ble_eq_true rfl, Nat.le_of_ble_eq_true rfl⟩ rfl hl.1 rfl (Nat.le_of_ble_eq_true rfl) dX7_moor_9 ⟨Nat.le_of_ble_eq_true rfl, Nat.le_of_ble_eq_true rfl⟩ (fun H locs hI => ?_)
  obtain ⟨r5, hr6, hf⟩ := gbind hf
  have hr6 := C_X7_kept l E x  hr6
  refine g_callVi (rest := []) hC hI hr6 Y_X7_kept V_X7_kept w1413 (rcv_X7 hC hI) ⟨rfl, rfl⟩ ⟨Nat.le_of_ble_eq_true rfl, Nat.le_of_ble_eq_true rfl⟩ rfl hl.1 rfl (Nat.le_of_ble_eq_true rfl) dX7_moor_12 ⟨Nat.le_of_ble_eq_true rfl, Nat.le_of_ble_eq_true rfl⟩ (fun H locs hI => ?_)
  exact kr _ _ _ _ _ _ (grw hf) hI ⟨.int, rfl, rfl⟩ dX7_moor_15
theorem dX7_stows_0 : decode cX7_stows 0 = .ok (.iload_n 1, 1) := by decide +kernel
theorem dX7_stows_1 : decode cX7_stows 1 = .ok (.iload_n 2, 1) := by decide +kernel
theorem dX7_stows_2 : decode cX7_stows 2 = .ok (.invokestatic 88, 3) := by decide +kernel
theorem dX7_stows_5 : decode cX7_stows 5 = .ok (.ifCond .ne 9, 3) := by decide +kernel
theorem dX7_stows_8 : decode cX7_stows 8 = .ok (.aload_n 0, 1) := by decide +kernel
theorem dX7_stows_9 : decode cX7_stows 9 = .ok (.iconst 1, 1) := by decide +kernel
theorem dX7_stows_10 : decode cX7_stows 10 = .ok (.invokevirtual 67, 3) := by decide +kernel
theorem dX7_stows_13 : decode cX7_stows 13 = .ok (.ireturn, 1) := by decide +kernel
theorem dX7_stows_14 : decode cX7_stows 14 = .ok (.iload_n 3, 1) := by decide +kernel
theorem dX7_stows_15 : decode cX7_stows 15 = .ok (.iconst 1, 1) := by decide +kernel
theorem dX7_stows_16 : decode cX7_stows 16 = .ok (.bipush 30, 2) := by decide +kernel
theorem dX7_stows_18 : decode cX7_stows 18 = .ok (.invokestatic 52, 3) := by decide +kernel
theorem dX7_stows_21 : decode cX7_stows 21 = .ok (.ifCond .eq 14, 3) := by decide +kernel
theorem dX7_stows_24 : decode cX7_stows 24 = .ok (.iload 4, 2) := by decide +kernel
theorem dX7_stows_26 : decode cX7_stows 26 = .ok (.iconst 0, 1) := by decide +kernel
theorem dX7_stows_27 : decode cX7_stows 27 = .ok (.bipush 99, 2) := by decide +kernel
theorem dX7_stows_29 : decode cX7_stows 29 = .ok (.invokestatic 52, 3) := by decide +kernel
theorem dX7_stows_32 : decode cX7_stows 32 = .ok (.ifCond .ne 9, 3) := by decide +kernel
theorem dX7_stows_35 : decode cX7_stows 35 = .ok (.aload_n 0, 1) := by decide +kernel
theorem dX7_stows_36 : decode cX7_stows 36 = .ok (.iconst 2, 1) := by decide +kernel
theorem dX7_stows_37 : decode cX7_stows 37 = .ok (.invokevirtual 67, 3) := by decide +kernel
theorem dX7_stows_40 : decode cX7_stows 40 = .ok (.ireturn, 1) := by decide +kernel
theorem dX7_stows_41 : decode cX7_stows 41 = .ok (.aload_n 0, 1) := by decide +kernel
theorem dX7_stows_42 : decode cX7_stows 42 = .ok (.iload_n 1, 1) := by decide +kernel
theorem dX7_stows_43 : decode cX7_stows 43 = .ok (.iload_n 2, 1) := by decide +kernel
theorem dX7_stows_44 : decode cX7_stows 44 = .ok (.invokevirtual 63, 3) := by decide +kernel
theorem dX7_stows_47 : decode cX7_stows 47 = .ok (.istore 5, 2) := by decide +kernel
theorem dX7_stows_49 : decode cX7_stows 49 = .ok (.aload_n 0, 1) := by decide +kernel
theorem dX7_stows_50 : decode cX7_stows 50 = .ok (.getfield 7, 3) := by decide +kernel
theorem dX7_stows_53 : decode cX7_stows 53 = .ok (.bipush 7, 2) := by decide +kernel
theorem dX7_stows_55 : decode cX7_stows 55 = .ok (.iload_n 1, 1) := by decide +kernel
theorem dX7_stows_56 : decode cX7_stows 56 = .ok (.iadd, 1) := by decide +kernel
theorem dX7_stows_57 : decode cX7_stows 57 = .ok (.iaload, 1) := by decide +kernel
theorem dX7_stows_58 : decode cX7_stows 58 = .ok (.ifCond .eq 9, 3) := by decide +kernel
theorem dX7_stows_61 : decode cX7_stows 61 = .ok (.iload 5, 2) := by decide +kernel
theorem dX7_stows_63 : decode cX7_stows 63 = .ok (.iconst 5, 1) := by decide +kernel
theorem dX7_stows_64 : decode cX7_stows 64 = .ok (.if_icmp .ne 9, 3) := by decide +kernel
theorem dX7_stows_67 : decode cX7_stows 67 = .ok (.aload_n 0, 1) := by decide +kernel
theorem dX7_stows_68 : decode cX7_stows 68 = .ok (.iconst 3, 1) := by decide +kernel
theorem dX7_stows_69 : decode cX7_stows 69 = .ok (.invokevirtual 67, 3) := by decide +kernel
theorem dX7_stows_72 : decode cX7_stows 72 = .ok (.ireturn, 1) := by decide +kernel
theorem dX7_stows_73 : decode cX7_stows 73 = .ok (.aload_n 0, 1) := by decide +kernel
theorem dX7_stows_74 : decode cX7_stows 74 = .ok (.iload_n 1, 1) := by decide +kernel
theorem dX7_stows_75 : decode cX7_stows 75 = .ok (.iload_n 2, 1) := by decide +kernel
theorem dX7_stows_76 : decode cX7_stows 76 = .ok (.iload 5, 2) := by decide +kernel
theorem dX7_stows_78 : decode cX7_stows 78 = .ok (.invokestatic 92, 3) := by decide +kernel
theorem dX7_stows_81 : decode cX7_stows 81 = .ok (.aload_n 0, 1) := by decide +kernel
theorem dX7_stows_82 : decode cX7_stows 82 = .ok (.getfield 7, 3) := by decide +kernel
theorem dX7_stows_85 : decode cX7_stows 85 = .ok (.iconst 1, 1) := by decide +kernel
theorem dX7_stows_86 : decode cX7_stows 86 = .ok (.iaload, 1) := by decide +kernel
theorem dX7_stows_87 : decode cX7_stows 87 = .ok (.iload_n 3, 1) := by decide +kernel
theorem dX7_stows_88 : decode cX7_stows 88 = .ok (.iload 4, 2) := by decide +kernel
theorem dX7_stows_90 : decode cX7_stows 90 = .ok (.invokevirtual 95, 3) := by decide +kernel
theorem dX7_stows_93 : decode cX7_stows 93 = .ok (.aload_n 0, 1) := by decide +kernel
theorem dX7_stows_94 : decode cX7_stows 94 = .ok (.getfield 7, 3) := by decide +kernel
theorem dX7_stows_97 : decode cX7_stows 97 = .ok (.iconst 1, 1) := by decide +kernel
theorem dX7_stows_98 : decode cX7_stows 98 = .ok (.dup2, 1) := by decide +kernel
theorem dX7_stows_99 : decode cX7_stows 99 = .ok (.iaload, 1) := by decide +kernel
theorem dX7_stows_100 : decode cX7_stows 100 = .ok (.iconst 1, 1) := by decide +kernel
theorem dX7_stows_101 : decode cX7_stows 101 = .ok (.iadd, 1) := by decide +kernel
theorem dX7_stows_102 : decode cX7_stows 102 = .ok (.iastore, 1) := by decide +kernel
theorem dX7_stows_103 : decode cX7_stows 103 = .ok (.aload_n 0, 1) := by decide +kernel
theorem dX7_stows_104 : decode cX7_stows 104 = .ok (.aload_n 0, 1) := by decide +kernel
theorem dX7_stows_105 : decode cX7_stows 105 = .ok (.getfield 7, 3) := by decide +kernel
theorem dX7_stows_108 : decode cX7_stows 108 = .ok (.iconst 1, 1) := by decide +kernel
theorem dX7_stows_109 : decode cX7_stows 109 = .ok (.iaload, 1) := by decide +kernel
theorem dX7_stows_110 : decode cX7_stows 110 = .ok (.iconst 1, 1) := by decide +kernel
theorem dX7_stows_111 : decode cX7_stows 111 = .ok (.isub, 1) := by decide +kernel
theorem dX7_stows_112 : decode cX7_stows 112 = .ok (.invokevirtual 75, 3) := by decide +kernel
theorem dX7_stows_115 : decode cX7_stows 115 = .ok (.ireturn, 1) := by decide +kernel
set_option maxRecDepth 100000 in
set_option maxHeartbeats 4000000 in
theorem C_X7_stows (l : Launch) (E : gE) (x : gX) {v1 v2 v3 v4 : Int32} {M : gM} {r : Int32} {M' : gM} (hf : f_X7_stows v1 v2 v3 v4 M = some (r, M')) : gM0 l E yX7_stows (.code yX7_stows cX7_stows 6 (some .int)) (gR 3 63) M x [.ref (E.2.1 150), .int v1, .int v2, .int v3, .int v4] (some (.int r)) M' := by
  refine gMet (by decide +kernel) (Nat.le_of_ble_eq_true rfl) ?_
  intro p e s m args below meth c H locs ls Q hC hl hI kr kv
  replace hC : gC p s m args c cX7_stows 6 RX7 E := hC
  replace hl : lv_has ls 6 [(0, .ref (E.2.1 150)), (1, .int v1), (2, .int v2), (3, .int v3), (4, .int v4)] := hl
  have hx := hC.1
  have hb := hC.2.1
  unfold f_X7_stows at hf
  refine lv_iload_n hx hb dX7_stows_0 rfl (lv_at hl 1 rfl) ?_
  refine lv_iload_n hx hb dX7_stows_1 rfl (lv_at hl 2 rfl) ?_
  obtain ⟨r1, hr2, hf⟩ := gbind hf
  have hr2 := C_X7_isStack l E x  hr2
  refine g_callSi (rest := []) hC hI hr2 Y_X7_isStack S_X7_isStack w1425 ⟨rfl, rfl⟩ ⟨Nat.le_of_ble_eq_true rfl, Nat.le_of_ble_eq_true rfl⟩ rfl hl.1 rfl (Nat.le_of_ble_eq_true rfl) dX7_stows_2 ⟨Nat.le_of_ble_eq_true rfl, Nat.le_of_ble_eq_true rfl⟩ (fun H locs hI => ?_)
  refine lv_if_ne (tgt := 14) hx hb dX7_stows_5 rfl (fun h3 => ?_) (fun h3 => ?_)
  · replace hf := gifn h3 hf
    refine lv_iload_n hx hb dX7_stows_14 rfl (lv_at hl 3 rfl) ?_
    refine lv_iconst (v := 1) hx hb dX7_stows_15 (by decide) ?_
    refine lv_bipush (v := 30) hx hb dX7_stows_16 (by decide) ?_
    obtain ⟨r4, hr5, hf⟩ := gbind hf
    have hr5 := C_X7_in l E x  hr5
    refine g_callSi (rest := []) hC hI hr5 Y_X7_in S_X7_in w1398 ⟨rfl, rfl⟩ ⟨Nat.le_of_ble_eq_true rfl, Nat.le_of_ble_eq_true rfl⟩ rfl hl.1 rfl (Nat.le_of_ble_eq_true rfl) dX7_stows_18 ⟨Nat.le_of_ble_eq_true rfl, Nat.le_of_ble_eq_true rfl⟩ (fun H locs hI => ?_)
    refine lv_if_eq (tgt := 35) hx hb dX7_stows_21 rfl (fun h6 => ?_) (fun h6 => ?_)
    · replace hf := gif h6 hf
      refine lv_aload_n hx hb dX7_stows_35 rfl (lv_at hl 0 rfl) ?_
      refine lv_iconst (v := 2) hx hb dX7_stows_36 (by decide) ?_
      obtain ⟨r7, hr8, hf⟩ := gbind hf
      have hr8 := C_X7_fails l E x  hr8
      refine g_callVi (rest := []) hC hI hr8 Y_X7_fails V_X7_fails w1401 (rcv_X7 hC hI) ⟨rfl, rfl⟩ ⟨Nat.le_of_ble_eq_true rfl, Nat.le_of_ble_eq_true rfl⟩ rfl hl.1 rfl (Nat.le_of_ble_eq_true rfl) dX7_stows_37 ⟨Nat.le_of_ble_eq_true rfl, Nat.le_of_ble_eq_true rfl⟩ (fun H locs hI => ?_)
      exact kr _ _ _ _ _ _ (grw hf) hI ⟨.int, rfl, rfl⟩ dX7_stows_40
    · replace hf := gifn h6 hf
      refine lv_iload hx hb dX7_stows_24 (lv_at hl 4 rfl) ?_
      refine lv_iconst (v := 0) hx hb dX7_stows_26 (by decide) ?_
      refine lv_bipush (v := 99) hx hb dX7_stows_27 (by decide) ?_
      obtain ⟨r9, hr10, hf⟩ := gbind hf
      have hr10 := C_X7_in l E x  hr10
      refine g_callSi (rest := []) hC hI hr10 Y_X7_in S_X7_in w1398 ⟨rfl, rfl⟩ ⟨Nat.le_of_ble_eq_true rfl, Nat.le_of_ble_eq_true rfl⟩ rfl hl.1 rfl (Nat.le_of_ble_eq_true rfl) dX7_stows_29 ⟨Nat.le_of_ble_eq_true rfl, Nat.le_of_ble_eq_true rfl⟩ (fun H locs hI => ?_)
      refine lv_if_ne (tgt := 41) hx hb dX7_stows_32 rfl (fun h11 => ?_) (fun h11 => ?_)
      · replace hf := gifn h11 hf
        refine lv_aload_n hx hb dX7_stows_41 rfl (lv_at hl 0 rfl) ?_
        refine lv_iload_n hx hb dX7_stows_42 rfl (lv_at hl 1 rfl) ?_
        refine lv_iload_n hx hb dX7_stows_43 rfl (lv_at hl 2 rfl) ?_
        obtain ⟨r12, hr13, hf⟩ := gbind hf
        have hr13 := C_X7_height l E x  hr13
        refine g_callVi (rest := []) hC hI hr13 Y_X7_height V_X7_height w1428 (rcv_X7 hC hI) ⟨rfl, rfl⟩ ⟨Nat.le_of_ble_eq_true rfl, Nat.le_of_ble_eq_true rfl⟩ rfl hl.1 rfl (Nat.le_of_ble_eq_true rfl) dX7_stows_44 ⟨Nat.le_of_ble_eq_true rfl, Nat.le_of_ble_eq_true rfl⟩ (fun H locs hI => ?_)
        refine lv_istore (lv' := [(5, .int r12), (0, .ref (E.2.1 150)), (1, .int v1), (2, .int v2), (3, .int v3), (4, .int v4)]) hx hb dX7_stows_47 hl (by decide) rfl (fun ls hl => ?_)
        refine lv_aload_n hx hb dX7_stows_49 rfl (lv_at hl 1 rfl) ?_
        refine gt_X7_X7_g hC hI dX7_stows_50 ?_
        refine lv_bipush (v := 7) hx hb dX7_stows_53 (by decide) ?_
        refine lv_iload_n hx hb dX7_stows_55 rfl (lv_at hl 2 rfl) ?_
        refine lv_iadd hx hb dX7_stows_56 ?_
        obtain ⟨h14, hf⟩ := gifN hf
        refine g_iald hC hI (k := (7 + v1).toNatClampNeg) gIA_151 h14 rfl dX7_stows_57 ?_
        refine lv_if_eq (tgt := 67) hx hb dX7_stows_58 rfl (fun h15 => ?_) (fun h15 => ?_)
        · replace hf := gif h15 hf
          refine lv_aload_n hx hb dX7_stows_67 rfl (lv_at hl 1 rfl) ?_
          refine lv_iconst (v := 3) hx hb dX7_stows_68 (by decide) ?_
          obtain ⟨r16, hr17, hf⟩ := gbind hf
          have hr17 := C_X7_fails l E x  hr17
          refine g_callVi (rest := []) hC hI hr17 Y_X7_fails V_X7_fails w1401 (rcv_X7 hC hI) ⟨rfl, rfl⟩ ⟨Nat.le_of_ble_eq_true rfl, Nat.le_of_ble_eq_true rfl⟩ rfl hl.1 rfl (Nat.le_of_ble_eq_true rfl) dX7_stows_69 ⟨Nat.le_of_ble_eq_true rfl, Nat.le_of_ble_eq_true rfl⟩ (fun H locs hI => ?_)
          exact kr _ _ _ _ _ _ (grw hf) hI ⟨.int, rfl, rfl⟩ dX7_stows_72
        · replace hf := gifn h15 hf
          refine lv_iload hx hb dX7_stows_61 (lv_at hl 0 rfl) ?_
          refine lv_iconst (v := 5) hx hb dX7_stows_63 (by decide) ?_
          refine lv_icmp_ne (tgt := 73) hx hb dX7_stows_64 rfl (fun h18 => ?_) (fun h18 => ?_)
          · replace hf := gifn h18 hf
            refine lv_aload_n hx hb dX7_stows_73 rfl (lv_at hl 1 rfl) ?_
            refine lv_iload_n hx hb dX7_stows_74 rfl (lv_at hl 2 rfl) ?_
            refine lv_iload_n hx hb dX7_stows_75 rfl (lv_at hl 3 rfl) ?_
            refine lv_iload hx hb dX7_stows_76 (lv_at hl 0 rfl) ?_
            obtain ⟨r19, hr20, hf⟩ := gbind hf
            have hr20 := C_X7_cell l E x  hr20
            refine g_callSi (rest := [.ref (E.2.1 150)]) hC hI hr20 Y_X7_cell S_X7_cell w1432 ⟨rfl, rfl⟩ ⟨Nat.le_of_ble_eq_true rfl, Nat.le_of_ble_eq_true rfl⟩ rfl hl.1 rfl (Nat.le_of_ble_eq_true rfl) dX7_stows_78 ⟨Nat.le_of_ble_eq_true rfl, Nat.le_of_ble_eq_true rfl⟩ (fun H locs hI => ?_)
            refine lv_aload_n hx hb dX7_stows_81 rfl (lv_at hl 1 rfl) ?_
            refine gt_X7_X7_g hC hI dX7_stows_82 ?_
            refine lv_iconst (v := 1) hx hb dX7_stows_85 (by decide) ?_
            refine g_iald hC hI (k := 1) gIA_151 (by decide) rfl dX7_stows_86 ?_
            refine lv_iload_n hx hb dX7_stows_87 rfl (lv_at hl 4 rfl) ?_
            refine lv_iload hx hb dX7_stows_88 (lv_at hl 5 rfl) ?_
            obtain ⟨r21, hr22, hf⟩ := gbind hf
            have hr22 := C_X7_puts l E x  hr22
            refine g_callVv (rest := []) hC hI hr22 Y_X7_puts V_X7_puts w1435 (rcv_X7 hC hI) ⟨rfl, rfl⟩ ⟨Nat.le_of_ble_eq_true rfl, Nat.le_of_ble_eq_true rfl⟩ rfl hl.1 rfl (Nat.le_of_ble_eq_true rfl) dX7_stows_90 ⟨Nat.le_of_ble_eq_true rfl, Nat.le_of_ble_eq_true rfl⟩ (fun H locs hI => ?_)
            refine lv_aload_n hx hb dX7_stows_93 rfl (lv_at hl 1 rfl) ?_
            refine gt_X7_X7_g hC hI dX7_stows_94 ?_
            refine lv_iconst (v := 1) hx hb dX7_stows_97 (by decide) ?_
            refine lv_dup2_11 hx hb dX7_stows_98 rfl rfl ?_
            refine g_iald hC hI (k := 1) gIA_151 (by decide) rfl dX7_stows_99 ?_
            refine lv_iconst (v := 1) hx hb dX7_stows_100 (by decide) ?_
            refine lv_iadd hx hb dX7_stows_101 ?_
            obtain ⟨M23, eM23, hf⟩ := glet hf
            refine g_iast hC hI (k := 1) gIA_151 (by decide) rfl dX7_stows_102 (fun H locs hI => ?_)
            replace hI := g_mem eM23 hI
            refine lv_aload_n hx hb dX7_stows_103 rfl (lv_at hl 1 rfl) ?_
            refine lv_aload_n hx hb dX7_stows_104 rfl (lv_at hl 1 rfl) ?_
            refine gt_X7_X7_g hC hI dX7_stows_105 ?_
            refine lv_iconst (v := 1) hx hb dX7_stows_108 (by decide) ?_
            refine g_iald hC hI (k := 1) gIA_151 (by decide) rfl dX7_stows_109 ?_
            refine lv_iconst (v := 1) hx hb dX7_stows_110 (by decide) ?_
            refine lv_isub hx hb dX7_stows_111 ?_
            obtain ⟨r24, hr25, hf⟩ := gbind hf
            have hr25 := C_X7_done l E x  hr25
            refine g_callVi (rest := []) hC hI hr25 Y_X7_done V_X7_done w1409 (rcv_X7 hC hI) ⟨rfl, rfl⟩ ⟨Nat.le_of_ble_eq_true rfl, Nat.le_of_ble_eq_true rfl⟩ rfl hl.1 rfl (Nat.le_of_ble_eq_true rfl) dX7_stows_112 ⟨Nat.le_of_ble_eq_true rfl, Nat.le_of_ble_eq_true rfl⟩ (fun H locs hI => ?_)
            exact kr _ _ _ _ _ _ (grw hf) hI ⟨.int, rfl, rfl⟩ dX7_stows_115
          · replace hf := gif h18 hf
            refine lv_aload_n hx hb dX7_stows_67 rfl (lv_at hl 1 rfl) ?_
            refine lv_iconst (v := 3) hx hb dX7_stows_68 (by decide) ?_
            obtain ⟨r26, hr27, hf⟩ := gbind hf
            have hr27 := C_X7_fails l E x  hr27
            refine g_callVi (rest := []) hC hI hr27 Y_X7_fails V_X7_fails w1401 (rcv_X7 hC hI) ⟨rfl, rfl⟩ ⟨Nat.le_of_ble_eq_true rfl, Nat.le_of_ble_eq_true rfl⟩ rfl hl.1 rfl (Nat.le_of_ble_eq_true rfl) dX7_stows_69 ⟨Nat.le_of_ble_eq_true rfl, Nat.le_of_ble_eq_true rfl⟩ (fun H locs hI => ?_)
            exact kr _ _ _ _ _ _ (grw hf) hI ⟨.int, rfl, rfl⟩ dX7_stows_72
      · replace hf := gif h11 hf
        refine lv_aload_n hx hb dX7_stows_35 rfl (lv_at hl 0 rfl) ?_
        refine lv_iconst (v := 2) hx hb dX7_stows_36 (by decide) ?_
        obtain ⟨r28, hr29, hf⟩ := gbind hf
        have hr29 := C_X7_fails l E x  hr29
        refine g_callVi (rest := []) hC hI hr29 Y_X7_fails V_X7_fails w1401 (rcv_X7 hC hI) ⟨rfl, rfl⟩ ⟨Nat.le_of_ble_eq_true rfl, Nat.le_of_ble_eq_true rfl⟩ rfl hl.1 rfl (Nat.le_of_ble_eq_true rfl) dX7_stows_37 ⟨Nat.le_of_ble_eq_true rfl, Nat.le_of_ble_eq_true rfl⟩ (fun H locs hI => ?_)
        exact kr _ _ _ _ _ _ (grw hf) hI ⟨.int, rfl, rfl⟩ dX7_stows_40
  · replace hf := gif h3 hf
    refine lv_aload_n hx hb dX7_stows_8 rfl (lv_at hl 0 rfl) ?_
    refine lv_iconst (v := 1) hx hb dX7_stows_9 (by decide) ?_
    obtain ⟨r30, hr31, hf⟩ := gbind hf
    have hr31 := C_X7_fails l E x  hr31
    refine g_callVi (rest := []) hC hI hr31 Y_X7_fails V_X7_fails w1401 (rcv_X7 hC hI) ⟨rfl, rfl⟩ ⟨Nat.le_of_ble_eq_true rfl, Nat.le_of_ble_eq_true rfl⟩ rfl hl.1 rfl (Nat.le_of_ble_eq_true rfl) dX7_stows_10 ⟨Nat.le_of_ble_eq_true rfl, Nat.le_of_ble_eq_true rfl⟩ (fun H locs hI => ?_)
    exact kr _ _ _ _ _ _ (grw hf) hI ⟨.int, rfl, rfl⟩ dX7_stows_13
theorem dX7_stow_0 : decode cX7_stow 0 = .ok (.aload_n 0, 1) := by decide +kernel
theorem dX7_stow_1 : decode cX7_stow 1 = .ok (.invokevirtual 78, 3) := by decide +kernel
theorem dX7_stow_4 : decode cX7_stow 4 = .ok (.aload_n 0, 1) := by decide +kernel
theorem dX7_stow_5 : decode cX7_stow 5 = .ok (.aload_n 0, 1) := by decide +kernel
theorem dX7_stow_6 : decode cX7_stow 6 = .ok (.iload_n 1, 1) := by decide +kernel
theorem dX7_stow_7 : decode cX7_stow 7 = .ok (.iload_n 2, 1) := by decide +kernel
theorem dX7_stow_8 : decode cX7_stow 8 = .ok (.iload_n 3, 1) := by decide +kernel
theorem dX7_stow_9 : decode cX7_stow 9 = .ok (.iload 4, 2) := by decide +kernel
theorem dX7_stow_11 : decode cX7_stow 11 = .ok (.invokevirtual 99, 3) := by decide +kernel
theorem dX7_stow_14 : decode cX7_stow 14 = .ok (.invokevirtual 85, 3) := by decide +kernel
theorem dX7_stow_17 : decode cX7_stow 17 = .ok (.ireturn, 1) := by decide +kernel
set_option maxRecDepth 100000 in
set_option maxHeartbeats 4000000 in
theorem C_X7_stow (l : Launch) (E : gE) (x : gX) {v1 v2 v3 v4 : Int32} {M : gM} {r : Int32} {M' : gM} (hf : f_X7_stow v1 v2 v3 v4 M = some (r, M')) : gM0 l E yX7_stow (.code yX7_stow cX7_stow 5 (some .int)) (gR 4 88) M x [.ref (E.2.1 150), .int v1, .int v2, .int v3, .int v4] (some (.int r)) M' := by
  refine gMet (by decide +kernel) (Nat.le_of_ble_eq_true rfl) ?_
  intro p e s m args below meth c H locs ls Q hC hl hI kr kv
  replace hC : gC p s m args c cX7_stow 5 RX7 E := hC
  replace hl : lv_has ls 5 [(0, .ref (E.2.1 150)), (1, .int v1), (2, .int v2), (3, .int v3), (4, .int v4)] := hl
  have hx := hC.1
  have hb := hC.2.1
  unfold f_X7_stow at hf
  refine lv_aload_n hx hb dX7_stow_0 rfl (lv_at hl 0 rfl) ?_
  obtain ⟨r1, hr2, hf⟩ := gbind hf
  have hr2 := C_X7_begin l E x  hr2
  refine g_callVv (rest := []) hC hI hr2 Y_X7_begin V_X7_begin w1384 (rcv_X7 hC hI) ⟨rfl, rfl⟩ ⟨Nat.le_of_ble_eq_true rfl, Nat.le_of_ble_eq_true rfl⟩ rfl hl.1 rfl (Nat.le_of_ble_eq_true rfl) dX7_stow_1 ⟨Nat.le_of_ble_eq_true rfl, Nat.le_of_ble_eq_true rfl⟩ (fun H locs hI => ?_)
  refine lv_aload_n hx hb dX7_stow_4 rfl (lv_at hl 0 rfl) ?_
  refine lv_aload_n hx hb dX7_stow_5 rfl (lv_at hl 0 rfl) ?_
  refine lv_iload_n hx hb dX7_stow_6 rfl (lv_at hl 1 rfl) ?_
  refine lv_iload_n hx hb dX7_stow_7 rfl (lv_at hl 2 rfl) ?_
  refine lv_iload_n hx hb dX7_stow_8 rfl (lv_at hl 3 rfl) ?_
  refine lv_iload hx hb dX7_stow_9 (lv_at hl 4 rfl) ?_
  obtain ⟨r3, hr4, hf⟩ := gbind hf
  have hr4 := C_X7_stows l E x  hr4
  refine g_callVi (rest := [.ref (E.2.1 150)]) hC hI hr4 Y_X7_stows V_X7_stows w1421 (rcv_X7 hC hI) ⟨rfl, rfl⟩ ⟨Nat.le_of_ble_eq_true rfl, Nat.le_of_ble_eq_true rfl⟩ rfl hl.1 rfl (Nat.le_of_ble_eq_true rfl) dX7_stow_11 ⟨Nat.le_of_ble_eq_true rfl, Nat.le_of_ble_eq_true rfl⟩ (fun H locs hI => ?_)
  obtain ⟨r5, hr6, hf⟩ := gbind hf
  have hr6 := C_X7_kept l E x  hr6
  refine g_callVi (rest := []) hC hI hr6 Y_X7_kept V_X7_kept w1413 (rcv_X7 hC hI) ⟨rfl, rfl⟩ ⟨Nat.le_of_ble_eq_true rfl, Nat.le_of_ble_eq_true rfl⟩ rfl hl.1 rfl (Nat.le_of_ble_eq_true rfl) dX7_stow_14 ⟨Nat.le_of_ble_eq_true rfl, Nat.le_of_ble_eq_true rfl⟩ (fun H locs hI => ?_)
  exact kr _ _ _ _ _ _ (grw hf) hI ⟨.int, rfl, rfl⟩ dX7_stow_17
theorem dX7_answer_0 : decode cX7_answer 0 = .ok (.bipush 7, 2) := by decide +kernel
theorem dX7_answer_2 : decode cX7_answer 2 = .ok (.iload_n 1, 1) := by decide +kernel
theorem dX7_answer_3 : decode cX7_answer 3 = .ok (.imul, 1) := by decide +kernel
theorem dX7_answer_4 : decode cX7_answer 4 = .ok (.iload_n 0, 1) := by decide +kernel
theorem dX7_answer_5 : decode cX7_answer 5 = .ok (.iadd, 1) := by decide +kernel
theorem dX7_answer_6 : decode cX7_answer 6 = .ok (.bipush 10, 2) := by decide +kernel
theorem dX7_answer_8 : decode cX7_answer 8 = .ok (.irem, 1) := by decide +kernel
theorem dX7_answer_9 : decode cX7_answer 9 = .ok (.ireturn, 1) := by decide +kernel
set_option maxRecDepth 100000 in
set_option maxHeartbeats 4000000 in
theorem C_X7_answer (l : Launch) (E : gE) (x : gX) {v0 v1 : Int32} {M : gM} {r : Int32} (hf : f_X7_answer v0 v1 M = some r) : gM0 l E yX7_answer (.code yX7_answer cX7_answer 2 (some .int)) (gR 0 0) M x [.int v0, .int v1] (some (.int r)) M := by
  refine gMet (by decide +kernel) (Nat.le_of_ble_eq_true rfl) ?_
  intro p e s m args below meth c H locs ls Q hC hl hI kr kv
  replace hC : gC p s m args c cX7_answer 2 RX7 E := hC
  replace hl : lv_has ls 2 [(0, .int v0), (1, .int v1)] := hl
  have hx := hC.1
  have hb := hC.2.1
  unfold f_X7_answer at hf
  refine lv_bipush (v := 7) hx hb dX7_answer_0 (by decide) ?_
  refine lv_iload_n hx hb dX7_answer_2 rfl (lv_at hl 1 rfl) ?_
  refine lv_imul hx hb dX7_answer_3 ?_
  refine lv_iload_n hx hb dX7_answer_4 rfl (lv_at hl 0 rfl) ?_
  refine lv_iadd hx hb dX7_answer_5 ?_
  refine lv_bipush (v := 10) hx hb dX7_answer_6 (by decide) ?_
  refine lv_irem hx hb dX7_answer_8 (by decide) ?_
  exact kr _ _ _ _ _ _ (gri hf) hI ⟨.int, rfl, rfl⟩ dX7_answer_9
theorem dX7_isWrongAt_0 : decode cX7_isWrongAt 0 = .ok (.aload_n 0, 1) := by decide +kernel
theorem dX7_isWrongAt_1 : decode cX7_isWrongAt 1 = .ok (.getfield 7, 3) := by decide +kernel
theorem dX7_isWrongAt_4 : decode cX7_isWrongAt 4 = .ok (.bipush 16, 2) := by decide +kernel
theorem dX7_isWrongAt_6 : decode cX7_isWrongAt 6 = .ok (.iload_n 1, 1) := by decide +kernel
theorem dX7_isWrongAt_7 : decode cX7_isWrongAt 7 = .ok (.iadd, 1) := by decide +kernel
theorem dX7_isWrongAt_8 : decode cX7_isWrongAt 8 = .ok (.dup2, 1) := by decide +kernel
theorem dX7_isWrongAt_9 : decode cX7_isWrongAt 9 = .ok (.iaload, 1) := by decide +kernel
theorem dX7_isWrongAt_10 : decode cX7_isWrongAt 10 = .ok (.iconst 1, 1) := by decide +kernel
theorem dX7_isWrongAt_11 : decode cX7_isWrongAt 11 = .ok (.iadd, 1) := by decide +kernel
theorem dX7_isWrongAt_12 : decode cX7_isWrongAt 12 = .ok (.iastore, 1) := by decide +kernel
theorem dX7_isWrongAt_13 : decode cX7_isWrongAt 13 = .ok (.aload_n 0, 1) := by decide +kernel
theorem dX7_isWrongAt_14 : decode cX7_isWrongAt 14 = .ok (.getfield 7, 3) := by decide +kernel
theorem dX7_isWrongAt_17 : decode cX7_isWrongAt 17 = .ok (.iconst 2, 1) := by decide +kernel
theorem dX7_isWrongAt_18 : decode cX7_isWrongAt 18 = .ok (.dup2, 1) := by decide +kernel
theorem dX7_isWrongAt_19 : decode cX7_isWrongAt 19 = .ok (.iaload, 1) := by decide +kernel
theorem dX7_isWrongAt_20 : decode cX7_isWrongAt 20 = .ok (.iconst 5, 1) := by decide +kernel
theorem dX7_isWrongAt_21 : decode cX7_isWrongAt 21 = .ok (.iadd, 1) := by decide +kernel
theorem dX7_isWrongAt_22 : decode cX7_isWrongAt 22 = .ok (.iastore, 1) := by decide +kernel
theorem dX7_isWrongAt_23 : decode cX7_isWrongAt 23 = .ok (.aload_n 0, 1) := by decide +kernel
theorem dX7_isWrongAt_24 : decode cX7_isWrongAt 24 = .ok (.getfield 7, 3) := by decide +kernel
theorem dX7_isWrongAt_27 : decode cX7_isWrongAt 27 = .ok (.iconst 5, 1) := by decide +kernel
theorem dX7_isWrongAt_28 : decode cX7_isWrongAt 28 = .ok (.dup2, 1) := by decide +kernel
theorem dX7_isWrongAt_29 : decode cX7_isWrongAt 29 = .ok (.iaload, 1) := by decide +kernel
theorem dX7_isWrongAt_30 : decode cX7_isWrongAt 30 = .ok (.iconst 1, 1) := by decide +kernel
theorem dX7_isWrongAt_31 : decode cX7_isWrongAt 31 = .ok (.iadd, 1) := by decide +kernel
theorem dX7_isWrongAt_32 : decode cX7_isWrongAt 32 = .ok (.iastore, 1) := by decide +kernel
theorem dX7_isWrongAt_33 : decode cX7_isWrongAt 33 = .ok (.aload_n 0, 1) := by decide +kernel
theorem dX7_isWrongAt_34 : decode cX7_isWrongAt 34 = .ok (.getfield 7, 3) := by decide +kernel
theorem dX7_isWrongAt_37 : decode cX7_isWrongAt 37 = .ok (.bipush 16, 2) := by decide +kernel
theorem dX7_isWrongAt_39 : decode cX7_isWrongAt 39 = .ok (.iload_n 1, 1) := by decide +kernel
theorem dX7_isWrongAt_40 : decode cX7_isWrongAt 40 = .ok (.iadd, 1) := by decide +kernel
theorem dX7_isWrongAt_41 : decode cX7_isWrongAt 41 = .ok (.iaload, 1) := by decide +kernel
theorem dX7_isWrongAt_42 : decode cX7_isWrongAt 42 = .ok (.iconst 3, 1) := by decide +kernel
theorem dX7_isWrongAt_43 : decode cX7_isWrongAt 43 = .ok (.if_icmp .ne 23, 3) := by decide +kernel
theorem dX7_isWrongAt_46 : decode cX7_isWrongAt 46 = .ok (.aload_n 0, 1) := by decide +kernel
theorem dX7_isWrongAt_47 : decode cX7_isWrongAt 47 = .ok (.getfield 7, 3) := by decide +kernel
theorem dX7_isWrongAt_50 : decode cX7_isWrongAt 50 = .ok (.bipush 16, 2) := by decide +kernel
theorem dX7_isWrongAt_52 : decode cX7_isWrongAt 52 = .ok (.iload_n 1, 1) := by decide +kernel
theorem dX7_isWrongAt_53 : decode cX7_isWrongAt 53 = .ok (.iadd, 1) := by decide +kernel
theorem dX7_isWrongAt_54 : decode cX7_isWrongAt 54 = .ok (.iconst 0, 1) := by decide +kernel
theorem dX7_isWrongAt_55 : decode cX7_isWrongAt 55 = .ok (.iastore, 1) := by decide +kernel
theorem dX7_isWrongAt_56 : decode cX7_isWrongAt 56 = .ok (.aload_n 0, 1) := by decide +kernel
theorem dX7_isWrongAt_57 : decode cX7_isWrongAt 57 = .ok (.getfield 7, 3) := by decide +kernel
theorem dX7_isWrongAt_60 : decode cX7_isWrongAt 60 = .ok (.bipush 19, 2) := by decide +kernel
theorem dX7_isWrongAt_62 : decode cX7_isWrongAt 62 = .ok (.iload_n 1, 1) := by decide +kernel
theorem dX7_isWrongAt_63 : decode cX7_isWrongAt 63 = .ok (.iadd, 1) := by decide +kernel
theorem dX7_isWrongAt_64 : decode cX7_isWrongAt 64 = .ok (.iconst 2, 1) := by decide +kernel
theorem dX7_isWrongAt_65 : decode cX7_isWrongAt 65 = .ok (.iastore, 1) := by decide +kernel
theorem dX7_isWrongAt_66 : decode cX7_isWrongAt 66 = .ok (.return_, 1) := by decide +kernel
set_option maxRecDepth 100000 in
set_option maxHeartbeats 4000000 in
theorem C_X7_isWrongAt (l : Launch) (E : gE) (x : gX) {v1 : Int32} {M : gM} {M' : gM} (hf : f_X7_isWrongAt v1 M = some M') : gM0 l E yX7_isWrongAt (.code yX7_isWrongAt cX7_isWrongAt 2 none) (gR 0 0) M x [.ref (E.2.1 150), .int v1] none M' := by
  refine gMet (by decide +kernel) (Nat.le_of_ble_eq_true rfl) ?_
  intro p e s m args below meth c H locs ls Q hC hl hI kr kv
  replace hC : gC p s m args c cX7_isWrongAt 2 RX7 E := hC
  replace hl : lv_has ls 2 [(0, .ref (E.2.1 150)), (1, .int v1)] := hl
  have hx := hC.1
  have hb := hC.2.1
  unfold f_X7_isWrongAt at hf
  refine lv_aload_n hx hb dX7_isWrongAt_0 rfl (lv_at hl 0 rfl) ?_
  refine gt_X7_X7_g hC hI dX7_isWrongAt_1 ?_
  refine lv_bipush (v := 16) hx hb dX7_isWrongAt_4 (by decide) ?_
  refine lv_iload_n hx hb dX7_isWrongAt_6 rfl (lv_at hl 1 rfl) ?_
  refine lv_iadd hx hb dX7_isWrongAt_7 ?_
  refine lv_dup2_11 hx hb dX7_isWrongAt_8 rfl rfl ?_
  obtain ⟨h1, hf⟩ := gifN hf
  refine g_iald hC hI (k := (16 + v1).toNatClampNeg) gIA_151 h1 rfl dX7_isWrongAt_9 ?_
  refine lv_iconst (v := 1) hx hb dX7_isWrongAt_10 (by decide) ?_
  refine lv_iadd hx hb dX7_isWrongAt_11 ?_
  obtain ⟨h2, hf⟩ := gifN hf
  obtain ⟨M3, eM3, hf⟩ := glet hf
  refine g_iast hC hI (k := (16 + v1).toNatClampNeg) gIA_151 h2 rfl dX7_isWrongAt_12 (fun H locs hI => ?_)
  replace hI := g_mem eM3 hI
  refine lv_aload_n hx hb dX7_isWrongAt_13 rfl (lv_at hl 0 rfl) ?_
  refine gt_X7_X7_g hC hI dX7_isWrongAt_14 ?_
  refine lv_iconst (v := 2) hx hb dX7_isWrongAt_17 (by decide) ?_
  refine lv_dup2_11 hx hb dX7_isWrongAt_18 rfl rfl ?_
  refine g_iald hC hI (k := 2) gIA_151 (by decide) rfl dX7_isWrongAt_19 ?_
  refine lv_iconst (v := 5) hx hb dX7_isWrongAt_20 (by decide) ?_
  refine lv_iadd hx hb dX7_isWrongAt_21 ?_
  obtain ⟨M4, eM4, hf⟩ := glet hf
  refine g_iast hC hI (k := 2) gIA_151 (by decide) rfl dX7_isWrongAt_22 (fun H locs hI => ?_)
  replace hI := g_mem eM4 hI
  refine lv_aload_n hx hb dX7_isWrongAt_23 rfl (lv_at hl 0 rfl) ?_
  refine gt_X7_X7_g hC hI dX7_isWrongAt_24 ?_
  refine lv_iconst (v := 5) hx hb dX7_isWrongAt_27 (by decide) ?_
  refine lv_dup2_11 hx hb dX7_isWrongAt_28 rfl rfl ?_
  refine g_iald hC hI (k := 5) gIA_151 (by decide) rfl dX7_isWrongAt_29 ?_
  refine lv_iconst (v := 1) hx hb dX7_isWrongAt_30 (by decide) ?_
  refine lv_iadd hx hb dX7_isWrongAt_31 ?_
  obtain ⟨M5, eM5, hf⟩ := glet hf
  refine g_iast hC hI (k := 5) gIA_151 (by decide) rfl dX7_isWrongAt_32 (fun H locs hI => ?_)
  replace hI := g_mem eM5 hI
  refine lv_aload_n hx hb dX7_isWrongAt_33 rfl (lv_at hl 0 rfl) ?_
  refine gt_X7_X7_g hC hI dX7_isWrongAt_34 ?_
  refine lv_bipush (v := 16) hx hb dX7_isWrongAt_37 (by decide) ?_
  refine lv_iload_n hx hb dX7_isWrongAt_39 rfl (lv_at hl 1 rfl) ?_
  refine lv_iadd hx hb dX7_isWrongAt_40 ?_
  obtain ⟨h6, hf⟩ := gifN hf
  refine g_iald hC hI (k := (16 + v1).toNatClampNeg) gIA_151 h6 rfl dX7_isWrongAt_41 ?_
  refine lv_iconst (v := 3) hx hb dX7_isWrongAt_42 (by decide) ?_
  refine lv_icmp_ne (tgt := 66) hx hb dX7_isWrongAt_43 rfl (fun h7 => ?_) (fun h7 => ?_)
  · replace hf := gifn h7 hf
    exact kv _ _ _ _ _ (grv hf) hI rfl dX7_isWrongAt_66
  · replace hf := gif h7 hf
    refine lv_aload_n hx hb dX7_isWrongAt_46 rfl (lv_at hl 0 rfl) ?_
    refine gt_X7_X7_g hC hI dX7_isWrongAt_47 ?_
    refine lv_bipush (v := 16) hx hb dX7_isWrongAt_50 (by decide) ?_
    refine lv_iload_n hx hb dX7_isWrongAt_52 rfl (lv_at hl 1 rfl) ?_
    refine lv_iadd hx hb dX7_isWrongAt_53 ?_
    refine lv_iconst (v := 0) hx hb dX7_isWrongAt_54 (by decide) ?_
    obtain ⟨h8, hf⟩ := gifN hf
    obtain ⟨M9, eM9, hf⟩ := glet hf
    refine g_iast hC hI (k := (16 + v1).toNatClampNeg) gIA_151 h8 rfl dX7_isWrongAt_55 (fun H locs hI => ?_)
    replace hI := g_mem eM9 hI
    refine lv_aload_n hx hb dX7_isWrongAt_56 rfl (lv_at hl 0 rfl) ?_
    refine gt_X7_X7_g hC hI dX7_isWrongAt_57 ?_
    refine lv_bipush (v := 19) hx hb dX7_isWrongAt_60 (by decide) ?_
    refine lv_iload_n hx hb dX7_isWrongAt_62 rfl (lv_at hl 1 rfl) ?_
    refine lv_iadd hx hb dX7_isWrongAt_63 ?_
    refine lv_iconst (v := 2) hx hb dX7_isWrongAt_64 (by decide) ?_
    obtain ⟨h10, hf⟩ := gifN hf
    obtain ⟨M11, eM11, hf⟩ := glet hf
    refine g_iast hC hI (k := (19 + v1).toNatClampNeg) gIA_151 h10 rfl dX7_isWrongAt_65 (fun H locs hI => ?_)
    replace hI := g_mem eM11 hI
    exact kv _ _ _ _ _ (grv hf) hI rfl dX7_isWrongAt_66
theorem dX7_clears_0 : decode cX7_clears 0 = .ok (.iload_n 1, 1) := by decide +kernel
theorem dX7_clears_1 : decode cX7_clears 1 = .ok (.iload_n 2, 1) := by decide +kernel
theorem dX7_clears_2 : decode cX7_clears 2 = .ok (.invokestatic 88, 3) := by decide +kernel
theorem dX7_clears_5 : decode cX7_clears 5 = .ok (.ifCond .ne 9, 3) := by decide +kernel
theorem dX7_clears_8 : decode cX7_clears 8 = .ok (.aload_n 0, 1) := by decide +kernel
theorem dX7_clears_9 : decode cX7_clears 9 = .ok (.iconst 1, 1) := by decide +kernel
theorem dX7_clears_10 : decode cX7_clears 10 = .ok (.invokevirtual 67, 3) := by decide +kernel
theorem dX7_clears_13 : decode cX7_clears 13 = .ok (.ireturn, 1) := by decide +kernel
theorem dX7_clears_14 : decode cX7_clears 14 = .ok (.iload_n 3, 1) := by decide +kernel
theorem dX7_clears_15 : decode cX7_clears 15 = .ok (.iconst 0, 1) := by decide +kernel
theorem dX7_clears_16 : decode cX7_clears 16 = .ok (.bipush 9, 2) := by decide +kernel
theorem dX7_clears_18 : decode cX7_clears 18 = .ok (.invokestatic 52, 3) := by decide +kernel
theorem dX7_clears_21 : decode cX7_clears 21 = .ok (.ifCond .ne 9, 3) := by decide +kernel
theorem dX7_clears_24 : decode cX7_clears 24 = .ok (.aload_n 0, 1) := by decide +kernel
theorem dX7_clears_25 : decode cX7_clears 25 = .ok (.iconst 2, 1) := by decide +kernel
theorem dX7_clears_26 : decode cX7_clears 26 = .ok (.invokevirtual 67, 3) := by decide +kernel
theorem dX7_clears_29 : decode cX7_clears 29 = .ok (.ireturn, 1) := by decide +kernel
theorem dX7_clears_30 : decode cX7_clears 30 = .ok (.aload_n 0, 1) := by decide +kernel
theorem dX7_clears_31 : decode cX7_clears 31 = .ok (.iload_n 1, 1) := by decide +kernel
theorem dX7_clears_32 : decode cX7_clears 32 = .ok (.iload_n 2, 1) := by decide +kernel
theorem dX7_clears_33 : decode cX7_clears 33 = .ok (.invokevirtual 63, 3) := by decide +kernel
theorem dX7_clears_36 : decode cX7_clears 36 = .ok (.iconst 1, 1) := by decide +kernel
theorem dX7_clears_37 : decode cX7_clears 37 = .ok (.isub, 1) := by decide +kernel
theorem dX7_clears_38 : decode cX7_clears 38 = .ok (.istore 4, 2) := by decide +kernel
theorem dX7_clears_40 : decode cX7_clears 40 = .ok (.aload_n 0, 1) := by decide +kernel
theorem dX7_clears_41 : decode cX7_clears 41 = .ok (.getfield 7, 3) := by decide +kernel
theorem dX7_clears_44 : decode cX7_clears 44 = .ok (.bipush 7, 2) := by decide +kernel
theorem dX7_clears_46 : decode cX7_clears 46 = .ok (.iload_n 1, 1) := by decide +kernel
theorem dX7_clears_47 : decode cX7_clears 47 = .ok (.iadd, 1) := by decide +kernel
theorem dX7_clears_48 : decode cX7_clears 48 = .ok (.iaload, 1) := by decide +kernel
theorem dX7_clears_49 : decode cX7_clears 49 = .ok (.ifCond .eq 32, 3) := by decide +kernel
theorem dX7_clears_52 : decode cX7_clears 52 = .ok (.aload_n 0, 1) := by decide +kernel
theorem dX7_clears_53 : decode cX7_clears 53 = .ok (.getfield 7, 3) := by decide +kernel
theorem dX7_clears_56 : decode cX7_clears 56 = .ok (.bipush 19, 2) := by decide +kernel
theorem dX7_clears_58 : decode cX7_clears 58 = .ok (.iload_n 1, 1) := by decide +kernel
theorem dX7_clears_59 : decode cX7_clears 59 = .ok (.iadd, 1) := by decide +kernel
theorem dX7_clears_60 : decode cX7_clears 60 = .ok (.iaload, 1) := by decide +kernel
theorem dX7_clears_61 : decode cX7_clears 61 = .ok (.ifCond .gt 20, 3) := by decide +kernel
theorem dX7_clears_64 : decode cX7_clears 64 = .ok (.iload 4, 2) := by decide +kernel
theorem dX7_clears_66 : decode cX7_clears 66 = .ok (.ifCond .lt 15, 3) := by decide +kernel
theorem dX7_clears_69 : decode cX7_clears 69 = .ok (.aload_n 0, 1) := by decide +kernel
theorem dX7_clears_70 : decode cX7_clears 70 = .ok (.getfield 7, 3) := by decide +kernel
theorem dX7_clears_73 : decode cX7_clears 73 = .ok (.bipush 6, 2) := by decide +kernel
theorem dX7_clears_75 : decode cX7_clears 75 = .ok (.iaload, 1) := by decide +kernel
theorem dX7_clears_76 : decode cX7_clears 76 = .ok (.bipush 15, 2) := by decide +kernel
theorem dX7_clears_78 : decode cX7_clears 78 = .ok (.if_icmp .ne 9, 3) := by decide +kernel
theorem dX7_clears_81 : decode cX7_clears 81 = .ok (.aload_n 0, 1) := by decide +kernel
theorem dX7_clears_82 : decode cX7_clears 82 = .ok (.iconst 3, 1) := by decide +kernel
theorem dX7_clears_83 : decode cX7_clears 83 = .ok (.invokevirtual 67, 3) := by decide +kernel
theorem dX7_clears_86 : decode cX7_clears 86 = .ok (.ireturn, 1) := by decide +kernel
theorem dX7_clears_87 : decode cX7_clears 87 = .ok (.iload_n 1, 1) := by decide +kernel
theorem dX7_clears_88 : decode cX7_clears 88 = .ok (.iload_n 2, 1) := by decide +kernel
theorem dX7_clears_89 : decode cX7_clears 89 = .ok (.iload 4, 2) := by decide +kernel
theorem dX7_clears_91 : decode cX7_clears 91 = .ok (.invokestatic 92, 3) := by decide +kernel
theorem dX7_clears_94 : decode cX7_clears 94 = .ok (.istore 5, 2) := by decide +kernel
theorem dX7_clears_96 : decode cX7_clears 96 = .ok (.aload_n 0, 1) := by decide +kernel
theorem dX7_clears_97 : decode cX7_clears 97 = .ok (.getfield 7, 3) := by decide +kernel
theorem dX7_clears_100 : decode cX7_clears 100 = .ok (.bipush 94, 2) := by decide +kernel
theorem dX7_clears_102 : decode cX7_clears 102 = .ok (.iload 5, 2) := by decide +kernel
theorem dX7_clears_104 : decode cX7_clears 104 = .ok (.iadd, 1) := by decide +kernel
theorem dX7_clears_105 : decode cX7_clears 105 = .ok (.iaload, 1) := by decide +kernel
theorem dX7_clears_106 : decode cX7_clears 106 = .ok (.aload_n 0, 1) := by decide +kernel
theorem dX7_clears_107 : decode cX7_clears 107 = .ok (.getfield 7, 3) := by decide +kernel
theorem dX7_clears_110 : decode cX7_clears 110 = .ok (.sipush 154, 3) := by decide +kernel
theorem dX7_clears_113 : decode cX7_clears 113 = .ok (.iload 5, 2) := by decide +kernel
theorem dX7_clears_115 : decode cX7_clears 115 = .ok (.iadd, 1) := by decide +kernel
theorem dX7_clears_116 : decode cX7_clears 116 = .ok (.iaload, 1) := by decide +kernel
theorem dX7_clears_117 : decode cX7_clears 117 = .ok (.invokestatic 103, 3) := by decide +kernel
theorem dX7_clears_120 : decode cX7_clears 120 = .ok (.iload_n 3, 1) := by decide +kernel
theorem dX7_clears_121 : decode cX7_clears 121 = .ok (.if_icmp .eq 14, 3) := by decide +kernel
theorem dX7_clears_124 : decode cX7_clears 124 = .ok (.aload_n 0, 1) := by decide +kernel
theorem dX7_clears_125 : decode cX7_clears 125 = .ok (.iload_n 1, 1) := by decide +kernel
theorem dX7_clears_126 : decode cX7_clears 126 = .ok (.invokevirtual 106, 3) := by decide +kernel
theorem dX7_clears_129 : decode cX7_clears 129 = .ok (.aload_n 0, 1) := by decide +kernel
theorem dX7_clears_130 : decode cX7_clears 130 = .ok (.iconst 0, 1) := by decide +kernel
theorem dX7_clears_131 : decode cX7_clears 131 = .ok (.invokevirtual 75, 3) := by decide +kernel
theorem dX7_clears_134 : decode cX7_clears 134 = .ok (.ireturn, 1) := by decide +kernel
theorem dX7_clears_135 : decode cX7_clears 135 = .ok (.aload_n 0, 1) := by decide +kernel
theorem dX7_clears_136 : decode cX7_clears 136 = .ok (.getfield 7, 3) := by decide +kernel
theorem dX7_clears_139 : decode cX7_clears 139 = .ok (.sipush 214, 3) := by decide +kernel
theorem dX7_clears_142 : decode cX7_clears 142 = .ok (.aload_n 0, 1) := by decide +kernel
theorem dX7_clears_143 : decode cX7_clears 143 = .ok (.getfield 7, 3) := by decide +kernel
theorem dX7_clears_146 : decode cX7_clears 146 = .ok (.bipush 6, 2) := by decide +kernel
theorem dX7_clears_148 : decode cX7_clears 148 = .ok (.iaload, 1) := by decide +kernel
theorem dX7_clears_149 : decode cX7_clears 149 = .ok (.iadd, 1) := by decide +kernel
theorem dX7_clears_150 : decode cX7_clears 150 = .ok (.aload_n 0, 1) := by decide +kernel
theorem dX7_clears_151 : decode cX7_clears 151 = .ok (.getfield 7, 3) := by decide +kernel
theorem dX7_clears_154 : decode cX7_clears 154 = .ok (.bipush 34, 2) := by decide +kernel
theorem dX7_clears_156 : decode cX7_clears 156 = .ok (.iload 5, 2) := by decide +kernel
theorem dX7_clears_158 : decode cX7_clears 158 = .ok (.iadd, 1) := by decide +kernel
theorem dX7_clears_159 : decode cX7_clears 159 = .ok (.iaload, 1) := by decide +kernel
theorem dX7_clears_160 : decode cX7_clears 160 = .ok (.iastore, 1) := by decide +kernel
theorem dX7_clears_161 : decode cX7_clears 161 = .ok (.aload_n 0, 1) := by decide +kernel
theorem dX7_clears_162 : decode cX7_clears 162 = .ok (.getfield 7, 3) := by decide +kernel
theorem dX7_clears_165 : decode cX7_clears 165 = .ok (.sipush 229, 3) := by decide +kernel
theorem dX7_clears_168 : decode cX7_clears 168 = .ok (.aload_n 0, 1) := by decide +kernel
theorem dX7_clears_169 : decode cX7_clears 169 = .ok (.getfield 7, 3) := by decide +kernel
theorem dX7_clears_172 : decode cX7_clears 172 = .ok (.bipush 6, 2) := by decide +kernel
theorem dX7_clears_174 : decode cX7_clears 174 = .ok (.iaload, 1) := by decide +kernel
theorem dX7_clears_175 : decode cX7_clears 175 = .ok (.iadd, 1) := by decide +kernel
theorem dX7_clears_176 : decode cX7_clears 176 = .ok (.aload_n 0, 1) := by decide +kernel
theorem dX7_clears_177 : decode cX7_clears 177 = .ok (.getfield 7, 3) := by decide +kernel
theorem dX7_clears_180 : decode cX7_clears 180 = .ok (.bipush 94, 2) := by decide +kernel
theorem dX7_clears_182 : decode cX7_clears 182 = .ok (.iload 5, 2) := by decide +kernel
theorem dX7_clears_184 : decode cX7_clears 184 = .ok (.iadd, 1) := by decide +kernel
theorem dX7_clears_185 : decode cX7_clears 185 = .ok (.iaload, 1) := by decide +kernel
theorem dX7_clears_186 : decode cX7_clears 186 = .ok (.iastore, 1) := by decide +kernel
theorem dX7_clears_187 : decode cX7_clears 187 = .ok (.aload_n 0, 1) := by decide +kernel
theorem dX7_clears_188 : decode cX7_clears 188 = .ok (.getfield 7, 3) := by decide +kernel
theorem dX7_clears_191 : decode cX7_clears 191 = .ok (.sipush 244, 3) := by decide +kernel
theorem dX7_clears_194 : decode cX7_clears 194 = .ok (.aload_n 0, 1) := by decide +kernel
theorem dX7_clears_195 : decode cX7_clears 195 = .ok (.getfield 7, 3) := by decide +kernel
theorem dX7_clears_198 : decode cX7_clears 198 = .ok (.bipush 6, 2) := by decide +kernel
theorem dX7_clears_200 : decode cX7_clears 200 = .ok (.iaload, 1) := by decide +kernel
theorem dX7_clears_201 : decode cX7_clears 201 = .ok (.iadd, 1) := by decide +kernel
theorem dX7_clears_202 : decode cX7_clears 202 = .ok (.aload_n 0, 1) := by decide +kernel
theorem dX7_clears_203 : decode cX7_clears 203 = .ok (.getfield 7, 3) := by decide +kernel
theorem dX7_clears_206 : decode cX7_clears 206 = .ok (.sipush 154, 3) := by decide +kernel
theorem dX7_clears_209 : decode cX7_clears 209 = .ok (.iload 5, 2) := by decide +kernel
theorem dX7_clears_211 : decode cX7_clears 211 = .ok (.iadd, 1) := by decide +kernel
theorem dX7_clears_212 : decode cX7_clears 212 = .ok (.iaload, 1) := by decide +kernel
theorem dX7_clears_213 : decode cX7_clears 213 = .ok (.iastore, 1) := by decide +kernel
theorem dX7_clears_214 : decode cX7_clears 214 = .ok (.aload_n 0, 1) := by decide +kernel
theorem dX7_clears_215 : decode cX7_clears 215 = .ok (.getfield 7, 3) := by decide +kernel
theorem dX7_clears_218 : decode cX7_clears 218 = .ok (.bipush 6, 2) := by decide +kernel
theorem dX7_clears_220 : decode cX7_clears 220 = .ok (.dup2, 1) := by decide +kernel
theorem dX7_clears_221 : decode cX7_clears 221 = .ok (.iaload, 1) := by decide +kernel
theorem dX7_clears_222 : decode cX7_clears 222 = .ok (.iconst 1, 1) := by decide +kernel
theorem dX7_clears_223 : decode cX7_clears 223 = .ok (.iadd, 1) := by decide +kernel
theorem dX7_clears_224 : decode cX7_clears 224 = .ok (.iastore, 1) := by decide +kernel
theorem dX7_clears_225 : decode cX7_clears 225 = .ok (.aload_n 0, 1) := by decide +kernel
theorem dX7_clears_226 : decode cX7_clears 226 = .ok (.getfield 7, 3) := by decide +kernel
theorem dX7_clears_229 : decode cX7_clears 229 = .ok (.bipush 22, 2) := by decide +kernel
theorem dX7_clears_231 : decode cX7_clears 231 = .ok (.iload 5, 2) := by decide +kernel
theorem dX7_clears_233 : decode cX7_clears 233 = .ok (.iconst 5, 1) := by decide +kernel
theorem dX7_clears_234 : decode cX7_clears 234 = .ok (.idiv, 1) := by decide +kernel
theorem dX7_clears_235 : decode cX7_clears 235 = .ok (.iadd, 1) := by decide +kernel
theorem dX7_clears_236 : decode cX7_clears 236 = .ok (.dup2, 1) := by decide +kernel
theorem dX7_clears_237 : decode cX7_clears 237 = .ok (.iaload, 1) := by decide +kernel
theorem dX7_clears_238 : decode cX7_clears 238 = .ok (.iconst 1, 1) := by decide +kernel
theorem dX7_clears_239 : decode cX7_clears 239 = .ok (.isub, 1) := by decide +kernel
theorem dX7_clears_240 : decode cX7_clears 240 = .ok (.iastore, 1) := by decide +kernel
theorem dX7_clears_241 : decode cX7_clears 241 = .ok (.aload_n 0, 1) := by decide +kernel
theorem dX7_clears_242 : decode cX7_clears 242 = .ok (.getfield 7, 3) := by decide +kernel
theorem dX7_clears_245 : decode cX7_clears 245 = .ok (.iconst 3, 1) := by decide +kernel
theorem dX7_clears_246 : decode cX7_clears 246 = .ok (.dup2, 1) := by decide +kernel
theorem dX7_clears_247 : decode cX7_clears 247 = .ok (.iaload, 1) := by decide +kernel
theorem dX7_clears_248 : decode cX7_clears 248 = .ok (.iconst 1, 1) := by decide +kernel
theorem dX7_clears_249 : decode cX7_clears 249 = .ok (.iadd, 1) := by decide +kernel
theorem dX7_clears_250 : decode cX7_clears 250 = .ok (.iastore, 1) := by decide +kernel
theorem dX7_clears_251 : decode cX7_clears 251 = .ok (.aload_n 0, 1) := by decide +kernel
theorem dX7_clears_252 : decode cX7_clears 252 = .ok (.iconst 1, 1) := by decide +kernel
theorem dX7_clears_253 : decode cX7_clears 253 = .ok (.invokevirtual 75, 3) := by decide +kernel
theorem dX7_clears_256 : decode cX7_clears 256 = .ok (.ireturn, 1) := by decide +kernel
set_option maxRecDepth 100000 in
set_option maxHeartbeats 4000000 in
theorem C_X7_clears (l : Launch) (E : gE) (x : gX) {v1 v2 v3 : Int32} {M : gM} {r : Int32} {M' : gM} (hf : f_X7_clears v1 v2 v3 M = some (r, M')) : gM0 l E yX7_clears (.code yX7_clears cX7_clears 6 (some .int)) (gR 3 63) M x [.ref (E.2.1 150), .int v1, .int v2, .int v3] (some (.int r)) M' := by
  refine gMet (by decide +kernel) (Nat.le_of_ble_eq_true rfl) ?_
  intro p e s m args below meth c H locs ls Q hC hl hI kr kv
  replace hC : gC p s m args c cX7_clears 6 RX7 E := hC
  replace hl : lv_has ls 6 [(0, .ref (E.2.1 150)), (1, .int v1), (2, .int v2), (3, .int v3)] := hl
  have hx := hC.1
  have hb := hC.2.1
  unfold f_X7_clears at hf
  refine lv_iload_n hx hb dX7_clears_0 rfl (lv_at hl 1 rfl) ?_
  refine lv_iload_n hx hb dX7_clears_1 rfl (lv_at hl 2 rfl) ?_
  obtain ⟨r1, hr2, hf⟩ := gbind hf
  have hr2 := C_X7_isStack l E x  hr2
  refine g_callSi (rest := []) hC hI hr2 Y_X7_isStack S_X7_isStack w1425 ⟨rfl, rfl⟩ ⟨Nat.le_of_ble_eq_true rfl, Nat.le_of_ble_eq_true rfl⟩ rfl hl.1 rfl (Nat.le_of_ble_eq_true rfl) dX7_clears_2 ⟨Nat.le_of_ble_eq_true rfl, Nat.le_of_ble_eq_true rfl⟩ (fun H locs hI => ?_)
  refine lv_if_ne (tgt := 14) hx hb dX7_clears_5 rfl (fun h3 => ?_) (fun h3 => ?_)
  · replace hf := gifn h3 hf
    refine lv_iload_n hx hb dX7_clears_14 rfl (lv_at hl 3 rfl) ?_
    refine lv_iconst (v := 0) hx hb dX7_clears_15 (by decide) ?_
    refine lv_bipush (v := 9) hx hb dX7_clears_16 (by decide) ?_
    obtain ⟨r4, hr5, hf⟩ := gbind hf
    have hr5 := C_X7_in l E x  hr5
    refine g_callSi (rest := []) hC hI hr5 Y_X7_in S_X7_in w1398 ⟨rfl, rfl⟩ ⟨Nat.le_of_ble_eq_true rfl, Nat.le_of_ble_eq_true rfl⟩ rfl hl.1 rfl (Nat.le_of_ble_eq_true rfl) dX7_clears_18 ⟨Nat.le_of_ble_eq_true rfl, Nat.le_of_ble_eq_true rfl⟩ (fun H locs hI => ?_)
    refine lv_if_ne (tgt := 30) hx hb dX7_clears_21 rfl (fun h6 => ?_) (fun h6 => ?_)
    · replace hf := gifn h6 hf
      refine lv_aload_n hx hb dX7_clears_30 rfl (lv_at hl 0 rfl) ?_
      refine lv_iload_n hx hb dX7_clears_31 rfl (lv_at hl 1 rfl) ?_
      refine lv_iload_n hx hb dX7_clears_32 rfl (lv_at hl 2 rfl) ?_
      obtain ⟨r7, hr8, hf⟩ := gbind hf
      have hr8 := C_X7_height l E x  hr8
      refine g_callVi (rest := []) hC hI hr8 Y_X7_height V_X7_height w1428 (rcv_X7 hC hI) ⟨rfl, rfl⟩ ⟨Nat.le_of_ble_eq_true rfl, Nat.le_of_ble_eq_true rfl⟩ rfl hl.1 rfl (Nat.le_of_ble_eq_true rfl) dX7_clears_33 ⟨Nat.le_of_ble_eq_true rfl, Nat.le_of_ble_eq_true rfl⟩ (fun H locs hI => ?_)
      refine lv_iconst (v := 1) hx hb dX7_clears_36 (by decide) ?_
      refine lv_isub hx hb dX7_clears_37 ?_
      obtain ⟨z9, ez9, hf⟩ := glet hf
      refine g_top ez9 ?_
      refine lv_istore (lv' := [(4, .int z9), (0, .ref (E.2.1 150)), (1, .int v1), (2, .int v2), (3, .int v3)]) hx hb dX7_clears_38 hl (by decide) rfl (fun ls hl => ?_)
      refine lv_aload_n hx hb dX7_clears_40 rfl (lv_at hl 1 rfl) ?_
      refine gt_X7_X7_g hC hI dX7_clears_41 ?_
      refine lv_bipush (v := 7) hx hb dX7_clears_44 (by decide) ?_
      refine lv_iload_n hx hb dX7_clears_46 rfl (lv_at hl 2 rfl) ?_
      refine lv_iadd hx hb dX7_clears_47 ?_
      obtain ⟨h10, hf⟩ := gifN hf
      refine g_iald hC hI (k := (7 + v1).toNatClampNeg) gIA_151 h10 rfl dX7_clears_48 ?_
      refine lv_if_eq (tgt := 81) hx hb dX7_clears_49 rfl (fun h11 => ?_) (fun h11 => ?_)
      · replace hf := gif h11 hf
        refine lv_aload_n hx hb dX7_clears_81 rfl (lv_at hl 1 rfl) ?_
        refine lv_iconst (v := 3) hx hb dX7_clears_82 (by decide) ?_
        obtain ⟨r12, hr13, hf⟩ := gbind hf
        have hr13 := C_X7_fails l E x  hr13
        refine g_callVi (rest := []) hC hI hr13 Y_X7_fails V_X7_fails w1401 (rcv_X7 hC hI) ⟨rfl, rfl⟩ ⟨Nat.le_of_ble_eq_true rfl, Nat.le_of_ble_eq_true rfl⟩ rfl hl.1 rfl (Nat.le_of_ble_eq_true rfl) dX7_clears_83 ⟨Nat.le_of_ble_eq_true rfl, Nat.le_of_ble_eq_true rfl⟩ (fun H locs hI => ?_)
        exact kr _ _ _ _ _ _ (grw hf) hI ⟨.int, rfl, rfl⟩ dX7_clears_86
      · replace hf := gifn h11 hf
        refine lv_aload_n hx hb dX7_clears_52 rfl (lv_at hl 1 rfl) ?_
        refine gt_X7_X7_g hC hI dX7_clears_53 ?_
        refine lv_bipush (v := 19) hx hb dX7_clears_56 (by decide) ?_
        refine lv_iload_n hx hb dX7_clears_58 rfl (lv_at hl 2 rfl) ?_
        refine lv_iadd hx hb dX7_clears_59 ?_
        obtain ⟨h14, hf⟩ := gifN hf
        refine g_iald hC hI (k := (19 + v1).toNatClampNeg) gIA_151 h14 rfl dX7_clears_60 ?_
        refine lv_if_gt (tgt := 81) hx hb dX7_clears_61 rfl (fun h15 => ?_) (fun h15 => ?_)
        · replace hf := gif h15 hf
          refine lv_aload_n hx hb dX7_clears_81 rfl (lv_at hl 1 rfl) ?_
          refine lv_iconst (v := 3) hx hb dX7_clears_82 (by decide) ?_
          obtain ⟨r16, hr17, hf⟩ := gbind hf
          have hr17 := C_X7_fails l E x  hr17
          refine g_callVi (rest := []) hC hI hr17 Y_X7_fails V_X7_fails w1401 (rcv_X7 hC hI) ⟨rfl, rfl⟩ ⟨Nat.le_of_ble_eq_true rfl, Nat.le_of_ble_eq_true rfl⟩ rfl hl.1 rfl (Nat.le_of_ble_eq_true rfl) dX7_clears_83 ⟨Nat.le_of_ble_eq_true rfl, Nat.le_of_ble_eq_true rfl⟩ (fun H locs hI => ?_)
          exact kr _ _ _ _ _ _ (grw hf) hI ⟨.int, rfl, rfl⟩ dX7_clears_86
        · replace hf := gifn h15 hf
          refine lv_iload hx hb dX7_clears_64 (lv_at hl 0 rfl) ?_
          refine lv_if_lt (tgt := 81) hx hb dX7_clears_66 rfl (fun h18 => ?_) (fun h18 => ?_)
          · replace hf := gif h18 hf
            refine lv_aload_n hx hb dX7_clears_81 rfl (lv_at hl 1 rfl) ?_
            refine lv_iconst (v := 3) hx hb dX7_clears_82 (by decide) ?_
            obtain ⟨r19, hr20, hf⟩ := gbind hf
            have hr20 := C_X7_fails l E x  hr20
            refine g_callVi (rest := []) hC hI hr20 Y_X7_fails V_X7_fails w1401 (rcv_X7 hC hI) ⟨rfl, rfl⟩ ⟨Nat.le_of_ble_eq_true rfl, Nat.le_of_ble_eq_true rfl⟩ rfl hl.1 rfl (Nat.le_of_ble_eq_true rfl) dX7_clears_83 ⟨Nat.le_of_ble_eq_true rfl, Nat.le_of_ble_eq_true rfl⟩ (fun H locs hI => ?_)
            exact kr _ _ _ _ _ _ (grw hf) hI ⟨.int, rfl, rfl⟩ dX7_clears_86
          · replace hf := gifn h18 hf
            refine lv_aload_n hx hb dX7_clears_69 rfl (lv_at hl 1 rfl) ?_
            refine gt_X7_X7_g hC hI dX7_clears_70 ?_
            refine lv_bipush (v := 6) hx hb dX7_clears_73 (by decide) ?_
            refine g_iald hC hI (k := 6) gIA_151 (by decide) rfl dX7_clears_75 ?_
            refine lv_bipush (v := 15) hx hb dX7_clears_76 (by decide) ?_
            refine lv_icmp_ne (tgt := 87) hx hb dX7_clears_78 rfl (fun h21 => ?_) (fun h21 => ?_)
            · replace hf := gifn h21 hf
              refine lv_iload_n hx hb dX7_clears_87 rfl (lv_at hl 2 rfl) ?_
              refine lv_iload_n hx hb dX7_clears_88 rfl (lv_at hl 3 rfl) ?_
              refine lv_iload hx hb dX7_clears_89 (lv_at hl 0 rfl) ?_
              obtain ⟨r22, hr23, hf⟩ := gbind hf
              have hr23 := C_X7_cell l E x  hr23
              refine g_callSi (rest := []) hC hI hr23 Y_X7_cell S_X7_cell w1432 ⟨rfl, rfl⟩ ⟨Nat.le_of_ble_eq_true rfl, Nat.le_of_ble_eq_true rfl⟩ rfl hl.1 rfl (Nat.le_of_ble_eq_true rfl) dX7_clears_91 ⟨Nat.le_of_ble_eq_true rfl, Nat.le_of_ble_eq_true rfl⟩ (fun H locs hI => ?_)
              refine lv_istore (lv' := [(5, .int r22), (4, .int z9), (0, .ref (E.2.1 150)), (1, .int v1), (2, .int v2), (3, .int v3)]) hx hb dX7_clears_94 hl (by decide) rfl (fun ls hl => ?_)
              refine lv_aload_n hx hb dX7_clears_96 rfl (lv_at hl 2 rfl) ?_
              refine gt_X7_X7_g hC hI dX7_clears_97 ?_
              refine lv_bipush (v := 94) hx hb dX7_clears_100 (by decide) ?_
              refine lv_iload hx hb dX7_clears_102 (lv_at hl 0 rfl) ?_
              refine lv_iadd hx hb dX7_clears_104 ?_
              obtain ⟨h24, hf⟩ := gifN hf
              refine g_iald hC hI (k := (94 + r22).toNatClampNeg) gIA_151 h24 rfl dX7_clears_105 ?_
              refine lv_aload_n hx hb dX7_clears_106 rfl (lv_at hl 2 rfl) ?_
              refine gt_X7_X7_g hC hI dX7_clears_107 ?_
              refine lv_sipush (v := 154) hx hb dX7_clears_110 (by decide) ?_
              refine lv_iload hx hb dX7_clears_113 (lv_at hl 0 rfl) ?_
              refine lv_iadd hx hb dX7_clears_115 ?_
              obtain ⟨h25, hf⟩ := gifN hf
              refine g_iald hC hI (k := (154 + r22).toNatClampNeg) gIA_151 h25 rfl dX7_clears_116 ?_
              obtain ⟨r26, hr27, hf⟩ := gbind hf
              have hr27 := C_X7_answer l E x  hr27
              refine g_callSi (rest := []) hC hI hr27 Y_X7_answer S_X7_answer w1447 ⟨rfl, rfl⟩ ⟨Nat.le_of_ble_eq_true rfl, Nat.le_of_ble_eq_true rfl⟩ rfl hl.1 rfl (Nat.le_of_ble_eq_true rfl) dX7_clears_117 ⟨Nat.le_of_ble_eq_true rfl, Nat.le_of_ble_eq_true rfl⟩ (fun H locs hI => ?_)
              refine lv_iload_n hx hb dX7_clears_120 rfl (lv_at hl 5 rfl) ?_
              refine lv_icmp_eq (tgt := 135) hx hb dX7_clears_121 rfl (fun h28 => ?_) (fun h28 => ?_)
              · replace hf := gif h28 hf
                refine lv_aload_n hx hb dX7_clears_135 rfl (lv_at hl 2 rfl) ?_
                refine gt_X7_X7_g hC hI dX7_clears_136 ?_
                refine lv_sipush (v := 214) hx hb dX7_clears_139 (by decide) ?_
                refine lv_aload_n hx hb dX7_clears_142 rfl (lv_at hl 2 rfl) ?_
                refine gt_X7_X7_g hC hI dX7_clears_143 ?_
                refine lv_bipush (v := 6) hx hb dX7_clears_146 (by decide) ?_
                refine g_iald hC hI (k := 6) gIA_151 (by decide) rfl dX7_clears_148 ?_
                refine lv_iadd hx hb dX7_clears_149 ?_
                refine lv_aload_n hx hb dX7_clears_150 rfl (lv_at hl 2 rfl) ?_
                refine gt_X7_X7_g hC hI dX7_clears_151 ?_
                refine lv_bipush (v := 34) hx hb dX7_clears_154 (by decide) ?_
                refine lv_iload hx hb dX7_clears_156 (lv_at hl 0 rfl) ?_
                refine lv_iadd hx hb dX7_clears_158 ?_
                obtain ⟨h29, hf⟩ := gifN hf
                refine g_iald hC hI (k := (34 + r22).toNatClampNeg) gIA_151 h29 rfl dX7_clears_159 ?_
                obtain ⟨h30, hf⟩ := gifN hf
                obtain ⟨M31, eM31, hf⟩ := glet hf
                refine g_iast hC hI (k := (214 + (M 151 6)).toNatClampNeg) gIA_151 h30 rfl dX7_clears_160 (fun H locs hI => ?_)
                replace hI := g_mem eM31 hI
                refine lv_aload_n hx hb dX7_clears_161 rfl (lv_at hl 2 rfl) ?_
                refine gt_X7_X7_g hC hI dX7_clears_162 ?_
                refine lv_sipush (v := 229) hx hb dX7_clears_165 (by decide) ?_
                refine lv_aload_n hx hb dX7_clears_168 rfl (lv_at hl 2 rfl) ?_
                refine gt_X7_X7_g hC hI dX7_clears_169 ?_
                refine lv_bipush (v := 6) hx hb dX7_clears_172 (by decide) ?_
                refine g_iald hC hI (k := 6) gIA_151 (by decide) rfl dX7_clears_174 ?_
                refine lv_iadd hx hb dX7_clears_175 ?_
                refine lv_aload_n hx hb dX7_clears_176 rfl (lv_at hl 2 rfl) ?_
                refine gt_X7_X7_g hC hI dX7_clears_177 ?_
                refine lv_bipush (v := 94) hx hb dX7_clears_180 (by decide) ?_
                refine lv_iload hx hb dX7_clears_182 (lv_at hl 0 rfl) ?_
                refine lv_iadd hx hb dX7_clears_184 ?_
                obtain ⟨h32, hf⟩ := gifN hf
                refine g_iald hC hI (k := (94 + r22).toNatClampNeg) gIA_151 h32 rfl dX7_clears_185 ?_
                obtain ⟨h33, hf⟩ := gifN hf
                obtain ⟨M34, eM34, hf⟩ := glet hf
                refine g_iast hC hI (k := (229 + (M31 151 6)).toNatClampNeg) gIA_151 h33 rfl dX7_clears_186 (fun H locs hI => ?_)
                replace hI := g_mem eM34 hI
                refine lv_aload_n hx hb dX7_clears_187 rfl (lv_at hl 2 rfl) ?_
                refine gt_X7_X7_g hC hI dX7_clears_188 ?_
                refine lv_sipush (v := 244) hx hb dX7_clears_191 (by decide) ?_
                refine lv_aload_n hx hb dX7_clears_194 rfl (lv_at hl 2 rfl) ?_
                refine gt_X7_X7_g hC hI dX7_clears_195 ?_
                refine lv_bipush (v := 6) hx hb dX7_clears_198 (by decide) ?_
                refine g_iald hC hI (k := 6) gIA_151 (by decide) rfl dX7_clears_200 ?_
                refine lv_iadd hx hb dX7_clears_201 ?_
                refine lv_aload_n hx hb dX7_clears_202 rfl (lv_at hl 2 rfl) ?_
                refine gt_X7_X7_g hC hI dX7_clears_203 ?_
                refine lv_sipush (v := 154) hx hb dX7_clears_206 (by decide) ?_
                refine lv_iload hx hb dX7_clears_209 (lv_at hl 0 rfl) ?_
                refine lv_iadd hx hb dX7_clears_211 ?_
                obtain ⟨h35, hf⟩ := gifN hf
                refine g_iald hC hI (k := (154 + r22).toNatClampNeg) gIA_151 h35 rfl dX7_clears_212 ?_
                obtain ⟨h36, hf⟩ := gifN hf
                obtain ⟨M37, eM37, hf⟩ := glet hf
                refine g_iast hC hI (k := (244 + (M34 151 6)).toNatClampNeg) gIA_151 h36 rfl dX7_clears_213 (fun H locs hI => ?_)
                replace hI := g_mem eM37 hI
                refine lv_aload_n hx hb dX7_clears_214 rfl (lv_at hl 2 rfl) ?_
                refine gt_X7_X7_g hC hI dX7_clears_215 ?_
                refine lv_bipush (v := 6) hx hb dX7_clears_218 (by decide) ?_
                refine lv_dup2_11 hx hb dX7_clears_220 rfl rfl ?_
                refine g_iald hC hI (k := 6) gIA_151 (by decide) rfl dX7_clears_221 ?_
                refine lv_iconst (v := 1) hx hb dX7_clears_222 (by decide) ?_
                refine lv_iadd hx hb dX7_clears_223 ?_
                obtain ⟨M38, eM38, hf⟩ := glet hf
                refine g_iast hC hI (k := 6) gIA_151 (by decide) rfl dX7_clears_224 (fun H locs hI => ?_)
                replace hI := g_mem eM38 hI
                refine lv_aload_n hx hb dX7_clears_225 rfl (lv_at hl 2 rfl) ?_
                refine gt_X7_X7_g hC hI dX7_clears_226 ?_
                refine lv_bipush (v := 22) hx hb dX7_clears_229 (by decide) ?_
                refine lv_iload hx hb dX7_clears_231 (lv_at hl 0 rfl) ?_
                refine lv_iconst (v := 5) hx hb dX7_clears_233 (by decide) ?_
                refine lv_idiv hx hb dX7_clears_234 (by decide) ?_
                refine lv_iadd hx hb dX7_clears_235 ?_
                refine lv_dup2_11 hx hb dX7_clears_236 rfl rfl ?_
                obtain ⟨h39, hf⟩ := gifN hf
                refine g_iald hC hI (k := (22 + (r22 / 5)).toNatClampNeg) gIA_151 h39 rfl dX7_clears_237 ?_
                refine lv_iconst (v := 1) hx hb dX7_clears_238 (by decide) ?_
                refine lv_isub hx hb dX7_clears_239 ?_
                obtain ⟨h40, hf⟩ := gifN hf
                obtain ⟨M41, eM41, hf⟩ := glet hf
                refine g_iast hC hI (k := (22 + (r22 / 5)).toNatClampNeg) gIA_151 h40 rfl dX7_clears_240 (fun H locs hI => ?_)
                replace hI := g_mem eM41 hI
                refine lv_aload_n hx hb dX7_clears_241 rfl (lv_at hl 2 rfl) ?_
                refine gt_X7_X7_g hC hI dX7_clears_242 ?_
                refine lv_iconst (v := 3) hx hb dX7_clears_245 (by decide) ?_
                refine lv_dup2_11 hx hb dX7_clears_246 rfl rfl ?_
                refine g_iald hC hI (k := 3) gIA_151 (by decide) rfl dX7_clears_247 ?_
                refine lv_iconst (v := 1) hx hb dX7_clears_248 (by decide) ?_
                refine lv_iadd hx hb dX7_clears_249 ?_
                obtain ⟨M42, eM42, hf⟩ := glet hf
                refine g_iast hC hI (k := 3) gIA_151 (by decide) rfl dX7_clears_250 (fun H locs hI => ?_)
                replace hI := g_mem eM42 hI
                refine lv_aload_n hx hb dX7_clears_251 rfl (lv_at hl 2 rfl) ?_
                refine lv_iconst (v := 1) hx hb dX7_clears_252 (by decide) ?_
                obtain ⟨r43, hr44, hf⟩ := gbind hf
                have hr44 := C_X7_done l E x  hr44
                refine g_callVi (rest := []) hC hI hr44 Y_X7_done V_X7_done w1409 (rcv_X7 hC hI) ⟨rfl, rfl⟩ ⟨Nat.le_of_ble_eq_true rfl, Nat.le_of_ble_eq_true rfl⟩ rfl hl.1 rfl (Nat.le_of_ble_eq_true rfl) dX7_clears_253 ⟨Nat.le_of_ble_eq_true rfl, Nat.le_of_ble_eq_true rfl⟩ (fun H locs hI => ?_)
                exact kr _ _ _ _ _ _ (grw hf) hI ⟨.int, rfl, rfl⟩ dX7_clears_256
              · replace hf := gifn h28 hf
                refine lv_aload_n hx hb dX7_clears_124 rfl (lv_at hl 2 rfl) ?_
                refine lv_iload_n hx hb dX7_clears_125 rfl (lv_at hl 3 rfl) ?_
                obtain ⟨r45, hr46, hf⟩ := gbind hf
                have hr46 := C_X7_isWrongAt l E x  hr46
                refine g_callVv (rest := []) hC hI hr46 Y_X7_isWrongAt V_X7_isWrongAt w1450 (rcv_X7 hC hI) ⟨rfl, rfl⟩ ⟨Nat.le_of_ble_eq_true rfl, Nat.le_of_ble_eq_true rfl⟩ rfl hl.1 rfl (Nat.le_of_ble_eq_true rfl) dX7_clears_126 ⟨Nat.le_of_ble_eq_true rfl, Nat.le_of_ble_eq_true rfl⟩ (fun H locs hI => ?_)
                refine lv_aload_n hx hb dX7_clears_129 rfl (lv_at hl 2 rfl) ?_
                refine lv_iconst (v := 0) hx hb dX7_clears_130 (by decide) ?_
                obtain ⟨r47, hr48, hf⟩ := gbind hf
                have hr48 := C_X7_done l E x  hr48
                refine g_callVi (rest := []) hC hI hr48 Y_X7_done V_X7_done w1409 (rcv_X7 hC hI) ⟨rfl, rfl⟩ ⟨Nat.le_of_ble_eq_true rfl, Nat.le_of_ble_eq_true rfl⟩ rfl hl.1 rfl (Nat.le_of_ble_eq_true rfl) dX7_clears_131 ⟨Nat.le_of_ble_eq_true rfl, Nat.le_of_ble_eq_true rfl⟩ (fun H locs hI => ?_)
                exact kr _ _ _ _ _ _ (grw hf) hI ⟨.int, rfl, rfl⟩ dX7_clears_134
            · replace hf := gif h21 hf
              refine lv_aload_n hx hb dX7_clears_81 rfl (lv_at hl 1 rfl) ?_
              refine lv_iconst (v := 3) hx hb dX7_clears_82 (by decide) ?_
              obtain ⟨r49, hr50, hf⟩ := gbind hf
              have hr50 := C_X7_fails l E x  hr50
              refine g_callVi (rest := []) hC hI hr50 Y_X7_fails V_X7_fails w1401 (rcv_X7 hC hI) ⟨rfl, rfl⟩ ⟨Nat.le_of_ble_eq_true rfl, Nat.le_of_ble_eq_true rfl⟩ rfl hl.1 rfl (Nat.le_of_ble_eq_true rfl) dX7_clears_83 ⟨Nat.le_of_ble_eq_true rfl, Nat.le_of_ble_eq_true rfl⟩ (fun H locs hI => ?_)
              exact kr _ _ _ _ _ _ (grw hf) hI ⟨.int, rfl, rfl⟩ dX7_clears_86
    · replace hf := gif h6 hf
      refine lv_aload_n hx hb dX7_clears_24 rfl (lv_at hl 0 rfl) ?_
      refine lv_iconst (v := 2) hx hb dX7_clears_25 (by decide) ?_
      obtain ⟨r51, hr52, hf⟩ := gbind hf
      have hr52 := C_X7_fails l E x  hr52
      refine g_callVi (rest := []) hC hI hr52 Y_X7_fails V_X7_fails w1401 (rcv_X7 hC hI) ⟨rfl, rfl⟩ ⟨Nat.le_of_ble_eq_true rfl, Nat.le_of_ble_eq_true rfl⟩ rfl hl.1 rfl (Nat.le_of_ble_eq_true rfl) dX7_clears_26 ⟨Nat.le_of_ble_eq_true rfl, Nat.le_of_ble_eq_true rfl⟩ (fun H locs hI => ?_)
      exact kr _ _ _ _ _ _ (grw hf) hI ⟨.int, rfl, rfl⟩ dX7_clears_29
  · replace hf := gif h3 hf
    refine lv_aload_n hx hb dX7_clears_8 rfl (lv_at hl 0 rfl) ?_
    refine lv_iconst (v := 1) hx hb dX7_clears_9 (by decide) ?_
    obtain ⟨r53, hr54, hf⟩ := gbind hf
    have hr54 := C_X7_fails l E x  hr54
    refine g_callVi (rest := []) hC hI hr54 Y_X7_fails V_X7_fails w1401 (rcv_X7 hC hI) ⟨rfl, rfl⟩ ⟨Nat.le_of_ble_eq_true rfl, Nat.le_of_ble_eq_true rfl⟩ rfl hl.1 rfl (Nat.le_of_ble_eq_true rfl) dX7_clears_10 ⟨Nat.le_of_ble_eq_true rfl, Nat.le_of_ble_eq_true rfl⟩ (fun H locs hI => ?_)
    exact kr _ _ _ _ _ _ (grw hf) hI ⟨.int, rfl, rfl⟩ dX7_clears_13
theorem dX7_clear_0 : decode cX7_clear 0 = .ok (.aload_n 0, 1) := by decide +kernel
theorem dX7_clear_1 : decode cX7_clear 1 = .ok (.invokevirtual 78, 3) := by decide +kernel
theorem dX7_clear_4 : decode cX7_clear 4 = .ok (.aload_n 0, 1) := by decide +kernel
theorem dX7_clear_5 : decode cX7_clear 5 = .ok (.aload_n 0, 1) := by decide +kernel
theorem dX7_clear_6 : decode cX7_clear 6 = .ok (.iload_n 1, 1) := by decide +kernel
theorem dX7_clear_7 : decode cX7_clear 7 = .ok (.iload_n 2, 1) := by decide +kernel
theorem dX7_clear_8 : decode cX7_clear 8 = .ok (.iload_n 3, 1) := by decide +kernel
theorem dX7_clear_9 : decode cX7_clear 9 = .ok (.invokevirtual 110, 3) := by decide +kernel
theorem dX7_clear_12 : decode cX7_clear 12 = .ok (.invokevirtual 85, 3) := by decide +kernel
theorem dX7_clear_15 : decode cX7_clear 15 = .ok (.iconst 1, 1) := by decide +kernel
theorem dX7_clear_16 : decode cX7_clear 16 = .ok (.if_icmp .ne 7, 3) := by decide +kernel
theorem dX7_clear_19 : decode cX7_clear 19 = .ok (.iconst 1, 1) := by decide +kernel
theorem dX7_clear_20 : decode cX7_clear 20 = .ok (.goto 4, 3) := by decide +kernel
theorem dX7_clear_23 : decode cX7_clear 23 = .ok (.iconst 0, 1) := by decide +kernel
theorem dX7_clear_24 : decode cX7_clear 24 = .ok (.ireturn, 1) := by decide +kernel
set_option maxRecDepth 100000 in
set_option maxHeartbeats 4000000 in
theorem C_X7_clear (l : Launch) (E : gE) (x : gX) {v1 v2 v3 : Int32} {M : gM} {r : Bool} {M' : gM} (hf : f_X7_clear v1 v2 v3 M = some (r, M')) : gM0 l E yX7_clear (.code yX7_clear cX7_clear 4 (some .boolean)) (gR 4 88) M x [.ref (E.2.1 150), .int v1, .int v2, .int v3] (some (.int (gb r))) M' := by
  refine gMet (by decide +kernel) (Nat.le_of_ble_eq_true rfl) ?_
  intro p e s m args below meth c H locs ls Q hC hl hI kr kv
  replace hC : gC p s m args c cX7_clear 4 RX7 E := hC
  replace hl : lv_has ls 4 [(0, .ref (E.2.1 150)), (1, .int v1), (2, .int v2), (3, .int v3)] := hl
  have hx := hC.1
  have hb := hC.2.1
  unfold f_X7_clear at hf
  refine lv_aload_n hx hb dX7_clear_0 rfl (lv_at hl 0 rfl) ?_
  obtain ⟨r1, hr2, hf⟩ := gbind hf
  have hr2 := C_X7_begin l E x  hr2
  refine g_callVv (rest := []) hC hI hr2 Y_X7_begin V_X7_begin w1384 (rcv_X7 hC hI) ⟨rfl, rfl⟩ ⟨Nat.le_of_ble_eq_true rfl, Nat.le_of_ble_eq_true rfl⟩ rfl hl.1 rfl (Nat.le_of_ble_eq_true rfl) dX7_clear_1 ⟨Nat.le_of_ble_eq_true rfl, Nat.le_of_ble_eq_true rfl⟩ (fun H locs hI => ?_)
  refine lv_aload_n hx hb dX7_clear_4 rfl (lv_at hl 0 rfl) ?_
  refine lv_aload_n hx hb dX7_clear_5 rfl (lv_at hl 0 rfl) ?_
  refine lv_iload_n hx hb dX7_clear_6 rfl (lv_at hl 1 rfl) ?_
  refine lv_iload_n hx hb dX7_clear_7 rfl (lv_at hl 2 rfl) ?_
  refine lv_iload_n hx hb dX7_clear_8 rfl (lv_at hl 3 rfl) ?_
  obtain ⟨r3, hr4, hf⟩ := gbind hf
  have hr4 := C_X7_clears l E x  hr4
  refine g_callVi (rest := [.ref (E.2.1 150)]) hC hI hr4 Y_X7_clears V_X7_clears w1443 (rcv_X7 hC hI) ⟨rfl, rfl⟩ ⟨Nat.le_of_ble_eq_true rfl, Nat.le_of_ble_eq_true rfl⟩ rfl hl.1 rfl (Nat.le_of_ble_eq_true rfl) dX7_clear_9 ⟨Nat.le_of_ble_eq_true rfl, Nat.le_of_ble_eq_true rfl⟩ (fun H locs hI => ?_)
  obtain ⟨r5, hr6, hf⟩ := gbind hf
  have hr6 := C_X7_kept l E x  hr6
  refine g_callVi (rest := []) hC hI hr6 Y_X7_kept V_X7_kept w1413 (rcv_X7 hC hI) ⟨rfl, rfl⟩ ⟨Nat.le_of_ble_eq_true rfl, Nat.le_of_ble_eq_true rfl⟩ rfl hl.1 rfl (Nat.le_of_ble_eq_true rfl) dX7_clear_12 ⟨Nat.le_of_ble_eq_true rfl, Nat.le_of_ble_eq_true rfl⟩ (fun H locs hI => ?_)
  refine lv_iconst (v := 1) hx hb dX7_clear_15 (by decide) ?_
  refine lv_icmp_ne (tgt := 23) hx hb dX7_clear_16 rfl (fun h7 => ?_) (fun h7 => ?_)
  · replace hf := gifn h7 hf
    refine lv_iconst (v := 0) hx hb dX7_clear_23 (by decide) ?_
    exact kr _ _ _ _ _ _ (grwb0 hf) hI ⟨.boolean, rfl, rfl⟩ dX7_clear_24
  · replace hf := gif h7 hf
    refine lv_iconst (v := 1) hx hb dX7_clear_19 (by decide) ?_
    refine lv_goto (tgt := 24) hx hb dX7_clear_20 rfl ?_
    exact kr _ _ _ _ _ _ (grwb1 hf) hI ⟨.boolean, rfl, rfl⟩ dX7_clear_24
theorem dX7_moves_0 : decode cX7_moves 0 = .ok (.iload_n 1, 1) := by decide +kernel
theorem dX7_moves_1 : decode cX7_moves 1 = .ok (.iload_n 2, 1) := by decide +kernel
theorem dX7_moves_2 : decode cX7_moves 2 = .ok (.invokestatic 88, 3) := by decide +kernel
theorem dX7_moves_5 : decode cX7_moves 5 = .ok (.ifCond .eq 11, 3) := by decide +kernel
theorem dX7_moves_8 : decode cX7_moves 8 = .ok (.iload_n 1, 1) := by decide +kernel
theorem dX7_moves_9 : decode cX7_moves 9 = .ok (.iload_n 3, 1) := by decide +kernel
theorem dX7_moves_10 : decode cX7_moves 10 = .ok (.invokestatic 88, 3) := by decide +kernel
theorem dX7_moves_13 : decode cX7_moves 13 = .ok (.ifCond .ne 9, 3) := by decide +kernel
theorem dX7_moves_16 : decode cX7_moves 16 = .ok (.aload_n 0, 1) := by decide +kernel
theorem dX7_moves_17 : decode cX7_moves 17 = .ok (.iconst 1, 1) := by decide +kernel
theorem dX7_moves_18 : decode cX7_moves 18 = .ok (.invokevirtual 67, 3) := by decide +kernel
theorem dX7_moves_21 : decode cX7_moves 21 = .ok (.ireturn, 1) := by decide +kernel
theorem dX7_moves_22 : decode cX7_moves 22 = .ok (.iload_n 2, 1) := by decide +kernel
theorem dX7_moves_23 : decode cX7_moves 23 = .ok (.iload_n 3, 1) := by decide +kernel
theorem dX7_moves_24 : decode cX7_moves 24 = .ok (.if_icmp .ne 9, 3) := by decide +kernel
theorem dX7_moves_27 : decode cX7_moves 27 = .ok (.aload_n 0, 1) := by decide +kernel
theorem dX7_moves_28 : decode cX7_moves 28 = .ok (.iconst 2, 1) := by decide +kernel
theorem dX7_moves_29 : decode cX7_moves 29 = .ok (.invokevirtual 67, 3) := by decide +kernel
theorem dX7_moves_32 : decode cX7_moves 32 = .ok (.ireturn, 1) := by decide +kernel
theorem dX7_moves_33 : decode cX7_moves 33 = .ok (.aload_n 0, 1) := by decide +kernel
theorem dX7_moves_34 : decode cX7_moves 34 = .ok (.getfield 7, 3) := by decide +kernel
theorem dX7_moves_37 : decode cX7_moves 37 = .ok (.bipush 7, 2) := by decide +kernel
theorem dX7_moves_39 : decode cX7_moves 39 = .ok (.iload_n 1, 1) := by decide +kernel
theorem dX7_moves_40 : decode cX7_moves 40 = .ok (.iadd, 1) := by decide +kernel
theorem dX7_moves_41 : decode cX7_moves 41 = .ok (.iaload, 1) := by decide +kernel
theorem dX7_moves_42 : decode cX7_moves 42 = .ok (.ifCond .eq 22, 3) := by decide +kernel
theorem dX7_moves_45 : decode cX7_moves 45 = .ok (.aload_n 0, 1) := by decide +kernel
theorem dX7_moves_46 : decode cX7_moves 46 = .ok (.iload_n 1, 1) := by decide +kernel
theorem dX7_moves_47 : decode cX7_moves 47 = .ok (.iload_n 2, 1) := by decide +kernel
theorem dX7_moves_48 : decode cX7_moves 48 = .ok (.invokevirtual 63, 3) := by decide +kernel
theorem dX7_moves_51 : decode cX7_moves 51 = .ok (.ifCond .eq 13, 3) := by decide +kernel
theorem dX7_moves_54 : decode cX7_moves 54 = .ok (.aload_n 0, 1) := by decide +kernel
theorem dX7_moves_55 : decode cX7_moves 55 = .ok (.iload_n 1, 1) := by decide +kernel
theorem dX7_moves_56 : decode cX7_moves 56 = .ok (.iload_n 3, 1) := by decide +kernel
theorem dX7_moves_57 : decode cX7_moves 57 = .ok (.invokevirtual 63, 3) := by decide +kernel
theorem dX7_moves_60 : decode cX7_moves 60 = .ok (.iconst 5, 1) := by decide +kernel
theorem dX7_moves_61 : decode cX7_moves 61 = .ok (.if_icmp .ne 9, 3) := by decide +kernel
theorem dX7_moves_64 : decode cX7_moves 64 = .ok (.aload_n 0, 1) := by decide +kernel
theorem dX7_moves_65 : decode cX7_moves 65 = .ok (.iconst 3, 1) := by decide +kernel
theorem dX7_moves_66 : decode cX7_moves 66 = .ok (.invokevirtual 67, 3) := by decide +kernel
theorem dX7_moves_69 : decode cX7_moves 69 = .ok (.ireturn, 1) := by decide +kernel
theorem dX7_moves_70 : decode cX7_moves 70 = .ok (.iload_n 1, 1) := by decide +kernel
theorem dX7_moves_71 : decode cX7_moves 71 = .ok (.iload_n 2, 1) := by decide +kernel
theorem dX7_moves_72 : decode cX7_moves 72 = .ok (.aload_n 0, 1) := by decide +kernel
theorem dX7_moves_73 : decode cX7_moves 73 = .ok (.iload_n 1, 1) := by decide +kernel
theorem dX7_moves_74 : decode cX7_moves 74 = .ok (.iload_n 2, 1) := by decide +kernel
theorem dX7_moves_75 : decode cX7_moves 75 = .ok (.invokevirtual 63, 3) := by decide +kernel
theorem dX7_moves_78 : decode cX7_moves 78 = .ok (.iconst 1, 1) := by decide +kernel
theorem dX7_moves_79 : decode cX7_moves 79 = .ok (.isub, 1) := by decide +kernel
theorem dX7_moves_80 : decode cX7_moves 80 = .ok (.invokestatic 92, 3) := by decide +kernel
theorem dX7_moves_83 : decode cX7_moves 83 = .ok (.istore 4, 2) := by decide +kernel
theorem dX7_moves_85 : decode cX7_moves 85 = .ok (.aload_n 0, 1) := by decide +kernel
theorem dX7_moves_86 : decode cX7_moves 86 = .ok (.getfield 7, 3) := by decide +kernel
theorem dX7_moves_89 : decode cX7_moves 89 = .ok (.bipush 22, 2) := by decide +kernel
theorem dX7_moves_91 : decode cX7_moves 91 = .ok (.iload 4, 2) := by decide +kernel
theorem dX7_moves_93 : decode cX7_moves 93 = .ok (.iconst 5, 1) := by decide +kernel
theorem dX7_moves_94 : decode cX7_moves 94 = .ok (.idiv, 1) := by decide +kernel
theorem dX7_moves_95 : decode cX7_moves 95 = .ok (.iadd, 1) := by decide +kernel
theorem dX7_moves_96 : decode cX7_moves 96 = .ok (.dup2, 1) := by decide +kernel
theorem dX7_moves_97 : decode cX7_moves 97 = .ok (.iaload, 1) := by decide +kernel
theorem dX7_moves_98 : decode cX7_moves 98 = .ok (.iconst 1, 1) := by decide +kernel
theorem dX7_moves_99 : decode cX7_moves 99 = .ok (.isub, 1) := by decide +kernel
theorem dX7_moves_100 : decode cX7_moves 100 = .ok (.iastore, 1) := by decide +kernel
theorem dX7_moves_101 : decode cX7_moves 101 = .ok (.aload_n 0, 1) := by decide +kernel
theorem dX7_moves_102 : decode cX7_moves 102 = .ok (.iload_n 1, 1) := by decide +kernel
theorem dX7_moves_103 : decode cX7_moves 103 = .ok (.iload_n 3, 1) := by decide +kernel
theorem dX7_moves_104 : decode cX7_moves 104 = .ok (.aload_n 0, 1) := by decide +kernel
theorem dX7_moves_105 : decode cX7_moves 105 = .ok (.iload_n 1, 1) := by decide +kernel
theorem dX7_moves_106 : decode cX7_moves 106 = .ok (.iload_n 3, 1) := by decide +kernel
theorem dX7_moves_107 : decode cX7_moves 107 = .ok (.invokevirtual 63, 3) := by decide +kernel
theorem dX7_moves_110 : decode cX7_moves 110 = .ok (.invokestatic 92, 3) := by decide +kernel
theorem dX7_moves_113 : decode cX7_moves 113 = .ok (.aload_n 0, 1) := by decide +kernel
theorem dX7_moves_114 : decode cX7_moves 114 = .ok (.getfield 7, 3) := by decide +kernel
theorem dX7_moves_117 : decode cX7_moves 117 = .ok (.bipush 34, 2) := by decide +kernel
theorem dX7_moves_119 : decode cX7_moves 119 = .ok (.iload 4, 2) := by decide +kernel
theorem dX7_moves_121 : decode cX7_moves 121 = .ok (.iadd, 1) := by decide +kernel
theorem dX7_moves_122 : decode cX7_moves 122 = .ok (.iaload, 1) := by decide +kernel
theorem dX7_moves_123 : decode cX7_moves 123 = .ok (.aload_n 0, 1) := by decide +kernel
theorem dX7_moves_124 : decode cX7_moves 124 = .ok (.getfield 7, 3) := by decide +kernel
theorem dX7_moves_127 : decode cX7_moves 127 = .ok (.bipush 94, 2) := by decide +kernel
theorem dX7_moves_129 : decode cX7_moves 129 = .ok (.iload 4, 2) := by decide +kernel
theorem dX7_moves_131 : decode cX7_moves 131 = .ok (.iadd, 1) := by decide +kernel
theorem dX7_moves_132 : decode cX7_moves 132 = .ok (.iaload, 1) := by decide +kernel
theorem dX7_moves_133 : decode cX7_moves 133 = .ok (.aload_n 0, 1) := by decide +kernel
theorem dX7_moves_134 : decode cX7_moves 134 = .ok (.getfield 7, 3) := by decide +kernel
theorem dX7_moves_137 : decode cX7_moves 137 = .ok (.sipush 154, 3) := by decide +kernel
theorem dX7_moves_140 : decode cX7_moves 140 = .ok (.iload 4, 2) := by decide +kernel
theorem dX7_moves_142 : decode cX7_moves 142 = .ok (.iadd, 1) := by decide +kernel
theorem dX7_moves_143 : decode cX7_moves 143 = .ok (.iaload, 1) := by decide +kernel
theorem dX7_moves_144 : decode cX7_moves 144 = .ok (.invokevirtual 95, 3) := by decide +kernel
theorem dX7_moves_147 : decode cX7_moves 147 = .ok (.aload_n 0, 1) := by decide +kernel
theorem dX7_moves_148 : decode cX7_moves 148 = .ok (.aload_n 0, 1) := by decide +kernel
theorem dX7_moves_149 : decode cX7_moves 149 = .ok (.getfield 7, 3) := by decide +kernel
theorem dX7_moves_152 : decode cX7_moves 152 = .ok (.bipush 34, 2) := by decide +kernel
theorem dX7_moves_154 : decode cX7_moves 154 = .ok (.iload 4, 2) := by decide +kernel
theorem dX7_moves_156 : decode cX7_moves 156 = .ok (.iadd, 1) := by decide +kernel
theorem dX7_moves_157 : decode cX7_moves 157 = .ok (.iaload, 1) := by decide +kernel
theorem dX7_moves_158 : decode cX7_moves 158 = .ok (.invokevirtual 75, 3) := by decide +kernel
theorem dX7_moves_161 : decode cX7_moves 161 = .ok (.ireturn, 1) := by decide +kernel
set_option maxRecDepth 100000 in
set_option maxHeartbeats 4000000 in
theorem C_X7_moves (l : Launch) (E : gE) (x : gX) {v1 v2 v3 : Int32} {M : gM} {r : Int32} {M' : gM} (hf : f_X7_moves v1 v2 v3 M = some (r, M')) : gM0 l E yX7_moves (.code yX7_moves cX7_moves 5 (some .int)) (gR 3 63) M x [.ref (E.2.1 150), .int v1, .int v2, .int v3] (some (.int r)) M' := by
  refine gMet (by decide +kernel) (Nat.le_of_ble_eq_true rfl) ?_
  intro p e s m args below meth c H locs ls Q hC hl hI kr kv
  replace hC : gC p s m args c cX7_moves 5 RX7 E := hC
  replace hl : lv_has ls 5 [(0, .ref (E.2.1 150)), (1, .int v1), (2, .int v2), (3, .int v3)] := hl
  have hx := hC.1
  have hb := hC.2.1
  unfold f_X7_moves at hf
  refine lv_iload_n hx hb dX7_moves_0 rfl (lv_at hl 1 rfl) ?_
  refine lv_iload_n hx hb dX7_moves_1 rfl (lv_at hl 2 rfl) ?_
  obtain ⟨r1, hr2, hf⟩ := gbind hf
  have hr2 := C_X7_isStack l E x  hr2
  refine g_callSi (rest := []) hC hI hr2 Y_X7_isStack S_X7_isStack w1425 ⟨rfl, rfl⟩ ⟨Nat.le_of_ble_eq_true rfl, Nat.le_of_ble_eq_true rfl⟩ rfl hl.1 rfl (Nat.le_of_ble_eq_true rfl) dX7_moves_2 ⟨Nat.le_of_ble_eq_true rfl, Nat.le_of_ble_eq_true rfl⟩ (fun H locs hI => ?_)
  refine lv_if_eq (tgt := 16) hx hb dX7_moves_5 rfl (fun h3 => ?_) (fun h3 => ?_)
  · replace hf := gif h3 hf
    refine lv_aload_n hx hb dX7_moves_16 rfl (lv_at hl 0 rfl) ?_
    refine lv_iconst (v := 1) hx hb dX7_moves_17 (by decide) ?_
    obtain ⟨r4, hr5, hf⟩ := gbind hf
    have hr5 := C_X7_fails l E x  hr5
    refine g_callVi (rest := []) hC hI hr5 Y_X7_fails V_X7_fails w1401 (rcv_X7 hC hI) ⟨rfl, rfl⟩ ⟨Nat.le_of_ble_eq_true rfl, Nat.le_of_ble_eq_true rfl⟩ rfl hl.1 rfl (Nat.le_of_ble_eq_true rfl) dX7_moves_18 ⟨Nat.le_of_ble_eq_true rfl, Nat.le_of_ble_eq_true rfl⟩ (fun H locs hI => ?_)
    exact kr _ _ _ _ _ _ (grw hf) hI ⟨.int, rfl, rfl⟩ dX7_moves_21
  · replace hf := gifn h3 hf
    refine lv_iload_n hx hb dX7_moves_8 rfl (lv_at hl 1 rfl) ?_
    refine lv_iload_n hx hb dX7_moves_9 rfl (lv_at hl 3 rfl) ?_
    obtain ⟨r6, hr7, hf⟩ := gbind hf
    have hr7 := C_X7_isStack l E x  hr7
    refine g_callSi (rest := []) hC hI hr7 Y_X7_isStack S_X7_isStack w1425 ⟨rfl, rfl⟩ ⟨Nat.le_of_ble_eq_true rfl, Nat.le_of_ble_eq_true rfl⟩ rfl hl.1 rfl (Nat.le_of_ble_eq_true rfl) dX7_moves_10 ⟨Nat.le_of_ble_eq_true rfl, Nat.le_of_ble_eq_true rfl⟩ (fun H locs hI => ?_)
    refine lv_if_ne (tgt := 22) hx hb dX7_moves_13 rfl (fun h8 => ?_) (fun h8 => ?_)
    · replace hf := gifn h8 hf
      refine lv_iload_n hx hb dX7_moves_22 rfl (lv_at hl 2 rfl) ?_
      refine lv_iload_n hx hb dX7_moves_23 rfl (lv_at hl 3 rfl) ?_
      refine lv_icmp_ne (tgt := 33) hx hb dX7_moves_24 rfl (fun h9 => ?_) (fun h9 => ?_)
      · replace hf := gifn h9 hf
        refine lv_aload_n hx hb dX7_moves_33 rfl (lv_at hl 0 rfl) ?_
        refine gt_X7_X7_g hC hI dX7_moves_34 ?_
        refine lv_bipush (v := 7) hx hb dX7_moves_37 (by decide) ?_
        refine lv_iload_n hx hb dX7_moves_39 rfl (lv_at hl 1 rfl) ?_
        refine lv_iadd hx hb dX7_moves_40 ?_
        obtain ⟨h10, hf⟩ := gifN hf
        refine g_iald hC hI (k := (7 + v1).toNatClampNeg) gIA_151 h10 rfl dX7_moves_41 ?_
        refine lv_if_eq (tgt := 64) hx hb dX7_moves_42 rfl (fun h11 => ?_) (fun h11 => ?_)
        · replace hf := gif h11 hf
          refine lv_aload_n hx hb dX7_moves_64 rfl (lv_at hl 0 rfl) ?_
          refine lv_iconst (v := 3) hx hb dX7_moves_65 (by decide) ?_
          obtain ⟨r12, hr13, hf⟩ := gbind hf
          have hr13 := C_X7_fails l E x  hr13
          refine g_callVi (rest := []) hC hI hr13 Y_X7_fails V_X7_fails w1401 (rcv_X7 hC hI) ⟨rfl, rfl⟩ ⟨Nat.le_of_ble_eq_true rfl, Nat.le_of_ble_eq_true rfl⟩ rfl hl.1 rfl (Nat.le_of_ble_eq_true rfl) dX7_moves_66 ⟨Nat.le_of_ble_eq_true rfl, Nat.le_of_ble_eq_true rfl⟩ (fun H locs hI => ?_)
          exact kr _ _ _ _ _ _ (grw hf) hI ⟨.int, rfl, rfl⟩ dX7_moves_69
        · replace hf := gifn h11 hf
          refine lv_aload_n hx hb dX7_moves_45 rfl (lv_at hl 0 rfl) ?_
          refine lv_iload_n hx hb dX7_moves_46 rfl (lv_at hl 1 rfl) ?_
          refine lv_iload_n hx hb dX7_moves_47 rfl (lv_at hl 2 rfl) ?_
          obtain ⟨r14, hr15, hf⟩ := gbind hf
          have hr15 := C_X7_height l E x  hr15
          refine g_callVi (rest := []) hC hI hr15 Y_X7_height V_X7_height w1428 (rcv_X7 hC hI) ⟨rfl, rfl⟩ ⟨Nat.le_of_ble_eq_true rfl, Nat.le_of_ble_eq_true rfl⟩ rfl hl.1 rfl (Nat.le_of_ble_eq_true rfl) dX7_moves_48 ⟨Nat.le_of_ble_eq_true rfl, Nat.le_of_ble_eq_true rfl⟩ (fun H locs hI => ?_)
          refine lv_if_eq (tgt := 64) hx hb dX7_moves_51 rfl (fun h16 => ?_) (fun h16 => ?_)
          · replace hf := gif h16 hf
            refine lv_aload_n hx hb dX7_moves_64 rfl (lv_at hl 0 rfl) ?_
            refine lv_iconst (v := 3) hx hb dX7_moves_65 (by decide) ?_
            obtain ⟨r17, hr18, hf⟩ := gbind hf
            have hr18 := C_X7_fails l E x  hr18
            refine g_callVi (rest := []) hC hI hr18 Y_X7_fails V_X7_fails w1401 (rcv_X7 hC hI) ⟨rfl, rfl⟩ ⟨Nat.le_of_ble_eq_true rfl, Nat.le_of_ble_eq_true rfl⟩ rfl hl.1 rfl (Nat.le_of_ble_eq_true rfl) dX7_moves_66 ⟨Nat.le_of_ble_eq_true rfl, Nat.le_of_ble_eq_true rfl⟩ (fun H locs hI => ?_)
            exact kr _ _ _ _ _ _ (grw hf) hI ⟨.int, rfl, rfl⟩ dX7_moves_69
          · replace hf := gifn h16 hf
            refine lv_aload_n hx hb dX7_moves_54 rfl (lv_at hl 0 rfl) ?_
            refine lv_iload_n hx hb dX7_moves_55 rfl (lv_at hl 1 rfl) ?_
            refine lv_iload_n hx hb dX7_moves_56 rfl (lv_at hl 3 rfl) ?_
            obtain ⟨r19, hr20, hf⟩ := gbind hf
            have hr20 := C_X7_height l E x  hr20
            refine g_callVi (rest := []) hC hI hr20 Y_X7_height V_X7_height w1428 (rcv_X7 hC hI) ⟨rfl, rfl⟩ ⟨Nat.le_of_ble_eq_true rfl, Nat.le_of_ble_eq_true rfl⟩ rfl hl.1 rfl (Nat.le_of_ble_eq_true rfl) dX7_moves_57 ⟨Nat.le_of_ble_eq_true rfl, Nat.le_of_ble_eq_true rfl⟩ (fun H locs hI => ?_)
            refine lv_iconst (v := 5) hx hb dX7_moves_60 (by decide) ?_
            refine lv_icmp_ne (tgt := 70) hx hb dX7_moves_61 rfl (fun h21 => ?_) (fun h21 => ?_)
            · replace hf := gifn h21 hf
              refine lv_iload_n hx hb dX7_moves_70 rfl (lv_at hl 1 rfl) ?_
              refine lv_iload_n hx hb dX7_moves_71 rfl (lv_at hl 2 rfl) ?_
              refine lv_aload_n hx hb dX7_moves_72 rfl (lv_at hl 0 rfl) ?_
              refine lv_iload_n hx hb dX7_moves_73 rfl (lv_at hl 1 rfl) ?_
              refine lv_iload_n hx hb dX7_moves_74 rfl (lv_at hl 2 rfl) ?_
              obtain ⟨r22, hr23, hf⟩ := gbind hf
              have hr23 := C_X7_height l E x  hr23
              refine g_callVi (rest := [.int v2, .int v1]) hC hI hr23 Y_X7_height V_X7_height w1428 (rcv_X7 hC hI) ⟨rfl, rfl⟩ ⟨Nat.le_of_ble_eq_true rfl, Nat.le_of_ble_eq_true rfl⟩ rfl hl.1 rfl (Nat.le_of_ble_eq_true rfl) dX7_moves_75 ⟨Nat.le_of_ble_eq_true rfl, Nat.le_of_ble_eq_true rfl⟩ (fun H locs hI => ?_)
              refine lv_iconst (v := 1) hx hb dX7_moves_78 (by decide) ?_
              refine lv_isub hx hb dX7_moves_79 ?_
              obtain ⟨r24, hr25, hf⟩ := gbind hf
              have hr25 := C_X7_cell l E x  hr25
              refine g_callSi (rest := []) hC hI hr25 Y_X7_cell S_X7_cell w1432 ⟨rfl, rfl⟩ ⟨Nat.le_of_ble_eq_true rfl, Nat.le_of_ble_eq_true rfl⟩ rfl hl.1 rfl (Nat.le_of_ble_eq_true rfl) dX7_moves_80 ⟨Nat.le_of_ble_eq_true rfl, Nat.le_of_ble_eq_true rfl⟩ (fun H locs hI => ?_)
              refine lv_istore (lv' := [(4, .int r24), (0, .ref (E.2.1 150)), (1, .int v1), (2, .int v2), (3, .int v3)]) hx hb dX7_moves_83 hl (by decide) rfl (fun ls hl => ?_)
              refine lv_aload_n hx hb dX7_moves_85 rfl (lv_at hl 1 rfl) ?_
              refine gt_X7_X7_g hC hI dX7_moves_86 ?_
              refine lv_bipush (v := 22) hx hb dX7_moves_89 (by decide) ?_
              refine lv_iload hx hb dX7_moves_91 (lv_at hl 0 rfl) ?_
              refine lv_iconst (v := 5) hx hb dX7_moves_93 (by decide) ?_
              refine lv_idiv hx hb dX7_moves_94 (by decide) ?_
              refine lv_iadd hx hb dX7_moves_95 ?_
              refine lv_dup2_11 hx hb dX7_moves_96 rfl rfl ?_
              obtain ⟨h26, hf⟩ := gifN hf
              refine g_iald hC hI (k := (22 + (r24 / 5)).toNatClampNeg) gIA_151 h26 rfl dX7_moves_97 ?_
              refine lv_iconst (v := 1) hx hb dX7_moves_98 (by decide) ?_
              refine lv_isub hx hb dX7_moves_99 ?_
              obtain ⟨h27, hf⟩ := gifN hf
              obtain ⟨M28, eM28, hf⟩ := glet hf
              refine g_iast hC hI (k := (22 + (r24 / 5)).toNatClampNeg) gIA_151 h27 rfl dX7_moves_100 (fun H locs hI => ?_)
              replace hI := g_mem eM28 hI
              refine lv_aload_n hx hb dX7_moves_101 rfl (lv_at hl 1 rfl) ?_
              refine lv_iload_n hx hb dX7_moves_102 rfl (lv_at hl 2 rfl) ?_
              refine lv_iload_n hx hb dX7_moves_103 rfl (lv_at hl 4 rfl) ?_
              refine lv_aload_n hx hb dX7_moves_104 rfl (lv_at hl 1 rfl) ?_
              refine lv_iload_n hx hb dX7_moves_105 rfl (lv_at hl 2 rfl) ?_
              refine lv_iload_n hx hb dX7_moves_106 rfl (lv_at hl 4 rfl) ?_
              obtain ⟨r29, hr30, hf⟩ := gbind hf
              have hr30 := C_X7_height l E x  hr30
              refine g_callVi (rest := [.int v3, .int v1, .ref (E.2.1 150)]) hC hI hr30 Y_X7_height V_X7_height w1428 (rcv_X7 hC hI) ⟨rfl, rfl⟩ ⟨Nat.le_of_ble_eq_true rfl, Nat.le_of_ble_eq_true rfl⟩ rfl hl.1 rfl (Nat.le_of_ble_eq_true rfl) dX7_moves_107 ⟨Nat.le_of_ble_eq_true rfl, Nat.le_of_ble_eq_true rfl⟩ (fun H locs hI => ?_)
              obtain ⟨r31, hr32, hf⟩ := gbind hf
              have hr32 := C_X7_cell l E x  hr32
              refine g_callSi (rest := [.ref (E.2.1 150)]) hC hI hr32 Y_X7_cell S_X7_cell w1432 ⟨rfl, rfl⟩ ⟨Nat.le_of_ble_eq_true rfl, Nat.le_of_ble_eq_true rfl⟩ rfl hl.1 rfl (Nat.le_of_ble_eq_true rfl) dX7_moves_110 ⟨Nat.le_of_ble_eq_true rfl, Nat.le_of_ble_eq_true rfl⟩ (fun H locs hI => ?_)
              refine lv_aload_n hx hb dX7_moves_113 rfl (lv_at hl 1 rfl) ?_
              refine gt_X7_X7_g hC hI dX7_moves_114 ?_
              refine lv_bipush (v := 34) hx hb dX7_moves_117 (by decide) ?_
              refine lv_iload hx hb dX7_moves_119 (lv_at hl 0 rfl) ?_
              refine lv_iadd hx hb dX7_moves_121 ?_
              obtain ⟨h33, hf⟩ := gifN hf
              refine g_iald hC hI (k := (34 + r24).toNatClampNeg) gIA_151 h33 rfl dX7_moves_122 ?_
              refine lv_aload_n hx hb dX7_moves_123 rfl (lv_at hl 1 rfl) ?_
              refine gt_X7_X7_g hC hI dX7_moves_124 ?_
              refine lv_bipush (v := 94) hx hb dX7_moves_127 (by decide) ?_
              refine lv_iload hx hb dX7_moves_129 (lv_at hl 0 rfl) ?_
              refine lv_iadd hx hb dX7_moves_131 ?_
              obtain ⟨h34, hf⟩ := gifN hf
              refine g_iald hC hI (k := (94 + r24).toNatClampNeg) gIA_151 h34 rfl dX7_moves_132 ?_
              refine lv_aload_n hx hb dX7_moves_133 rfl (lv_at hl 1 rfl) ?_
              refine gt_X7_X7_g hC hI dX7_moves_134 ?_
              refine lv_sipush (v := 154) hx hb dX7_moves_137 (by decide) ?_
              refine lv_iload hx hb dX7_moves_140 (lv_at hl 0 rfl) ?_
              refine lv_iadd hx hb dX7_moves_142 ?_
              obtain ⟨h35, hf⟩ := gifN hf
              refine g_iald hC hI (k := (154 + r24).toNatClampNeg) gIA_151 h35 rfl dX7_moves_143 ?_
              obtain ⟨r36, hr37, hf⟩ := gbind hf
              have hr37 := C_X7_puts l E x  hr37
              refine g_callVv (rest := []) hC hI hr37 Y_X7_puts V_X7_puts w1435 (rcv_X7 hC hI) ⟨rfl, rfl⟩ ⟨Nat.le_of_ble_eq_true rfl, Nat.le_of_ble_eq_true rfl⟩ rfl hl.1 rfl (Nat.le_of_ble_eq_true rfl) dX7_moves_144 ⟨Nat.le_of_ble_eq_true rfl, Nat.le_of_ble_eq_true rfl⟩ (fun H locs hI => ?_)
              refine lv_aload_n hx hb dX7_moves_147 rfl (lv_at hl 1 rfl) ?_
              refine lv_aload_n hx hb dX7_moves_148 rfl (lv_at hl 1 rfl) ?_
              refine gt_X7_X7_g hC hI dX7_moves_149 ?_
              refine lv_bipush (v := 34) hx hb dX7_moves_152 (by decide) ?_
              refine lv_iload hx hb dX7_moves_154 (lv_at hl 0 rfl) ?_
              refine lv_iadd hx hb dX7_moves_156 ?_
              obtain ⟨h38, hf⟩ := gifN hf
              refine g_iald hC hI (k := (34 + r24).toNatClampNeg) gIA_151 h38 rfl dX7_moves_157 ?_
              obtain ⟨r39, hr40, hf⟩ := gbind hf
              have hr40 := C_X7_done l E x  hr40
              refine g_callVi (rest := []) hC hI hr40 Y_X7_done V_X7_done w1409 (rcv_X7 hC hI) ⟨rfl, rfl⟩ ⟨Nat.le_of_ble_eq_true rfl, Nat.le_of_ble_eq_true rfl⟩ rfl hl.1 rfl (Nat.le_of_ble_eq_true rfl) dX7_moves_158 ⟨Nat.le_of_ble_eq_true rfl, Nat.le_of_ble_eq_true rfl⟩ (fun H locs hI => ?_)
              exact kr _ _ _ _ _ _ (grw hf) hI ⟨.int, rfl, rfl⟩ dX7_moves_161
            · replace hf := gif h21 hf
              refine lv_aload_n hx hb dX7_moves_64 rfl (lv_at hl 0 rfl) ?_
              refine lv_iconst (v := 3) hx hb dX7_moves_65 (by decide) ?_
              obtain ⟨r41, hr42, hf⟩ := gbind hf
              have hr42 := C_X7_fails l E x  hr42
              refine g_callVi (rest := []) hC hI hr42 Y_X7_fails V_X7_fails w1401 (rcv_X7 hC hI) ⟨rfl, rfl⟩ ⟨Nat.le_of_ble_eq_true rfl, Nat.le_of_ble_eq_true rfl⟩ rfl hl.1 rfl (Nat.le_of_ble_eq_true rfl) dX7_moves_66 ⟨Nat.le_of_ble_eq_true rfl, Nat.le_of_ble_eq_true rfl⟩ (fun H locs hI => ?_)
              exact kr _ _ _ _ _ _ (grw hf) hI ⟨.int, rfl, rfl⟩ dX7_moves_69
      · replace hf := gif h9 hf
        refine lv_aload_n hx hb dX7_moves_27 rfl (lv_at hl 0 rfl) ?_
        refine lv_iconst (v := 2) hx hb dX7_moves_28 (by decide) ?_
        obtain ⟨r43, hr44, hf⟩ := gbind hf
        have hr44 := C_X7_fails l E x  hr44
        refine g_callVi (rest := []) hC hI hr44 Y_X7_fails V_X7_fails w1401 (rcv_X7 hC hI) ⟨rfl, rfl⟩ ⟨Nat.le_of_ble_eq_true rfl, Nat.le_of_ble_eq_true rfl⟩ rfl hl.1 rfl (Nat.le_of_ble_eq_true rfl) dX7_moves_29 ⟨Nat.le_of_ble_eq_true rfl, Nat.le_of_ble_eq_true rfl⟩ (fun H locs hI => ?_)
        exact kr _ _ _ _ _ _ (grw hf) hI ⟨.int, rfl, rfl⟩ dX7_moves_32
    · replace hf := gif h8 hf
      refine lv_aload_n hx hb dX7_moves_16 rfl (lv_at hl 0 rfl) ?_
      refine lv_iconst (v := 1) hx hb dX7_moves_17 (by decide) ?_
      obtain ⟨r45, hr46, hf⟩ := gbind hf
      have hr46 := C_X7_fails l E x  hr46
      refine g_callVi (rest := []) hC hI hr46 Y_X7_fails V_X7_fails w1401 (rcv_X7 hC hI) ⟨rfl, rfl⟩ ⟨Nat.le_of_ble_eq_true rfl, Nat.le_of_ble_eq_true rfl⟩ rfl hl.1 rfl (Nat.le_of_ble_eq_true rfl) dX7_moves_18 ⟨Nat.le_of_ble_eq_true rfl, Nat.le_of_ble_eq_true rfl⟩ (fun H locs hI => ?_)
      exact kr _ _ _ _ _ _ (grw hf) hI ⟨.int, rfl, rfl⟩ dX7_moves_21
theorem dX7_move_0 : decode cX7_move 0 = .ok (.aload_n 0, 1) := by decide +kernel
theorem dX7_move_1 : decode cX7_move 1 = .ok (.invokevirtual 78, 3) := by decide +kernel
theorem dX7_move_4 : decode cX7_move 4 = .ok (.aload_n 0, 1) := by decide +kernel
theorem dX7_move_5 : decode cX7_move 5 = .ok (.aload_n 0, 1) := by decide +kernel
theorem dX7_move_6 : decode cX7_move 6 = .ok (.iload_n 1, 1) := by decide +kernel
theorem dX7_move_7 : decode cX7_move 7 = .ok (.iload_n 2, 1) := by decide +kernel
theorem dX7_move_8 : decode cX7_move 8 = .ok (.iload_n 3, 1) := by decide +kernel
theorem dX7_move_9 : decode cX7_move 9 = .ok (.invokevirtual 113, 3) := by decide +kernel
theorem dX7_move_12 : decode cX7_move 12 = .ok (.invokevirtual 85, 3) := by decide +kernel
theorem dX7_move_15 : decode cX7_move 15 = .ok (.ireturn, 1) := by decide +kernel
set_option maxRecDepth 100000 in
set_option maxHeartbeats 4000000 in
theorem C_X7_move (l : Launch) (E : gE) (x : gX) {v1 v2 v3 : Int32} {M : gM} {r : Int32} {M' : gM} (hf : f_X7_move v1 v2 v3 M = some (r, M')) : gM0 l E yX7_move (.code yX7_move cX7_move 4 (some .int)) (gR 4 87) M x [.ref (E.2.1 150), .int v1, .int v2, .int v3] (some (.int r)) M' := by
  refine gMet (by decide +kernel) (Nat.le_of_ble_eq_true rfl) ?_
  intro p e s m args below meth c H locs ls Q hC hl hI kr kv
  replace hC : gC p s m args c cX7_move 4 RX7 E := hC
  replace hl : lv_has ls 4 [(0, .ref (E.2.1 150)), (1, .int v1), (2, .int v2), (3, .int v3)] := hl
  have hx := hC.1
  have hb := hC.2.1
  unfold f_X7_move at hf
  refine lv_aload_n hx hb dX7_move_0 rfl (lv_at hl 0 rfl) ?_
  obtain ⟨r1, hr2, hf⟩ := gbind hf
  have hr2 := C_X7_begin l E x  hr2
  refine g_callVv (rest := []) hC hI hr2 Y_X7_begin V_X7_begin w1384 (rcv_X7 hC hI) ⟨rfl, rfl⟩ ⟨Nat.le_of_ble_eq_true rfl, Nat.le_of_ble_eq_true rfl⟩ rfl hl.1 rfl (Nat.le_of_ble_eq_true rfl) dX7_move_1 ⟨Nat.le_of_ble_eq_true rfl, Nat.le_of_ble_eq_true rfl⟩ (fun H locs hI => ?_)
  refine lv_aload_n hx hb dX7_move_4 rfl (lv_at hl 0 rfl) ?_
  refine lv_aload_n hx hb dX7_move_5 rfl (lv_at hl 0 rfl) ?_
  refine lv_iload_n hx hb dX7_move_6 rfl (lv_at hl 1 rfl) ?_
  refine lv_iload_n hx hb dX7_move_7 rfl (lv_at hl 2 rfl) ?_
  refine lv_iload_n hx hb dX7_move_8 rfl (lv_at hl 3 rfl) ?_
  obtain ⟨r3, hr4, hf⟩ := gbind hf
  have hr4 := C_X7_moves l E x  hr4
  refine g_callVi (rest := [.ref (E.2.1 150)]) hC hI hr4 Y_X7_moves V_X7_moves w1458 (rcv_X7 hC hI) ⟨rfl, rfl⟩ ⟨Nat.le_of_ble_eq_true rfl, Nat.le_of_ble_eq_true rfl⟩ rfl hl.1 rfl (Nat.le_of_ble_eq_true rfl) dX7_move_9 ⟨Nat.le_of_ble_eq_true rfl, Nat.le_of_ble_eq_true rfl⟩ (fun H locs hI => ?_)
  obtain ⟨r5, hr6, hf⟩ := gbind hf
  have hr6 := C_X7_kept l E x  hr6
  refine g_callVi (rest := []) hC hI hr6 Y_X7_kept V_X7_kept w1413 (rcv_X7 hC hI) ⟨rfl, rfl⟩ ⟨Nat.le_of_ble_eq_true rfl, Nat.le_of_ble_eq_true rfl⟩ rfl hl.1 rfl (Nat.le_of_ble_eq_true rfl) dX7_move_12 ⟨Nat.le_of_ble_eq_true rfl, Nat.le_of_ble_eq_true rfl⟩ (fun H locs hI => ?_)
  exact kr _ _ _ _ _ _ (grw hf) hI ⟨.int, rfl, rfl⟩ dX7_move_15
theorem dX7_delivers_0 : decode cX7_delivers 0 = .ok (.aload_n 0, 1) := by decide +kernel
theorem dX7_delivers_1 : decode cX7_delivers 1 = .ok (.iload_n 1, 1) := by decide +kernel
theorem dX7_delivers_2 : decode cX7_delivers 2 = .ok (.invokevirtual 116, 3) := by decide +kernel
theorem dX7_delivers_5 : decode cX7_delivers 5 = .ok (.istore_n 2, 1) := by decide +kernel
theorem dX7_delivers_6 : decode cX7_delivers 6 = .ok (.iload_n 2, 1) := by decide +kernel
theorem dX7_delivers_7 : decode cX7_delivers 7 = .ok (.iconst (-1), 1) := by decide +kernel
theorem dX7_delivers_8 : decode cX7_delivers 8 = .ok (.if_icmp .ne 9, 3) := by decide +kernel
theorem dX7_delivers_11 : decode cX7_delivers 11 = .ok (.aload_n 0, 1) := by decide +kernel
theorem dX7_delivers_12 : decode cX7_delivers 12 = .ok (.iconst 1, 1) := by decide +kernel
theorem dX7_delivers_13 : decode cX7_delivers 13 = .ok (.invokevirtual 67, 3) := by decide +kernel
theorem dX7_delivers_16 : decode cX7_delivers 16 = .ok (.ireturn, 1) := by decide +kernel
theorem dX7_delivers_17 : decode cX7_delivers 17 = .ok (.sipush 214, 3) := by decide +kernel
theorem dX7_delivers_20 : decode cX7_delivers 20 = .ok (.istore_n 3, 1) := by decide +kernel
theorem dX7_delivers_21 : decode cX7_delivers 21 = .ok (.iload_n 3, 1) := by decide +kernel
theorem dX7_delivers_22 : decode cX7_delivers 22 = .ok (.sipush 259, 3) := by decide +kernel
theorem dX7_delivers_25 : decode cX7_delivers 25 = .ok (.if_icmp .ge 45, 3) := by decide +kernel
theorem dX7_delivers_28 : decode cX7_delivers 28 = .ok (.iload_n 2, 1) := by decide +kernel
theorem dX7_delivers_29 : decode cX7_delivers 29 = .ok (.istore 4, 2) := by decide +kernel
theorem dX7_delivers_31 : decode cX7_delivers 31 = .ok (.iload 4, 2) := by decide +kernel
theorem dX7_delivers_33 : decode cX7_delivers 33 = .ok (.bipush 14, 2) := by decide +kernel
theorem dX7_delivers_35 : decode cX7_delivers 35 = .ok (.if_icmp .ge 29, 3) := by decide +kernel
theorem dX7_delivers_38 : decode cX7_delivers 38 = .ok (.aload_n 0, 1) := by decide +kernel
theorem dX7_delivers_39 : decode cX7_delivers 39 = .ok (.getfield 7, 3) := by decide +kernel
theorem dX7_delivers_42 : decode cX7_delivers 42 = .ok (.iload_n 3, 1) := by decide +kernel
theorem dX7_delivers_43 : decode cX7_delivers 43 = .ok (.iload 4, 2) := by decide +kernel
theorem dX7_delivers_45 : decode cX7_delivers 45 = .ok (.iadd, 1) := by decide +kernel
theorem dX7_delivers_46 : decode cX7_delivers 46 = .ok (.aload_n 0, 1) := by decide +kernel
theorem dX7_delivers_47 : decode cX7_delivers 47 = .ok (.getfield 7, 3) := by decide +kernel
theorem dX7_delivers_50 : decode cX7_delivers 50 = .ok (.iload_n 3, 1) := by decide +kernel
theorem dX7_delivers_51 : decode cX7_delivers 51 = .ok (.iload 4, 2) := by decide +kernel
theorem dX7_delivers_53 : decode cX7_delivers 53 = .ok (.iadd, 1) := by decide +kernel
theorem dX7_delivers_54 : decode cX7_delivers 54 = .ok (.iconst 1, 1) := by decide +kernel
theorem dX7_delivers_55 : decode cX7_delivers 55 = .ok (.iadd, 1) := by decide +kernel
theorem dX7_delivers_56 : decode cX7_delivers 56 = .ok (.iaload, 1) := by decide +kernel
theorem dX7_delivers_57 : decode cX7_delivers 57 = .ok (.iastore, 1) := by decide +kernel
theorem dX7_delivers_58 : decode cX7_delivers 58 = .ok (.iinc 4 1, 3) := by decide +kernel
theorem dX7_delivers_61 : decode cX7_delivers 61 = .ok (.goto (-30), 3) := by decide +kernel
theorem dX7_delivers_64 : decode cX7_delivers 64 = .ok (.iinc 3 15, 3) := by decide +kernel
theorem dX7_delivers_67 : decode cX7_delivers 67 = .ok (.goto (-46), 3) := by decide +kernel
theorem dX7_delivers_70 : decode cX7_delivers 70 = .ok (.aload_n 0, 1) := by decide +kernel
theorem dX7_delivers_71 : decode cX7_delivers 71 = .ok (.getfield 7, 3) := by decide +kernel
theorem dX7_delivers_74 : decode cX7_delivers 74 = .ok (.bipush 6, 2) := by decide +kernel
theorem dX7_delivers_76 : decode cX7_delivers 76 = .ok (.dup2, 1) := by decide +kernel
theorem dX7_delivers_77 : decode cX7_delivers 77 = .ok (.iaload, 1) := by decide +kernel
theorem dX7_delivers_78 : decode cX7_delivers 78 = .ok (.iconst 1, 1) := by decide +kernel
theorem dX7_delivers_79 : decode cX7_delivers 79 = .ok (.isub, 1) := by decide +kernel
theorem dX7_delivers_80 : decode cX7_delivers 80 = .ok (.iastore, 1) := by decide +kernel
theorem dX7_delivers_81 : decode cX7_delivers 81 = .ok (.aload_n 0, 1) := by decide +kernel
theorem dX7_delivers_82 : decode cX7_delivers 82 = .ok (.getfield 7, 3) := by decide +kernel
theorem dX7_delivers_85 : decode cX7_delivers 85 = .ok (.iconst 4, 1) := by decide +kernel
theorem dX7_delivers_86 : decode cX7_delivers 86 = .ok (.dup2, 1) := by decide +kernel
theorem dX7_delivers_87 : decode cX7_delivers 87 = .ok (.iaload, 1) := by decide +kernel
theorem dX7_delivers_88 : decode cX7_delivers 88 = .ok (.iconst 1, 1) := by decide +kernel
theorem dX7_delivers_89 : decode cX7_delivers 89 = .ok (.iadd, 1) := by decide +kernel
theorem dX7_delivers_90 : decode cX7_delivers 90 = .ok (.iastore, 1) := by decide +kernel
theorem dX7_delivers_91 : decode cX7_delivers 91 = .ok (.aload_n 0, 1) := by decide +kernel
theorem dX7_delivers_92 : decode cX7_delivers 92 = .ok (.aload_n 0, 1) := by decide +kernel
theorem dX7_delivers_93 : decode cX7_delivers 93 = .ok (.getfield 7, 3) := by decide +kernel
theorem dX7_delivers_96 : decode cX7_delivers 96 = .ok (.bipush 6, 2) := by decide +kernel
theorem dX7_delivers_98 : decode cX7_delivers 98 = .ok (.iaload, 1) := by decide +kernel
theorem dX7_delivers_99 : decode cX7_delivers 99 = .ok (.invokevirtual 75, 3) := by decide +kernel
theorem dX7_delivers_102 : decode cX7_delivers 102 = .ok (.ireturn, 1) := by decide +kernel
set_option maxRecDepth 100000 in
set_option maxHeartbeats 4000000 in
theorem C_X7_delivers (l : Launch) (E : gE) (x : gX) {v1 : Int32} {M : gM} {r : Int32} {M' : gM} (hf : f_X7_delivers v1 M = some (r, M')) : gM0 l E yX7_delivers (.code yX7_delivers cX7_delivers 5 (some .int)) (gR 1 22) M x [.ref (E.2.1 150), .int v1] (some (.int r)) M' := by
  refine gMet (by decide +kernel) (Nat.le_of_ble_eq_true rfl) ?_
  intro p e s m args below meth c H locs ls Q hC hl hI kr kv
  replace hC : gC p s m args c cX7_delivers 5 RX7 E := hC
  replace hl : lv_has ls 5 [(0, .ref (E.2.1 150)), (1, .int v1)] := hl
  have hx := hC.1
  have hb := hC.2.1
  have L31 : ∀ (v3 : Int32) (v2 : Int32) (v1 : Int32) (n : Nat) (v4 : Int32) (M : gM) (q : Int32 × gM), f_X7_delivers_L31 v3 v2 v1 n v4 M = some q → ∀ (H : Heap) (locs : List Loc) (ls : Array Slot), gI E s M x H locs → lv_has ls 5 [(4, .int v4), (3, .int v3), (2, .int v2), (0, .ref (E.2.1 150)), (1, .int v1)] → (∀ (H : Heap) (locs : List Loc) (ls : Array Slot), gI E s q.2 x H locs → lv_has ls 5 [(4, .int q.1), (3, .int v3), (2, .int v2), (0, .ref (E.2.1 150)), (1, .int v1)] → W p l e (gR 1 22) s m args below meth c H locs 0 0 Q (F0 m 64 ls [])) → W p l e (gR 1 22) s m args below meth c H locs 0 0 Q (F0 m 31 ls []) := by
    intro v3 v2 v1 n
    induction n with
    | zero => intro v4 M q hf; rw [f_X7_delivers_L31] at hf; cases hf
    | succ n ih =>
      intro v4 M q hf H locs ls hI hl hk
      rw [f_X7_delivers_L31] at hf
      refine lv_iload hx hb dX7_delivers_31 (lv_at hl 0 rfl) ?_
      refine lv_bipush (v := 14) hx hb dX7_delivers_33 (by decide) ?_
      refine lv_icmp_ge (tgt := 64) hx hb dX7_delivers_35 rfl (fun h9 => ?_) (fun h9 => ?_)
      · replace hf := gif h9 hf
        obtain rfl := Option.some.inj hf
        exact hk _ _ _ hI (lv_sub hl [0, 1, 2, 3, 4] rfl)
      · replace hf := gifn h9 hf
        refine lv_aload_n hx hb dX7_delivers_38 rfl (lv_at hl 3 rfl) ?_
        refine gt_X7_X7_g hC hI dX7_delivers_39 ?_
        refine lv_iload_n hx hb dX7_delivers_42 rfl (lv_at hl 1 rfl) ?_
        refine lv_iload hx hb dX7_delivers_43 (lv_at hl 0 rfl) ?_
        refine lv_iadd hx hb dX7_delivers_45 ?_
        refine lv_aload_n hx hb dX7_delivers_46 rfl (lv_at hl 3 rfl) ?_
        refine gt_X7_X7_g hC hI dX7_delivers_47 ?_
        refine lv_iload_n hx hb dX7_delivers_50 rfl (lv_at hl 1 rfl) ?_
        refine lv_iload hx hb dX7_delivers_51 (lv_at hl 0 rfl) ?_
        refine lv_iadd hx hb dX7_delivers_53 ?_
        refine lv_iconst (v := 1) hx hb dX7_delivers_54 (by decide) ?_
        refine lv_iadd hx hb dX7_delivers_55 ?_
        obtain ⟨h10, hf⟩ := gifN hf
        refine g_iald hC hI (k := ((v3 + v4) + 1).toNatClampNeg) gIA_151 h10 rfl dX7_delivers_56 ?_
        obtain ⟨h11, hf⟩ := gifN hf
        obtain ⟨M12, eM12, hf⟩ := glet hf
        refine g_iast hC hI (k := (v3 + v4).toNatClampNeg) gIA_151 h11 rfl dX7_delivers_57 (fun H locs hI => ?_)
        replace hI := g_mem eM12 hI
        refine lv_iinc (k := 0) (v := v4 + 1) (lv' := [(4, .int (v4 + 1)), (3, .int v3), (2, .int v2), (0, .ref (E.2.1 150)), (1, .int v1)]) hx hb dX7_delivers_58 hl rfl rfl (by decide) rfl (fun ls hl => ?_)
        refine lv_goto (tgt := 31) hx hb dX7_delivers_61 rfl ?_
        exact ih (v4 + 1) M12 _ hf _ _ _ hI (lv_sub hl [0, 1, 2, 3, 4] rfl) hk
  have L21 : ∀ (v2 : Int32) (v1 : Int32) (n : Nat) (v3 : Int32) (M : gM), f_X7_delivers_L21 v2 v1 n v3 M = some (r, M') → ∀ (H : Heap) (locs : List Loc) (ls : Array Slot), gI E s M x H locs → lv_has ls 5 [(3, .int v3), (2, .int v2), (0, .ref (E.2.1 150)), (1, .int v1)] → W p l e (gR 1 22) s m args below meth c H locs 0 0 Q (F0 m 21 ls []) := by
    intro v2 v1 n
    induction n with
    | zero => intro v3 M hf; rw [f_X7_delivers_L21] at hf; cases hf
    | succ n ih =>
      intro v3 M hf H locs ls hI hl
      rw [f_X7_delivers_L21] at hf
      refine lv_iload_n hx hb dX7_delivers_21 rfl (lv_at hl 0 rfl) ?_
      refine lv_sipush (v := 259) hx hb dX7_delivers_22 (by decide) ?_
      refine lv_icmp_ge (tgt := 70) hx hb dX7_delivers_25 rfl (fun h4 => ?_) (fun h4 => ?_)
      · replace hf := gif h4 hf
        refine lv_aload_n hx hb dX7_delivers_70 rfl (lv_at hl 2 rfl) ?_
        refine gt_X7_X7_g hC hI dX7_delivers_71 ?_
        refine lv_bipush (v := 6) hx hb dX7_delivers_74 (by decide) ?_
        refine lv_dup2_11 hx hb dX7_delivers_76 rfl rfl ?_
        refine g_iald hC hI (k := 6) gIA_151 (by decide) rfl dX7_delivers_77 ?_
        refine lv_iconst (v := 1) hx hb dX7_delivers_78 (by decide) ?_
        refine lv_isub hx hb dX7_delivers_79 ?_
        obtain ⟨M5, eM5, hf⟩ := glet hf
        refine g_iast hC hI (k := 6) gIA_151 (by decide) rfl dX7_delivers_80 (fun H locs hI => ?_)
        replace hI := g_mem eM5 hI
        refine lv_aload_n hx hb dX7_delivers_81 rfl (lv_at hl 2 rfl) ?_
        refine gt_X7_X7_g hC hI dX7_delivers_82 ?_
        refine lv_iconst (v := 4) hx hb dX7_delivers_85 (by decide) ?_
        refine lv_dup2_11 hx hb dX7_delivers_86 rfl rfl ?_
        refine g_iald hC hI (k := 4) gIA_151 (by decide) rfl dX7_delivers_87 ?_
        refine lv_iconst (v := 1) hx hb dX7_delivers_88 (by decide) ?_
        refine lv_iadd hx hb dX7_delivers_89 ?_
        obtain ⟨M6, eM6, hf⟩ := glet hf
        refine g_iast hC hI (k := 4) gIA_151 (by decide) rfl dX7_delivers_90 (fun H locs hI => ?_)
        replace hI := g_mem eM6 hI
        refine lv_aload_n hx hb dX7_delivers_91 rfl (lv_at hl 2 rfl) ?_
        refine lv_aload_n hx hb dX7_delivers_92 rfl (lv_at hl 2 rfl) ?_
        refine gt_X7_X7_g hC hI dX7_delivers_93 ?_
        refine lv_bipush (v := 6) hx hb dX7_delivers_96 (by decide) ?_
        refine g_iald hC hI (k := 6) gIA_151 (by decide) rfl dX7_delivers_98 ?_
        obtain ⟨r7, hr8, hf⟩ := gbind hf
        have hr8 := C_X7_done l E x  hr8
        refine g_callVi (rest := []) hC hI hr8 Y_X7_done V_X7_done w1409 (rcv_X7 hC hI) ⟨rfl, rfl⟩ ⟨Nat.le_of_ble_eq_true rfl, Nat.le_of_ble_eq_true rfl⟩ rfl hl.1 rfl (Nat.le_of_ble_eq_true rfl) dX7_delivers_99 ⟨Nat.le_of_ble_eq_true rfl, Nat.le_of_ble_eq_true rfl⟩ (fun H locs hI => ?_)
        exact kr _ _ _ _ _ _ (grw hf) hI ⟨.int, rfl, rfl⟩ dX7_delivers_102
      · replace hf := gifn h4 hf
        refine lv_iload_n hx hb dX7_delivers_28 rfl (lv_at hl 1 rfl) ?_
        refine lv_istore (lv' := [(4, .int v2), (3, .int v3), (2, .int v2), (0, .ref (E.2.1 150)), (1, .int v1)]) hx hb dX7_delivers_29 hl (by decide) rfl (fun ls hl => ?_)
        obtain ⟨q13, hq13, hf⟩ := gbind hf
        refine L31 v3 v2 v1 gF v2 M q13 hq13 _ _ _ hI (lv_sub hl [0, 1, 2, 3, 4] rfl) (fun H locs ls hI hl => ?_)
        try simp only at hI hl
        refine lv_iinc (k := 1) (v := v3 + 15) (lv' := [(3, .int (v3 + 15)), (4, .int q13.1), (2, .int v2), (0, .ref (E.2.1 150)), (1, .int v1)]) hx hb dX7_delivers_64 hl rfl rfl (by decide) rfl (fun ls hl => ?_)
        refine lv_goto (tgt := 21) hx hb dX7_delivers_67 rfl ?_
        exact ih (v3 + 15) q13.2 hf _ _ _ hI (lv_sub hl [0, 2, 3, 4] rfl)
  unfold f_X7_delivers at hf
  refine lv_aload_n hx hb dX7_delivers_0 rfl (lv_at hl 0 rfl) ?_
  refine lv_iload_n hx hb dX7_delivers_1 rfl (lv_at hl 1 rfl) ?_
  obtain ⟨r1, hr2, hf⟩ := gbind hf
  have hr2 := C_X7_placeOf l E x  hr2
  refine g_callVi (rest := []) hC hI hr2 Y_X7_placeOf V_X7_placeOf w1470 (rcv_X7 hC hI) ⟨rfl, rfl⟩ ⟨Nat.le_of_ble_eq_true rfl, Nat.le_of_ble_eq_true rfl⟩ rfl hl.1 rfl (Nat.le_of_ble_eq_true rfl) dX7_delivers_2 ⟨Nat.le_of_ble_eq_true rfl, Nat.le_of_ble_eq_true rfl⟩ (fun H locs hI => ?_)
  refine lv_istore_n (lv' := [(2, .int r1), (0, .ref (E.2.1 150)), (1, .int v1)]) hx hb dX7_delivers_5 rfl hl (by decide) rfl (fun ls hl => ?_)
  refine lv_iload_n hx hb dX7_delivers_6 rfl (lv_at hl 0 rfl) ?_
  refine lv_iconst (v := (-1)) hx hb dX7_delivers_7 (by decide) ?_
  refine lv_icmp_ne (tgt := 17) hx hb dX7_delivers_8 rfl (fun h3 => ?_) (fun h3 => ?_)
  · replace hf := gifn h3 hf
    refine lv_sipush (v := 214) hx hb dX7_delivers_17 (by decide) ?_
    refine lv_istore_n (lv' := [(3, .int 214), (2, .int r1), (0, .ref (E.2.1 150)), (1, .int v1)]) hx hb dX7_delivers_20 rfl hl (by decide) rfl (fun ls hl => ?_)
    exact L21 r1 v1 gF 214 M hf _ _ _ hI (lv_sub hl [0, 1, 2, 3] rfl)
  · replace hf := gif h3 hf
    refine lv_aload_n hx hb dX7_delivers_11 rfl (lv_at hl 1 rfl) ?_
    refine lv_iconst (v := 1) hx hb dX7_delivers_12 (by decide) ?_
    obtain ⟨r14, hr15, hf⟩ := gbind hf
    have hr15 := C_X7_fails l E x  hr15
    refine g_callVi (rest := []) hC hI hr15 Y_X7_fails V_X7_fails w1401 (rcv_X7 hC hI) ⟨rfl, rfl⟩ ⟨Nat.le_of_ble_eq_true rfl, Nat.le_of_ble_eq_true rfl⟩ rfl hl.1 rfl (Nat.le_of_ble_eq_true rfl) dX7_delivers_13 ⟨Nat.le_of_ble_eq_true rfl, Nat.le_of_ble_eq_true rfl⟩ (fun H locs hI => ?_)
    exact kr _ _ _ _ _ _ (grw hf) hI ⟨.int, rfl, rfl⟩ dX7_delivers_16
theorem dX7_deliver_0 : decode cX7_deliver 0 = .ok (.aload_n 0, 1) := by decide +kernel
theorem dX7_deliver_1 : decode cX7_deliver 1 = .ok (.invokevirtual 78, 3) := by decide +kernel
theorem dX7_deliver_4 : decode cX7_deliver 4 = .ok (.aload_n 0, 1) := by decide +kernel
theorem dX7_deliver_5 : decode cX7_deliver 5 = .ok (.aload_n 0, 1) := by decide +kernel
theorem dX7_deliver_6 : decode cX7_deliver 6 = .ok (.iload_n 1, 1) := by decide +kernel
theorem dX7_deliver_7 : decode cX7_deliver 7 = .ok (.invokevirtual 119, 3) := by decide +kernel
theorem dX7_deliver_10 : decode cX7_deliver 10 = .ok (.invokevirtual 85, 3) := by decide +kernel
theorem dX7_deliver_13 : decode cX7_deliver 13 = .ok (.ireturn, 1) := by decide +kernel
set_option maxRecDepth 100000 in
set_option maxHeartbeats 4000000 in
theorem C_X7_deliver (l : Launch) (E : gE) (x : gX) {v1 : Int32} {M : gM} {r : Int32} {M' : gM} (hf : f_X7_deliver v1 M = some (r, M')) : gM0 l E yX7_deliver (.code yX7_deliver cX7_deliver 2 (some .int)) (gR 2 46) M x [.ref (E.2.1 150), .int v1] (some (.int r)) M' := by
  refine gMet (by decide +kernel) (Nat.le_of_ble_eq_true rfl) ?_
  intro p e s m args below meth c H locs ls Q hC hl hI kr kv
  replace hC : gC p s m args c cX7_deliver 2 RX7 E := hC
  replace hl : lv_has ls 2 [(0, .ref (E.2.1 150)), (1, .int v1)] := hl
  have hx := hC.1
  have hb := hC.2.1
  unfold f_X7_deliver at hf
  refine lv_aload_n hx hb dX7_deliver_0 rfl (lv_at hl 0 rfl) ?_
  obtain ⟨r1, hr2, hf⟩ := gbind hf
  have hr2 := C_X7_begin l E x  hr2
  refine g_callVv (rest := []) hC hI hr2 Y_X7_begin V_X7_begin w1384 (rcv_X7 hC hI) ⟨rfl, rfl⟩ ⟨Nat.le_of_ble_eq_true rfl, Nat.le_of_ble_eq_true rfl⟩ rfl hl.1 rfl (Nat.le_of_ble_eq_true rfl) dX7_deliver_1 ⟨Nat.le_of_ble_eq_true rfl, Nat.le_of_ble_eq_true rfl⟩ (fun H locs hI => ?_)
  refine lv_aload_n hx hb dX7_deliver_4 rfl (lv_at hl 0 rfl) ?_
  refine lv_aload_n hx hb dX7_deliver_5 rfl (lv_at hl 0 rfl) ?_
  refine lv_iload_n hx hb dX7_deliver_6 rfl (lv_at hl 1 rfl) ?_
  obtain ⟨r3, hr4, hf⟩ := gbind hf
  have hr4 := C_X7_delivers l E x  hr4
  refine g_callVi (rest := [.ref (E.2.1 150)]) hC hI hr4 Y_X7_delivers V_X7_delivers w1466 (rcv_X7 hC hI) ⟨rfl, rfl⟩ ⟨Nat.le_of_ble_eq_true rfl, Nat.le_of_ble_eq_true rfl⟩ rfl hl.1 rfl (Nat.le_of_ble_eq_true rfl) dX7_deliver_7 ⟨Nat.le_of_ble_eq_true rfl, Nat.le_of_ble_eq_true rfl⟩ (fun H locs hI => ?_)
  obtain ⟨r5, hr6, hf⟩ := gbind hf
  have hr6 := C_X7_kept l E x  hr6
  refine g_callVi (rest := []) hC hI hr6 Y_X7_kept V_X7_kept w1413 (rcv_X7 hC hI) ⟨rfl, rfl⟩ ⟨Nat.le_of_ble_eq_true rfl, Nat.le_of_ble_eq_true rfl⟩ rfl hl.1 rfl (Nat.le_of_ble_eq_true rfl) dX7_deliver_10 ⟨Nat.le_of_ble_eq_true rfl, Nat.le_of_ble_eq_true rfl⟩ (fun H locs hI => ?_)
  exact kr _ _ _ _ _ _ (grw hf) hI ⟨.int, rfl, rfl⟩ dX7_deliver_13
theorem dX7_tideAt_0 : decode cX7_tideAt 0 = .ok (.iload_n 0, 1) := by decide +kernel
theorem dX7_tideAt_1 : decode cX7_tideAt 1 = .ok (.bipush 12, 2) := by decide +kernel
theorem dX7_tideAt_3 : decode cX7_tideAt 3 = .ok (.irem, 1) := by decide +kernel
theorem dX7_tideAt_4 : decode cX7_tideAt 4 = .ok (.bipush 6, 2) := by decide +kernel
theorem dX7_tideAt_6 : decode cX7_tideAt 6 = .ok (.if_icmp .gt 10, 3) := by decide +kernel
theorem dX7_tideAt_9 : decode cX7_tideAt 9 = .ok (.iload_n 0, 1) := by decide +kernel
theorem dX7_tideAt_10 : decode cX7_tideAt 10 = .ok (.bipush 12, 2) := by decide +kernel
theorem dX7_tideAt_12 : decode cX7_tideAt 12 = .ok (.irem, 1) := by decide +kernel
theorem dX7_tideAt_13 : decode cX7_tideAt 13 = .ok (.goto 10, 3) := by decide +kernel
theorem dX7_tideAt_16 : decode cX7_tideAt 16 = .ok (.bipush 12, 2) := by decide +kernel
theorem dX7_tideAt_18 : decode cX7_tideAt 18 = .ok (.iload_n 0, 1) := by decide +kernel
theorem dX7_tideAt_19 : decode cX7_tideAt 19 = .ok (.bipush 12, 2) := by decide +kernel
theorem dX7_tideAt_21 : decode cX7_tideAt 21 = .ok (.irem, 1) := by decide +kernel
theorem dX7_tideAt_22 : decode cX7_tideAt 22 = .ok (.isub, 1) := by decide +kernel
theorem dX7_tideAt_23 : decode cX7_tideAt 23 = .ok (.ireturn, 1) := by decide +kernel
set_option maxRecDepth 100000 in
set_option maxHeartbeats 4000000 in
theorem C_X7_tideAt (l : Launch) (E : gE) (x : gX) {v0 : Int32} {M : gM} {r : Int32} (hf : f_X7_tideAt v0 M = some r) : gM0 l E yX7_tideAt (.code yX7_tideAt cX7_tideAt 1 (some .int)) (gR 0 0) M x [.int v0] (some (.int r)) M := by
  refine gMet (by decide +kernel) (Nat.le_of_ble_eq_true rfl) ?_
  intro p e s m args below meth c H locs ls Q hC hl hI kr kv
  replace hC : gC p s m args c cX7_tideAt 1 RX7 E := hC
  replace hl : lv_has ls 1 [(0, .int v0)] := hl
  have hx := hC.1
  have hb := hC.2.1
  unfold f_X7_tideAt at hf
  refine lv_iload_n hx hb dX7_tideAt_0 rfl (lv_at hl 0 rfl) ?_
  refine lv_bipush (v := 12) hx hb dX7_tideAt_1 (by decide) ?_
  refine lv_irem hx hb dX7_tideAt_3 (by decide) ?_
  refine lv_bipush (v := 6) hx hb dX7_tideAt_4 (by decide) ?_
  refine lv_icmp_gt (tgt := 16) hx hb dX7_tideAt_6 rfl (fun h1 => ?_) (fun h1 => ?_)
  · replace hf := gif h1 hf
    refine lv_bipush (v := 12) hx hb dX7_tideAt_16 (by decide) ?_
    refine lv_iload_n hx hb dX7_tideAt_18 rfl (lv_at hl 0 rfl) ?_
    refine lv_bipush (v := 12) hx hb dX7_tideAt_19 (by decide) ?_
    refine lv_irem hx hb dX7_tideAt_21 (by decide) ?_
    refine lv_isub hx hb dX7_tideAt_22 ?_
    exact kr _ _ _ _ _ _ (gri hf) hI ⟨.int, rfl, rfl⟩ dX7_tideAt_23
  · replace hf := gifn h1 hf
    refine lv_iload_n hx hb dX7_tideAt_9 rfl (lv_at hl 0 rfl) ?_
    refine lv_bipush (v := 12) hx hb dX7_tideAt_10 (by decide) ?_
    refine lv_irem hx hb dX7_tideAt_12 (by decide) ?_
    refine lv_goto (tgt := 23) hx hb dX7_tideAt_13 rfl ?_
    exact kr _ _ _ _ _ _ (gri hf) hI ⟨.int, rfl, rfl⟩ dX7_tideAt_23
theorem dX7_floatsAt_0 : decode cX7_floatsAt 0 = .ok (.iconst 4, 1) := by decide +kernel
theorem dX7_floatsAt_1 : decode cX7_floatsAt 1 = .ok (.iload_n 2, 1) := by decide +kernel
theorem dX7_floatsAt_2 : decode cX7_floatsAt 2 = .ok (.invokestatic 122, 3) := by decide +kernel
theorem dX7_floatsAt_5 : decode cX7_floatsAt 5 = .ok (.iadd, 1) := by decide +kernel
theorem dX7_floatsAt_6 : decode cX7_floatsAt 6 = .ok (.aload_n 0, 1) := by decide +kernel
theorem dX7_floatsAt_7 : decode cX7_floatsAt 7 = .ok (.getfield 7, 3) := by decide +kernel
theorem dX7_floatsAt_10 : decode cX7_floatsAt 10 = .ok (.bipush 10, 2) := by decide +kernel
theorem dX7_floatsAt_12 : decode cX7_floatsAt 12 = .ok (.iload_n 1, 1) := by decide +kernel
theorem dX7_floatsAt_13 : decode cX7_floatsAt 13 = .ok (.iadd, 1) := by decide +kernel
theorem dX7_floatsAt_14 : decode cX7_floatsAt 14 = .ok (.iaload, 1) := by decide +kernel
theorem dX7_floatsAt_15 : decode cX7_floatsAt 15 = .ok (.if_icmp .lt 7, 3) := by decide +kernel
theorem dX7_floatsAt_18 : decode cX7_floatsAt 18 = .ok (.iconst 1, 1) := by decide +kernel
theorem dX7_floatsAt_19 : decode cX7_floatsAt 19 = .ok (.goto 4, 3) := by decide +kernel
theorem dX7_floatsAt_22 : decode cX7_floatsAt 22 = .ok (.iconst 0, 1) := by decide +kernel
theorem dX7_floatsAt_23 : decode cX7_floatsAt 23 = .ok (.ireturn, 1) := by decide +kernel
set_option maxRecDepth 100000 in
set_option maxHeartbeats 4000000 in
theorem C_X7_floatsAt (l : Launch) (E : gE) (x : gX) {v1 v2 : Int32} {M : gM} {r : Bool} (hf : f_X7_floatsAt v1 v2 M = some r) : gM0 l E yX7_floatsAt (.code yX7_floatsAt cX7_floatsAt 3 (some .boolean)) (gR 1 20) M x [.ref (E.2.1 150), .int v1, .int v2] (some (.int (gb r))) M := by
  refine gMet (by decide +kernel) (Nat.le_of_ble_eq_true rfl) ?_
  intro p e s m args below meth c H locs ls Q hC hl hI kr kv
  replace hC : gC p s m args c cX7_floatsAt 3 RX7 E := hC
  replace hl : lv_has ls 3 [(0, .ref (E.2.1 150)), (1, .int v1), (2, .int v2)] := hl
  have hx := hC.1
  have hb := hC.2.1
  unfold f_X7_floatsAt at hf
  refine lv_iconst (v := 4) hx hb dX7_floatsAt_0 (by decide) ?_
  refine lv_iload_n hx hb dX7_floatsAt_1 rfl (lv_at hl 2 rfl) ?_
  obtain ⟨r1, hr2, hf⟩ := gbind hf
  have hr2 := C_X7_tideAt l E x  hr2
  refine g_callSi (rest := [.int 4]) hC hI hr2 Y_X7_tideAt S_X7_tideAt w1494 ⟨rfl, rfl⟩ ⟨Nat.le_of_ble_eq_true rfl, Nat.le_of_ble_eq_true rfl⟩ rfl hl.1 rfl (Nat.le_of_ble_eq_true rfl) dX7_floatsAt_2 ⟨Nat.le_of_ble_eq_true rfl, Nat.le_of_ble_eq_true rfl⟩ (fun H locs hI => ?_)
  refine lv_iadd hx hb dX7_floatsAt_5 ?_
  refine lv_aload_n hx hb dX7_floatsAt_6 rfl (lv_at hl 0 rfl) ?_
  refine gt_X7_X7_g hC hI dX7_floatsAt_7 ?_
  refine lv_bipush (v := 10) hx hb dX7_floatsAt_10 (by decide) ?_
  refine lv_iload_n hx hb dX7_floatsAt_12 rfl (lv_at hl 1 rfl) ?_
  refine lv_iadd hx hb dX7_floatsAt_13 ?_
  obtain ⟨h3, hf⟩ := gifN hf
  refine g_iald hC hI (k := (10 + v1).toNatClampNeg) gIA_151 h3 rfl dX7_floatsAt_14 ?_
  refine lv_icmp_lt (tgt := 22) hx hb dX7_floatsAt_15 rfl (fun h4 => ?_) (fun h4 => ?_)
  · replace hf := gif h4 hf
    refine lv_iconst (v := 0) hx hb dX7_floatsAt_22 (by decide) ?_
    exact kr _ _ _ _ _ _ (grb0 hf) hI ⟨.boolean, rfl, rfl⟩ dX7_floatsAt_23
  · replace hf := gifn h4 hf
    refine lv_iconst (v := 1) hx hb dX7_floatsAt_18 (by decide) ?_
    refine lv_goto (tgt := 23) hx hb dX7_floatsAt_19 rfl ?_
    exact kr _ _ _ _ _ _ (grb1 hf) hI ⟨.boolean, rfl, rfl⟩ dX7_floatsAt_23
theorem dX7_mayLeave_0 : decode cX7_mayLeave 0 = .ok (.aload_n 0, 1) := by decide +kernel
theorem dX7_mayLeave_1 : decode cX7_mayLeave 1 = .ok (.getfield 7, 3) := by decide +kernel
theorem dX7_mayLeave_4 : decode cX7_mayLeave 4 = .ok (.bipush 7, 2) := by decide +kernel
theorem dX7_mayLeave_6 : decode cX7_mayLeave 6 = .ok (.iload_n 1, 1) := by decide +kernel
theorem dX7_mayLeave_7 : decode cX7_mayLeave 7 = .ok (.iadd, 1) := by decide +kernel
theorem dX7_mayLeave_8 : decode cX7_mayLeave 8 = .ok (.iaload, 1) := by decide +kernel
theorem dX7_mayLeave_9 : decode cX7_mayLeave 9 = .ok (.iconst 1, 1) := by decide +kernel
theorem dX7_mayLeave_10 : decode cX7_mayLeave 10 = .ok (.if_icmp .ne 29, 3) := by decide +kernel
theorem dX7_mayLeave_13 : decode cX7_mayLeave 13 = .ok (.aload_n 0, 1) := by decide +kernel
theorem dX7_mayLeave_14 : decode cX7_mayLeave 14 = .ok (.iload_n 1, 1) := by decide +kernel
theorem dX7_mayLeave_15 : decode cX7_mayLeave 15 = .ok (.invokevirtual 125, 3) := by decide +kernel
theorem dX7_mayLeave_18 : decode cX7_mayLeave 18 = .ok (.ifCond .ne 21, 3) := by decide +kernel
theorem dX7_mayLeave_21 : decode cX7_mayLeave 21 = .ok (.aload_n 0, 1) := by decide +kernel
theorem dX7_mayLeave_22 : decode cX7_mayLeave 22 = .ok (.iload_n 1, 1) := by decide +kernel
theorem dX7_mayLeave_23 : decode cX7_mayLeave 23 = .ok (.aload_n 0, 1) := by decide +kernel
theorem dX7_mayLeave_24 : decode cX7_mayLeave 24 = .ok (.getfield 7, 3) := by decide +kernel
theorem dX7_mayLeave_27 : decode cX7_mayLeave 27 = .ok (.iconst 0, 1) := by decide +kernel
theorem dX7_mayLeave_28 : decode cX7_mayLeave 28 = .ok (.iaload, 1) := by decide +kernel
theorem dX7_mayLeave_29 : decode cX7_mayLeave 29 = .ok (.invokevirtual 128, 3) := by decide +kernel
theorem dX7_mayLeave_32 : decode cX7_mayLeave 32 = .ok (.ifCond .eq 7, 3) := by decide +kernel
theorem dX7_mayLeave_35 : decode cX7_mayLeave 35 = .ok (.iconst 1, 1) := by decide +kernel
theorem dX7_mayLeave_36 : decode cX7_mayLeave 36 = .ok (.goto 4, 3) := by decide +kernel
theorem dX7_mayLeave_39 : decode cX7_mayLeave 39 = .ok (.iconst 0, 1) := by decide +kernel
theorem dX7_mayLeave_40 : decode cX7_mayLeave 40 = .ok (.ireturn, 1) := by decide +kernel
set_option maxRecDepth 100000 in
set_option maxHeartbeats 4000000 in
theorem C_X7_mayLeave (l : Launch) (E : gE) (x : gX) {v1 : Int32} {M : gM} {r : Bool} (hf : f_X7_mayLeave v1 M = some r) : gM0 l E yX7_mayLeave (.code yX7_mayLeave cX7_mayLeave 2 (some .boolean)) (gR 2 45) M x [.ref (E.2.1 150), .int v1] (some (.int (gb r))) M := by
  refine gMet (by decide +kernel) (Nat.le_of_ble_eq_true rfl) ?_
  intro p e s m args below meth c H locs ls Q hC hl hI kr kv
  replace hC : gC p s m args c cX7_mayLeave 2 RX7 E := hC
  replace hl : lv_has ls 2 [(0, .ref (E.2.1 150)), (1, .int v1)] := hl
  have hx := hC.1
  have hb := hC.2.1
  unfold f_X7_mayLeave at hf
  refine lv_aload_n hx hb dX7_mayLeave_0 rfl (lv_at hl 0 rfl) ?_
  refine gt_X7_X7_g hC hI dX7_mayLeave_1 ?_
  refine lv_bipush (v := 7) hx hb dX7_mayLeave_4 (by decide) ?_
  refine lv_iload_n hx hb dX7_mayLeave_6 rfl (lv_at hl 1 rfl) ?_
  refine lv_iadd hx hb dX7_mayLeave_7 ?_
  obtain ⟨h1, hf⟩ := gifN hf
  refine g_iald hC hI (k := (7 + v1).toNatClampNeg) gIA_151 h1 rfl dX7_mayLeave_8 ?_
  refine lv_iconst (v := 1) hx hb dX7_mayLeave_9 (by decide) ?_
  refine lv_icmp_ne (tgt := 39) hx hb dX7_mayLeave_10 rfl (fun h2 => ?_) (fun h2 => ?_)
  · replace hf := gifn h2 hf
    refine lv_iconst (v := 0) hx hb dX7_mayLeave_39 (by decide) ?_
    exact kr _ _ _ _ _ _ (grb0 hf) hI ⟨.boolean, rfl, rfl⟩ dX7_mayLeave_40
  · replace hf := gif h2 hf
    refine lv_aload_n hx hb dX7_mayLeave_13 rfl (lv_at hl 0 rfl) ?_
    refine lv_iload_n hx hb dX7_mayLeave_14 rfl (lv_at hl 1 rfl) ?_
    obtain ⟨r3, hr4, hf⟩ := gbind hf
    have hr4 := C_X7_load l E x  hr4
    refine g_callVi (rest := []) hC hI hr4 Y_X7_load V_X7_load w1486 (rcv_X7 hC hI) ⟨rfl, rfl⟩ ⟨Nat.le_of_ble_eq_true rfl, Nat.le_of_ble_eq_true rfl⟩ rfl hl.1 rfl (Nat.le_of_ble_eq_true rfl) dX7_mayLeave_15 ⟨Nat.le_of_ble_eq_true rfl, Nat.le_of_ble_eq_true rfl⟩ (fun H locs hI => ?_)
    refine lv_if_ne (tgt := 39) hx hb dX7_mayLeave_18 rfl (fun h5 => ?_) (fun h5 => ?_)
    · replace hf := gifn h5 hf
      refine lv_iconst (v := 0) hx hb dX7_mayLeave_39 (by decide) ?_
      exact kr _ _ _ _ _ _ (grb0 hf) hI ⟨.boolean, rfl, rfl⟩ dX7_mayLeave_40
    · replace hf := gif h5 hf
      refine lv_aload_n hx hb dX7_mayLeave_21 rfl (lv_at hl 0 rfl) ?_
      refine lv_iload_n hx hb dX7_mayLeave_22 rfl (lv_at hl 1 rfl) ?_
      refine lv_aload_n hx hb dX7_mayLeave_23 rfl (lv_at hl 0 rfl) ?_
      refine gt_X7_X7_g hC hI dX7_mayLeave_24 ?_
      refine lv_iconst (v := 0) hx hb dX7_mayLeave_27 (by decide) ?_
      refine g_iald hC hI (k := 0) gIA_151 (by decide) rfl dX7_mayLeave_28 ?_
      obtain ⟨r6, hr7, hf⟩ := gbind hf
      have hr7 := C_X7_floatsAt l E x  hr7
      refine g_callVi (rest := []) hC hI hr7 Y_X7_floatsAt V_X7_floatsAt w1490 (rcv_X7 hC hI) ⟨rfl, rfl⟩ ⟨Nat.le_of_ble_eq_true rfl, Nat.le_of_ble_eq_true rfl⟩ rfl hl.1 rfl (Nat.le_of_ble_eq_true rfl) dX7_mayLeave_29 ⟨Nat.le_of_ble_eq_true rfl, Nat.le_of_ble_eq_true rfl⟩ (fun H locs hI => ?_)
      refine lv_if_eq (tgt := 39) hx hb dX7_mayLeave_32 rfl (fun h8 => ?_) (fun h8 => ?_)
      · replace hf := gif h8 hf
        refine lv_iconst (v := 0) hx hb dX7_mayLeave_39 (by decide) ?_
        exact kr _ _ _ _ _ _ (grb0 hf) hI ⟨.boolean, rfl, rfl⟩ dX7_mayLeave_40
      · replace hf := gifn h8 hf
        refine lv_iconst (v := 1) hx hb dX7_mayLeave_35 (by decide) ?_
        refine lv_goto (tgt := 40) hx hb dX7_mayLeave_36 rfl ?_
        exact kr _ _ _ _ _ _ (grb1 hf) hI ⟨.boolean, rfl, rfl⟩ dX7_mayLeave_40
theorem dX7_leaves_0 : decode cX7_leaves 0 = .ok (.iload_n 1, 1) := by decide +kernel
theorem dX7_leaves_1 : decode cX7_leaves 1 = .ok (.invokestatic 56, 3) := by decide +kernel
theorem dX7_leaves_4 : decode cX7_leaves 4 = .ok (.ifCond .ne 9, 3) := by decide +kernel
theorem dX7_leaves_7 : decode cX7_leaves 7 = .ok (.aload_n 0, 1) := by decide +kernel
theorem dX7_leaves_8 : decode cX7_leaves 8 = .ok (.iconst 1, 1) := by decide +kernel
theorem dX7_leaves_9 : decode cX7_leaves 9 = .ok (.invokevirtual 67, 3) := by decide +kernel
theorem dX7_leaves_12 : decode cX7_leaves 12 = .ok (.ireturn, 1) := by decide +kernel
theorem dX7_leaves_13 : decode cX7_leaves 13 = .ok (.aload_n 0, 1) := by decide +kernel
theorem dX7_leaves_14 : decode cX7_leaves 14 = .ok (.iload_n 1, 1) := by decide +kernel
theorem dX7_leaves_15 : decode cX7_leaves 15 = .ok (.invokevirtual 131, 3) := by decide +kernel
theorem dX7_leaves_18 : decode cX7_leaves 18 = .ok (.ifCond .ne 9, 3) := by decide +kernel
theorem dX7_leaves_21 : decode cX7_leaves 21 = .ok (.aload_n 0, 1) := by decide +kernel
theorem dX7_leaves_22 : decode cX7_leaves 22 = .ok (.iconst 2, 1) := by decide +kernel
theorem dX7_leaves_23 : decode cX7_leaves 23 = .ok (.invokevirtual 67, 3) := by decide +kernel
theorem dX7_leaves_26 : decode cX7_leaves 26 = .ok (.ireturn, 1) := by decide +kernel
theorem dX7_leaves_27 : decode cX7_leaves 27 = .ok (.aload_n 0, 1) := by decide +kernel
theorem dX7_leaves_28 : decode cX7_leaves 28 = .ok (.getfield 7, 3) := by decide +kernel
theorem dX7_leaves_31 : decode cX7_leaves 31 = .ok (.bipush 7, 2) := by decide +kernel
theorem dX7_leaves_33 : decode cX7_leaves 33 = .ok (.iload_n 1, 1) := by decide +kernel
theorem dX7_leaves_34 : decode cX7_leaves 34 = .ok (.iadd, 1) := by decide +kernel
theorem dX7_leaves_35 : decode cX7_leaves 35 = .ok (.iconst 0, 1) := by decide +kernel
theorem dX7_leaves_36 : decode cX7_leaves 36 = .ok (.iastore, 1) := by decide +kernel
theorem dX7_leaves_37 : decode cX7_leaves 37 = .ok (.aload_n 0, 1) := by decide +kernel
theorem dX7_leaves_38 : decode cX7_leaves 38 = .ok (.getfield 7, 3) := by decide +kernel
theorem dX7_leaves_41 : decode cX7_leaves 41 = .ok (.bipush 16, 2) := by decide +kernel
theorem dX7_leaves_43 : decode cX7_leaves 43 = .ok (.iload_n 1, 1) := by decide +kernel
theorem dX7_leaves_44 : decode cX7_leaves 44 = .ok (.iadd, 1) := by decide +kernel
theorem dX7_leaves_45 : decode cX7_leaves 45 = .ok (.iconst 0, 1) := by decide +kernel
theorem dX7_leaves_46 : decode cX7_leaves 46 = .ok (.iastore, 1) := by decide +kernel
theorem dX7_leaves_47 : decode cX7_leaves 47 = .ok (.aload_n 0, 1) := by decide +kernel
theorem dX7_leaves_48 : decode cX7_leaves 48 = .ok (.getfield 7, 3) := by decide +kernel
theorem dX7_leaves_51 : decode cX7_leaves 51 = .ok (.bipush 19, 2) := by decide +kernel
theorem dX7_leaves_53 : decode cX7_leaves 53 = .ok (.iload_n 1, 1) := by decide +kernel
theorem dX7_leaves_54 : decode cX7_leaves 54 = .ok (.iadd, 1) := by decide +kernel
theorem dX7_leaves_55 : decode cX7_leaves 55 = .ok (.iconst 0, 1) := by decide +kernel
theorem dX7_leaves_56 : decode cX7_leaves 56 = .ok (.iastore, 1) := by decide +kernel
theorem dX7_leaves_57 : decode cX7_leaves 57 = .ok (.aload_n 0, 1) := by decide +kernel
theorem dX7_leaves_58 : decode cX7_leaves 58 = .ok (.aload_n 0, 1) := by decide +kernel
theorem dX7_leaves_59 : decode cX7_leaves 59 = .ok (.invokevirtual 71, 3) := by decide +kernel
theorem dX7_leaves_62 : decode cX7_leaves 62 = .ok (.invokevirtual 75, 3) := by decide +kernel
theorem dX7_leaves_65 : decode cX7_leaves 65 = .ok (.ireturn, 1) := by decide +kernel
set_option maxRecDepth 100000 in
set_option maxHeartbeats 4000000 in
theorem C_X7_leaves (l : Launch) (E : gE) (x : gX) {v1 : Int32} {M : gM} {r : Int32} {M' : gM} (hf : f_X7_leaves v1 M = some (r, M')) : gM0 l E yX7_leaves (.code yX7_leaves cX7_leaves 2 (some .int)) (gR 3 66) M x [.ref (E.2.1 150), .int v1] (some (.int r)) M' := by
  refine gMet (by decide +kernel) (Nat.le_of_ble_eq_true rfl) ?_
  intro p e s m args below meth c H locs ls Q hC hl hI kr kv
  replace hC : gC p s m args c cX7_leaves 2 RX7 E := hC
  replace hl : lv_has ls 2 [(0, .ref (E.2.1 150)), (1, .int v1)] := hl
  have hx := hC.1
  have hb := hC.2.1
  unfold f_X7_leaves at hf
  refine lv_iload_n hx hb dX7_leaves_0 rfl (lv_at hl 1 rfl) ?_
  obtain ⟨r1, hr2, hf⟩ := gbind hf
  have hr2 := C_X7_isBerth l E x  hr2
  refine g_callSi (rest := []) hC hI hr2 Y_X7_isBerth S_X7_isBerth w1395 ⟨rfl, rfl⟩ ⟨Nat.le_of_ble_eq_true rfl, Nat.le_of_ble_eq_true rfl⟩ rfl hl.1 rfl (Nat.le_of_ble_eq_true rfl) dX7_leaves_1 ⟨Nat.le_of_ble_eq_true rfl, Nat.le_of_ble_eq_true rfl⟩ (fun H locs hI => ?_)
  refine lv_if_ne (tgt := 13) hx hb dX7_leaves_4 rfl (fun h3 => ?_) (fun h3 => ?_)
  · replace hf := gifn h3 hf
    refine lv_aload_n hx hb dX7_leaves_13 rfl (lv_at hl 0 rfl) ?_
    refine lv_iload_n hx hb dX7_leaves_14 rfl (lv_at hl 1 rfl) ?_
    obtain ⟨r4, hr5, hf⟩ := gbind hf
    have hr5 := C_X7_mayLeave l E x  hr5
    refine g_callVi (rest := []) hC hI hr5 Y_X7_mayLeave V_X7_mayLeave w1482 (rcv_X7 hC hI) ⟨rfl, rfl⟩ ⟨Nat.le_of_ble_eq_true rfl, Nat.le_of_ble_eq_true rfl⟩ rfl hl.1 rfl (Nat.le_of_ble_eq_true rfl) dX7_leaves_15 ⟨Nat.le_of_ble_eq_true rfl, Nat.le_of_ble_eq_true rfl⟩ (fun H locs hI => ?_)
    refine lv_if_ne (tgt := 27) hx hb dX7_leaves_18 rfl (fun h6 => ?_) (fun h6 => ?_)
    · replace hf := gifn h6 hf
      refine lv_aload_n hx hb dX7_leaves_27 rfl (lv_at hl 0 rfl) ?_
      refine gt_X7_X7_g hC hI dX7_leaves_28 ?_
      refine lv_bipush (v := 7) hx hb dX7_leaves_31 (by decide) ?_
      refine lv_iload_n hx hb dX7_leaves_33 rfl (lv_at hl 1 rfl) ?_
      refine lv_iadd hx hb dX7_leaves_34 ?_
      refine lv_iconst (v := 0) hx hb dX7_leaves_35 (by decide) ?_
      obtain ⟨h7, hf⟩ := gifN hf
      obtain ⟨M8, eM8, hf⟩ := glet hf
      refine g_iast hC hI (k := (7 + v1).toNatClampNeg) gIA_151 h7 rfl dX7_leaves_36 (fun H locs hI => ?_)
      replace hI := g_mem eM8 hI
      refine lv_aload_n hx hb dX7_leaves_37 rfl (lv_at hl 0 rfl) ?_
      refine gt_X7_X7_g hC hI dX7_leaves_38 ?_
      refine lv_bipush (v := 16) hx hb dX7_leaves_41 (by decide) ?_
      refine lv_iload_n hx hb dX7_leaves_43 rfl (lv_at hl 1 rfl) ?_
      refine lv_iadd hx hb dX7_leaves_44 ?_
      refine lv_iconst (v := 0) hx hb dX7_leaves_45 (by decide) ?_
      obtain ⟨h9, hf⟩ := gifN hf
      obtain ⟨M10, eM10, hf⟩ := glet hf
      refine g_iast hC hI (k := (16 + v1).toNatClampNeg) gIA_151 h9 rfl dX7_leaves_46 (fun H locs hI => ?_)
      replace hI := g_mem eM10 hI
      refine lv_aload_n hx hb dX7_leaves_47 rfl (lv_at hl 0 rfl) ?_
      refine gt_X7_X7_g hC hI dX7_leaves_48 ?_
      refine lv_bipush (v := 19) hx hb dX7_leaves_51 (by decide) ?_
      refine lv_iload_n hx hb dX7_leaves_53 rfl (lv_at hl 1 rfl) ?_
      refine lv_iadd hx hb dX7_leaves_54 ?_
      refine lv_iconst (v := 0) hx hb dX7_leaves_55 (by decide) ?_
      obtain ⟨h11, hf⟩ := gifN hf
      obtain ⟨M12, eM12, hf⟩ := glet hf
      refine g_iast hC hI (k := (19 + v1).toNatClampNeg) gIA_151 h11 rfl dX7_leaves_56 (fun H locs hI => ?_)
      replace hI := g_mem eM12 hI
      refine lv_aload_n hx hb dX7_leaves_57 rfl (lv_at hl 0 rfl) ?_
      refine lv_aload_n hx hb dX7_leaves_58 rfl (lv_at hl 0 rfl) ?_
      obtain ⟨r13, hr14, hf⟩ := gbind hf
      have hr14 := C_X7_ships l E x  hr14
      refine g_callVi (rest := [.ref (E.2.1 150)]) hC hI hr14 Y_X7_ships V_X7_ships w1405 (rcv_X7 hC hI) ⟨rfl, rfl⟩ ⟨Nat.le_of_ble_eq_true rfl, Nat.le_of_ble_eq_true rfl⟩ rfl hl.1 rfl (Nat.le_of_ble_eq_true rfl) dX7_leaves_59 ⟨Nat.le_of_ble_eq_true rfl, Nat.le_of_ble_eq_true rfl⟩ (fun H locs hI => ?_)
      obtain ⟨r15, hr16, hf⟩ := gbind hf
      have hr16 := C_X7_done l E x  hr16
      refine g_callVi (rest := []) hC hI hr16 Y_X7_done V_X7_done w1409 (rcv_X7 hC hI) ⟨rfl, rfl⟩ ⟨Nat.le_of_ble_eq_true rfl, Nat.le_of_ble_eq_true rfl⟩ rfl hl.1 rfl (Nat.le_of_ble_eq_true rfl) dX7_leaves_62 ⟨Nat.le_of_ble_eq_true rfl, Nat.le_of_ble_eq_true rfl⟩ (fun H locs hI => ?_)
      exact kr _ _ _ _ _ _ (grw hf) hI ⟨.int, rfl, rfl⟩ dX7_leaves_65
    · replace hf := gif h6 hf
      refine lv_aload_n hx hb dX7_leaves_21 rfl (lv_at hl 0 rfl) ?_
      refine lv_iconst (v := 2) hx hb dX7_leaves_22 (by decide) ?_
      obtain ⟨r17, hr18, hf⟩ := gbind hf
      have hr18 := C_X7_fails l E x  hr18
      refine g_callVi (rest := []) hC hI hr18 Y_X7_fails V_X7_fails w1401 (rcv_X7 hC hI) ⟨rfl, rfl⟩ ⟨Nat.le_of_ble_eq_true rfl, Nat.le_of_ble_eq_true rfl⟩ rfl hl.1 rfl (Nat.le_of_ble_eq_true rfl) dX7_leaves_23 ⟨Nat.le_of_ble_eq_true rfl, Nat.le_of_ble_eq_true rfl⟩ (fun H locs hI => ?_)
      exact kr _ _ _ _ _ _ (grw hf) hI ⟨.int, rfl, rfl⟩ dX7_leaves_26
  · replace hf := gif h3 hf
    refine lv_aload_n hx hb dX7_leaves_7 rfl (lv_at hl 0 rfl) ?_
    refine lv_iconst (v := 1) hx hb dX7_leaves_8 (by decide) ?_
    obtain ⟨r19, hr20, hf⟩ := gbind hf
    have hr20 := C_X7_fails l E x  hr20
    refine g_callVi (rest := []) hC hI hr20 Y_X7_fails V_X7_fails w1401 (rcv_X7 hC hI) ⟨rfl, rfl⟩ ⟨Nat.le_of_ble_eq_true rfl, Nat.le_of_ble_eq_true rfl⟩ rfl hl.1 rfl (Nat.le_of_ble_eq_true rfl) dX7_leaves_9 ⟨Nat.le_of_ble_eq_true rfl, Nat.le_of_ble_eq_true rfl⟩ (fun H locs hI => ?_)
    exact kr _ _ _ _ _ _ (grw hf) hI ⟨.int, rfl, rfl⟩ dX7_leaves_12
theorem dX7_leave_0 : decode cX7_leave 0 = .ok (.aload_n 0, 1) := by decide +kernel
theorem dX7_leave_1 : decode cX7_leave 1 = .ok (.invokevirtual 78, 3) := by decide +kernel
theorem dX7_leave_4 : decode cX7_leave 4 = .ok (.aload_n 0, 1) := by decide +kernel
theorem dX7_leave_5 : decode cX7_leave 5 = .ok (.aload_n 0, 1) := by decide +kernel
theorem dX7_leave_6 : decode cX7_leave 6 = .ok (.iload_n 1, 1) := by decide +kernel
theorem dX7_leave_7 : decode cX7_leave 7 = .ok (.invokevirtual 134, 3) := by decide +kernel
theorem dX7_leave_10 : decode cX7_leave 10 = .ok (.invokevirtual 85, 3) := by decide +kernel
theorem dX7_leave_13 : decode cX7_leave 13 = .ok (.ireturn, 1) := by decide +kernel
set_option maxRecDepth 100000 in
set_option maxHeartbeats 4000000 in
theorem C_X7_leave (l : Launch) (E : gE) (x : gX) {v1 : Int32} {M : gM} {r : Int32} {M' : gM} (hf : f_X7_leave v1 M = some (r, M')) : gM0 l E yX7_leave (.code yX7_leave cX7_leave 2 (some .int)) (gR 4 87) M x [.ref (E.2.1 150), .int v1] (some (.int r)) M' := by
  refine gMet (by decide +kernel) (Nat.le_of_ble_eq_true rfl) ?_
  intro p e s m args below meth c H locs ls Q hC hl hI kr kv
  replace hC : gC p s m args c cX7_leave 2 RX7 E := hC
  replace hl : lv_has ls 2 [(0, .ref (E.2.1 150)), (1, .int v1)] := hl
  have hx := hC.1
  have hb := hC.2.1
  unfold f_X7_leave at hf
  refine lv_aload_n hx hb dX7_leave_0 rfl (lv_at hl 0 rfl) ?_
  obtain ⟨r1, hr2, hf⟩ := gbind hf
  have hr2 := C_X7_begin l E x  hr2
  refine g_callVv (rest := []) hC hI hr2 Y_X7_begin V_X7_begin w1384 (rcv_X7 hC hI) ⟨rfl, rfl⟩ ⟨Nat.le_of_ble_eq_true rfl, Nat.le_of_ble_eq_true rfl⟩ rfl hl.1 rfl (Nat.le_of_ble_eq_true rfl) dX7_leave_1 ⟨Nat.le_of_ble_eq_true rfl, Nat.le_of_ble_eq_true rfl⟩ (fun H locs hI => ?_)
  refine lv_aload_n hx hb dX7_leave_4 rfl (lv_at hl 0 rfl) ?_
  refine lv_aload_n hx hb dX7_leave_5 rfl (lv_at hl 0 rfl) ?_
  refine lv_iload_n hx hb dX7_leave_6 rfl (lv_at hl 1 rfl) ?_
  obtain ⟨r3, hr4, hf⟩ := gbind hf
  have hr4 := C_X7_leaves l E x  hr4
  refine g_callVi (rest := [.ref (E.2.1 150)]) hC hI hr4 Y_X7_leaves V_X7_leaves w1478 (rcv_X7 hC hI) ⟨rfl, rfl⟩ ⟨Nat.le_of_ble_eq_true rfl, Nat.le_of_ble_eq_true rfl⟩ rfl hl.1 rfl (Nat.le_of_ble_eq_true rfl) dX7_leave_7 ⟨Nat.le_of_ble_eq_true rfl, Nat.le_of_ble_eq_true rfl⟩ (fun H locs hI => ?_)
  obtain ⟨r5, hr6, hf⟩ := gbind hf
  have hr6 := C_X7_kept l E x  hr6
  refine g_callVi (rest := []) hC hI hr6 Y_X7_kept V_X7_kept w1413 (rcv_X7 hC hI) ⟨rfl, rfl⟩ ⟨Nat.le_of_ble_eq_true rfl, Nat.le_of_ble_eq_true rfl⟩ rfl hl.1 rfl (Nat.le_of_ble_eq_true rfl) dX7_leave_10 ⟨Nat.le_of_ble_eq_true rfl, Nat.le_of_ble_eq_true rfl⟩ (fun H locs hI => ?_)
  exact kr _ _ _ _ _ _ (grw hf) hI ⟨.int, rfl, rfl⟩ dX7_leave_13
theorem dX7_passesHour_0 : decode cX7_passesHour 0 = .ok (.aload_n 0, 1) := by decide +kernel
theorem dX7_passesHour_1 : decode cX7_passesHour 1 = .ok (.getfield 7, 3) := by decide +kernel
theorem dX7_passesHour_4 : decode cX7_passesHour 4 = .ok (.iconst 0, 1) := by decide +kernel
theorem dX7_passesHour_5 : decode cX7_passesHour 5 = .ok (.dup2, 1) := by decide +kernel
theorem dX7_passesHour_6 : decode cX7_passesHour 6 = .ok (.iaload, 1) := by decide +kernel
theorem dX7_passesHour_7 : decode cX7_passesHour 7 = .ok (.iconst 1, 1) := by decide +kernel
theorem dX7_passesHour_8 : decode cX7_passesHour 8 = .ok (.iadd, 1) := by decide +kernel
theorem dX7_passesHour_9 : decode cX7_passesHour 9 = .ok (.iastore, 1) := by decide +kernel
theorem dX7_passesHour_10 : decode cX7_passesHour 10 = .ok (.iconst 0, 1) := by decide +kernel
theorem dX7_passesHour_11 : decode cX7_passesHour 11 = .ok (.istore_n 1, 1) := by decide +kernel
theorem dX7_passesHour_12 : decode cX7_passesHour 12 = .ok (.iload_n 1, 1) := by decide +kernel
theorem dX7_passesHour_13 : decode cX7_passesHour 13 = .ok (.iconst 3, 1) := by decide +kernel
theorem dX7_passesHour_14 : decode cX7_passesHour 14 = .ok (.if_icmp .ge 99, 3) := by decide +kernel
theorem dX7_passesHour_17 : decode cX7_passesHour 17 = .ok (.aload_n 0, 1) := by decide +kernel
theorem dX7_passesHour_18 : decode cX7_passesHour 18 = .ok (.getfield 7, 3) := by decide +kernel
theorem dX7_passesHour_21 : decode cX7_passesHour 21 = .ok (.bipush 19, 2) := by decide +kernel
theorem dX7_passesHour_23 : decode cX7_passesHour 23 = .ok (.iload_n 1, 1) := by decide +kernel
theorem dX7_passesHour_24 : decode cX7_passesHour 24 = .ok (.iadd, 1) := by decide +kernel
theorem dX7_passesHour_25 : decode cX7_passesHour 25 = .ok (.dup2, 1) := by decide +kernel
theorem dX7_passesHour_26 : decode cX7_passesHour 26 = .ok (.iaload, 1) := by decide +kernel
theorem dX7_passesHour_27 : decode cX7_passesHour 27 = .ok (.aload_n 0, 1) := by decide +kernel
theorem dX7_passesHour_28 : decode cX7_passesHour 28 = .ok (.getfield 7, 3) := by decide +kernel
theorem dX7_passesHour_31 : decode cX7_passesHour 31 = .ok (.bipush 19, 2) := by decide +kernel
theorem dX7_passesHour_33 : decode cX7_passesHour 33 = .ok (.iload_n 1, 1) := by decide +kernel
theorem dX7_passesHour_34 : decode cX7_passesHour 34 = .ok (.iadd, 1) := by decide +kernel
theorem dX7_passesHour_35 : decode cX7_passesHour 35 = .ok (.iaload, 1) := by decide +kernel
theorem dX7_passesHour_36 : decode cX7_passesHour 36 = .ok (.ifCond .le 7, 3) := by decide +kernel
theorem dX7_passesHour_39 : decode cX7_passesHour 39 = .ok (.iconst 1, 1) := by decide +kernel
theorem dX7_passesHour_40 : decode cX7_passesHour 40 = .ok (.goto 4, 3) := by decide +kernel
theorem dX7_passesHour_43 : decode cX7_passesHour 43 = .ok (.iconst 0, 1) := by decide +kernel
theorem dX7_passesHour_44 : decode cX7_passesHour 44 = .ok (.isub, 1) := by decide +kernel
theorem dX7_passesHour_45 : decode cX7_passesHour 45 = .ok (.iastore, 1) := by decide +kernel
theorem dX7_passesHour_46 : decode cX7_passesHour 46 = .ok (.aload_n 0, 1) := by decide +kernel
theorem dX7_passesHour_47 : decode cX7_passesHour 47 = .ok (.getfield 7, 3) := by decide +kernel
theorem dX7_passesHour_50 : decode cX7_passesHour 50 = .ok (.bipush 7, 2) := by decide +kernel
theorem dX7_passesHour_52 : decode cX7_passesHour 52 = .ok (.iload_n 1, 1) := by decide +kernel
theorem dX7_passesHour_53 : decode cX7_passesHour 53 = .ok (.iadd, 1) := by decide +kernel
theorem dX7_passesHour_54 : decode cX7_passesHour 54 = .ok (.iaload, 1) := by decide +kernel
theorem dX7_passesHour_55 : decode cX7_passesHour 55 = .ok (.iconst 1, 1) := by decide +kernel
theorem dX7_passesHour_56 : decode cX7_passesHour 56 = .ok (.if_icmp .ne 25, 3) := by decide +kernel
theorem dX7_passesHour_59 : decode cX7_passesHour 59 = .ok (.aload_n 0, 1) := by decide +kernel
theorem dX7_passesHour_60 : decode cX7_passesHour 60 = .ok (.getfield 7, 3) := by decide +kernel
theorem dX7_passesHour_63 : decode cX7_passesHour 63 = .ok (.bipush 13, 2) := by decide +kernel
theorem dX7_passesHour_65 : decode cX7_passesHour 65 = .ok (.iload_n 1, 1) := by decide +kernel
theorem dX7_passesHour_66 : decode cX7_passesHour 66 = .ok (.iadd, 1) := by decide +kernel
theorem dX7_passesHour_67 : decode cX7_passesHour 67 = .ok (.iaload, 1) := by decide +kernel
theorem dX7_passesHour_68 : decode cX7_passesHour 68 = .ok (.aload_n 0, 1) := by decide +kernel
theorem dX7_passesHour_69 : decode cX7_passesHour 69 = .ok (.getfield 7, 3) := by decide +kernel
theorem dX7_passesHour_72 : decode cX7_passesHour 72 = .ok (.iconst 0, 1) := by decide +kernel
theorem dX7_passesHour_73 : decode cX7_passesHour 73 = .ok (.iaload, 1) := by decide +kernel
theorem dX7_passesHour_74 : decode cX7_passesHour 74 = .ok (.if_icmp .ge 7, 3) := by decide +kernel
theorem dX7_passesHour_77 : decode cX7_passesHour 77 = .ok (.iconst 1, 1) := by decide +kernel
theorem dX7_passesHour_78 : decode cX7_passesHour 78 = .ok (.goto 4, 3) := by decide +kernel
theorem dX7_passesHour_81 : decode cX7_passesHour 81 = .ok (.iconst 0, 1) := by decide +kernel
theorem dX7_passesHour_82 : decode cX7_passesHour 82 = .ok (.istore_n 2, 1) := by decide +kernel
theorem dX7_passesHour_83 : decode cX7_passesHour 83 = .ok (.aload_n 0, 1) := by decide +kernel
theorem dX7_passesHour_84 : decode cX7_passesHour 84 = .ok (.getfield 7, 3) := by decide +kernel
theorem dX7_passesHour_87 : decode cX7_passesHour 87 = .ok (.iconst 2, 1) := by decide +kernel
theorem dX7_passesHour_88 : decode cX7_passesHour 88 = .ok (.dup2, 1) := by decide +kernel
theorem dX7_passesHour_89 : decode cX7_passesHour 89 = .ok (.iaload, 1) := by decide +kernel
theorem dX7_passesHour_90 : decode cX7_passesHour 90 = .ok (.iload_n 2, 1) := by decide +kernel
theorem dX7_passesHour_91 : decode cX7_passesHour 91 = .ok (.ifCond .eq 13, 3) := by decide +kernel
theorem dX7_passesHour_94 : decode cX7_passesHour 94 = .ok (.iconst 1, 1) := by decide +kernel
theorem dX7_passesHour_95 : decode cX7_passesHour 95 = .ok (.aload_n 0, 1) := by decide +kernel
theorem dX7_passesHour_96 : decode cX7_passesHour 96 = .ok (.iload_n 1, 1) := by decide +kernel
theorem dX7_passesHour_97 : decode cX7_passesHour 97 = .ok (.invokevirtual 125, 3) := by decide +kernel
theorem dX7_passesHour_100 : decode cX7_passesHour 100 = .ok (.iadd, 1) := by decide +kernel
theorem dX7_passesHour_101 : decode cX7_passesHour 101 = .ok (.goto 4, 3) := by decide +kernel
theorem dX7_passesHour_104 : decode cX7_passesHour 104 = .ok (.iconst 0, 1) := by decide +kernel
theorem dX7_passesHour_105 : decode cX7_passesHour 105 = .ok (.iadd, 1) := by decide +kernel
theorem dX7_passesHour_106 : decode cX7_passesHour 106 = .ok (.iastore, 1) := by decide +kernel
theorem dX7_passesHour_107 : decode cX7_passesHour 107 = .ok (.iinc 1 1, 3) := by decide +kernel
theorem dX7_passesHour_110 : decode cX7_passesHour 110 = .ok (.goto (-98), 3) := by decide +kernel
theorem dX7_passesHour_113 : decode cX7_passesHour 113 = .ok (.return_, 1) := by decide +kernel
set_option maxRecDepth 100000 in
set_option maxHeartbeats 4000000 in
theorem C_X7_passesHour (l : Launch) (E : gE) (x : gX) {M : gM} {M' : gM} (hf : f_X7_passesHour M = some M') : gM0 l E yX7_passesHour (.code yX7_passesHour cX7_passesHour 3 none) (gR 2 45) M x [.ref (E.2.1 150)] none M' := by
  refine gMet (by decide +kernel) (Nat.le_of_ble_eq_true rfl) ?_
  intro p e s m args below meth c H locs ls Q hC hl hI kr kv
  replace hC : gC p s m args c cX7_passesHour 3 RX7 E := hC
  replace hl : lv_has ls 3 [(0, .ref (E.2.1 150))] := hl
  have hx := hC.1
  have hb := hC.2.1
  have L12 : ∀ (n : Nat) (v1 : Int32) (M : gM), f_X7_passesHour_L12  n v1 M = some M' → ∀ (H : Heap) (locs : List Loc) (ls : Array Slot), gI E s M x H locs → lv_has ls 3 [(1, .int v1), (0, .ref (E.2.1 150))] → W p l e (gR 2 45) s m args below meth c H locs 0 0 Q (F0 m 12 ls []) := by
    intro  n
    induction n with
    | zero => intro v1 M hf; rw [f_X7_passesHour_L12] at hf; cases hf
    | succ n ih =>
      intro v1 M hf H locs ls hI hl
      rw [f_X7_passesHour_L12] at hf
      refine lv_iload_n hx hb dX7_passesHour_12 rfl (lv_at hl 0 rfl) ?_
      refine lv_iconst (v := 3) hx hb dX7_passesHour_13 (by decide) ?_
      refine lv_icmp_ge (tgt := 113) hx hb dX7_passesHour_14 rfl (fun h2 => ?_) (fun h2 => ?_)
      · replace hf := gif h2 hf
        exact kv _ _ _ _ _ (grv hf) hI rfl dX7_passesHour_113
      · replace hf := gifn h2 hf
        refine lv_aload_n hx hb dX7_passesHour_17 rfl (lv_at hl 1 rfl) ?_
        refine gt_X7_X7_g hC hI dX7_passesHour_18 ?_
        refine lv_bipush (v := 19) hx hb dX7_passesHour_21 (by decide) ?_
        refine lv_iload_n hx hb dX7_passesHour_23 rfl (lv_at hl 0 rfl) ?_
        refine lv_iadd hx hb dX7_passesHour_24 ?_
        refine lv_dup2_11 hx hb dX7_passesHour_25 rfl rfl ?_
        obtain ⟨h3, hf⟩ := gifN hf
        refine g_iald hC hI (k := (19 + v1).toNatClampNeg) gIA_151 h3 rfl dX7_passesHour_26 ?_
        refine lv_aload_n hx hb dX7_passesHour_27 rfl (lv_at hl 1 rfl) ?_
        refine gt_X7_X7_g hC hI dX7_passesHour_28 ?_
        refine lv_bipush (v := 19) hx hb dX7_passesHour_31 (by decide) ?_
        refine lv_iload_n hx hb dX7_passesHour_33 rfl (lv_at hl 0 rfl) ?_
        refine lv_iadd hx hb dX7_passesHour_34 ?_
        obtain ⟨h4, hf⟩ := gifN hf
        refine g_iald hC hI (k := (19 + v1).toNatClampNeg) gIA_151 h4 rfl dX7_passesHour_35 ?_
        refine lv_if_le (tgt := 43) hx hb dX7_passesHour_36 rfl (fun h5 => ?_) (fun h5 => ?_)
        · replace hf := gif h5 hf
          refine lv_iconst (v := 0) hx hb dX7_passesHour_43 (by decide) ?_
          refine lv_isub hx hb dX7_passesHour_44 ?_
          obtain ⟨h6, hf⟩ := gifN hf
          obtain ⟨M7, eM7, hf⟩ := glet hf
          refine g_iast hC hI (k := (19 + v1).toNatClampNeg) gIA_151 h6 rfl dX7_passesHour_45 (fun H locs hI => ?_)
          replace hI := g_mem eM7 hI
          refine lv_aload_n hx hb dX7_passesHour_46 rfl (lv_at hl 1 rfl) ?_
          refine gt_X7_X7_g hC hI dX7_passesHour_47 ?_
          refine lv_bipush (v := 7) hx hb dX7_passesHour_50 (by decide) ?_
          refine lv_iload_n hx hb dX7_passesHour_52 rfl (lv_at hl 0 rfl) ?_
          refine lv_iadd hx hb dX7_passesHour_53 ?_
          obtain ⟨h8, hf⟩ := gifN hf
          refine g_iald hC hI (k := (7 + v1).toNatClampNeg) gIA_151 h8 rfl dX7_passesHour_54 ?_
          refine lv_iconst (v := 1) hx hb dX7_passesHour_55 (by decide) ?_
          refine lv_icmp_ne (tgt := 81) hx hb dX7_passesHour_56 rfl (fun h9 => ?_) (fun h9 => ?_)
          · replace hf := gifn h9 hf
            refine lv_iconst (v := 0) hx hb dX7_passesHour_81 (by decide) ?_
            refine lv_istore_n (lv' := [(2, .int 0), (1, .int v1), (0, .ref (E.2.1 150))]) hx hb dX7_passesHour_82 rfl hl (by decide) rfl (fun ls hl => ?_)
            refine lv_aload_n hx hb dX7_passesHour_83 rfl (lv_at hl 2 rfl) ?_
            refine gt_X7_X7_g hC hI dX7_passesHour_84 ?_
            refine lv_iconst (v := 2) hx hb dX7_passesHour_87 (by decide) ?_
            refine lv_dup2_11 hx hb dX7_passesHour_88 rfl rfl ?_
            refine g_iald hC hI (k := 2) gIA_151 (by decide) rfl dX7_passesHour_89 ?_
            refine lv_iload_n hx hb dX7_passesHour_90 rfl (lv_at hl 0 rfl) ?_
            refine lv_if_eq (tgt := 104) hx hb dX7_passesHour_91 rfl (fun h10 => ?_) (fun h10 => absurd (by decide) h10)
            refine lv_iconst (v := 0) hx hb dX7_passesHour_104 (by decide) ?_
            refine lv_iadd hx hb dX7_passesHour_105 ?_
            obtain ⟨M11, eM11, hf⟩ := glet hf
            refine g_iast hC hI (k := 2) gIA_151 (by decide) rfl dX7_passesHour_106 (fun H locs hI => ?_)
            replace hI := g_mem eM11 hI
            refine lv_iinc (k := 1) (v := v1 + 1) (lv' := [(1, .int (v1 + 1)), (2, .int 0), (0, .ref (E.2.1 150))]) hx hb dX7_passesHour_107 hl rfl rfl (by decide) rfl (fun ls hl => ?_)
            refine lv_goto (tgt := 12) hx hb dX7_passesHour_110 rfl ?_
            exact ih (v1 + 1) M11 hf _ _ _ hI (lv_sub hl [0, 2] rfl)
          · replace hf := gif h9 hf
            refine lv_aload_n hx hb dX7_passesHour_59 rfl (lv_at hl 1 rfl) ?_
            refine gt_X7_X7_g hC hI dX7_passesHour_60 ?_
            refine lv_bipush (v := 13) hx hb dX7_passesHour_63 (by decide) ?_
            refine lv_iload_n hx hb dX7_passesHour_65 rfl (lv_at hl 0 rfl) ?_
            refine lv_iadd hx hb dX7_passesHour_66 ?_
            obtain ⟨h12, hf⟩ := gifN hf
            refine g_iald hC hI (k := (13 + v1).toNatClampNeg) gIA_151 h12 rfl dX7_passesHour_67 ?_
            refine lv_aload_n hx hb dX7_passesHour_68 rfl (lv_at hl 1 rfl) ?_
            refine gt_X7_X7_g hC hI dX7_passesHour_69 ?_
            refine lv_iconst (v := 0) hx hb dX7_passesHour_72 (by decide) ?_
            refine g_iald hC hI (k := 0) gIA_151 (by decide) rfl dX7_passesHour_73 ?_
            refine lv_icmp_ge (tgt := 81) hx hb dX7_passesHour_74 rfl (fun h13 => ?_) (fun h13 => ?_)
            · replace hf := gif h13 hf
              refine lv_iconst (v := 0) hx hb dX7_passesHour_81 (by decide) ?_
              refine lv_istore_n (lv' := [(2, .int 0), (1, .int v1), (0, .ref (E.2.1 150))]) hx hb dX7_passesHour_82 rfl hl (by decide) rfl (fun ls hl => ?_)
              refine lv_aload_n hx hb dX7_passesHour_83 rfl (lv_at hl 2 rfl) ?_
              refine gt_X7_X7_g hC hI dX7_passesHour_84 ?_
              refine lv_iconst (v := 2) hx hb dX7_passesHour_87 (by decide) ?_
              refine lv_dup2_11 hx hb dX7_passesHour_88 rfl rfl ?_
              refine g_iald hC hI (k := 2) gIA_151 (by decide) rfl dX7_passesHour_89 ?_
              refine lv_iload_n hx hb dX7_passesHour_90 rfl (lv_at hl 0 rfl) ?_
              refine lv_if_eq (tgt := 104) hx hb dX7_passesHour_91 rfl (fun h14 => ?_) (fun h14 => absurd (by decide) h14)
              refine lv_iconst (v := 0) hx hb dX7_passesHour_104 (by decide) ?_
              refine lv_iadd hx hb dX7_passesHour_105 ?_
              obtain ⟨M15, eM15, hf⟩ := glet hf
              refine g_iast hC hI (k := 2) gIA_151 (by decide) rfl dX7_passesHour_106 (fun H locs hI => ?_)
              replace hI := g_mem eM15 hI
              refine lv_iinc (k := 1) (v := v1 + 1) (lv' := [(1, .int (v1 + 1)), (2, .int 0), (0, .ref (E.2.1 150))]) hx hb dX7_passesHour_107 hl rfl rfl (by decide) rfl (fun ls hl => ?_)
              refine lv_goto (tgt := 12) hx hb dX7_passesHour_110 rfl ?_
              exact ih (v1 + 1) M15 hf _ _ _ hI (lv_sub hl [0, 2] rfl)
            · replace hf := gifn h13 hf
              refine lv_iconst (v := 1) hx hb dX7_passesHour_77 (by decide) ?_
              refine lv_goto (tgt := 82) hx hb dX7_passesHour_78 rfl ?_
              refine lv_istore_n (lv' := [(2, .int 1), (1, .int v1), (0, .ref (E.2.1 150))]) hx hb dX7_passesHour_82 rfl hl (by decide) rfl (fun ls hl => ?_)
              refine lv_aload_n hx hb dX7_passesHour_83 rfl (lv_at hl 2 rfl) ?_
              refine gt_X7_X7_g hC hI dX7_passesHour_84 ?_
              refine lv_iconst (v := 2) hx hb dX7_passesHour_87 (by decide) ?_
              refine lv_dup2_11 hx hb dX7_passesHour_88 rfl rfl ?_
              refine g_iald hC hI (k := 2) gIA_151 (by decide) rfl dX7_passesHour_89 ?_
              refine lv_iload_n hx hb dX7_passesHour_90 rfl (lv_at hl 0 rfl) ?_
              refine lv_if_eq (tgt := 104) hx hb dX7_passesHour_91 rfl (fun h16 => absurd h16 (by decide)) (fun h16 => ?_)
              refine lv_iconst (v := 1) hx hb dX7_passesHour_94 (by decide) ?_
              refine lv_aload_n hx hb dX7_passesHour_95 rfl (lv_at hl 2 rfl) ?_
              refine lv_iload_n hx hb dX7_passesHour_96 rfl (lv_at hl 1 rfl) ?_
              obtain ⟨r17, hr18, hf⟩ := gbind hf
              have hr18 := C_X7_load l E x  hr18
              refine g_callVi (rest := [.int 1, .int (M7 151 2), .int 2, .ref (E.2.1 151)]) hC hI hr18 Y_X7_load V_X7_load w1486 (rcv_X7 hC hI) ⟨rfl, rfl⟩ ⟨Nat.le_of_ble_eq_true rfl, Nat.le_of_ble_eq_true rfl⟩ rfl hl.1 rfl (Nat.le_of_ble_eq_true rfl) dX7_passesHour_97 ⟨Nat.le_of_ble_eq_true rfl, Nat.le_of_ble_eq_true rfl⟩ (fun H locs hI => ?_)
              refine lv_iadd hx hb dX7_passesHour_100 ?_
              refine lv_goto (tgt := 105) hx hb dX7_passesHour_101 rfl ?_
              refine lv_iadd hx hb dX7_passesHour_105 ?_
              obtain ⟨M19, eM19, hf⟩ := glet hf
              refine g_iast hC hI (k := 2) gIA_151 (by decide) rfl dX7_passesHour_106 (fun H locs hI => ?_)
              replace hI := g_mem eM19 hI
              refine lv_iinc (k := 1) (v := v1 + 1) (lv' := [(1, .int (v1 + 1)), (2, .int 1), (0, .ref (E.2.1 150))]) hx hb dX7_passesHour_107 hl rfl rfl (by decide) rfl (fun ls hl => ?_)
              refine lv_goto (tgt := 12) hx hb dX7_passesHour_110 rfl ?_
              exact ih (v1 + 1) M19 hf _ _ _ hI (lv_sub hl [0, 2] rfl)
        · replace hf := gifn h5 hf
          refine lv_iconst (v := 1) hx hb dX7_passesHour_39 (by decide) ?_
          refine lv_goto (tgt := 44) hx hb dX7_passesHour_40 rfl ?_
          refine lv_isub hx hb dX7_passesHour_44 ?_
          obtain ⟨h20, hf⟩ := gifN hf
          obtain ⟨M21, eM21, hf⟩ := glet hf
          refine g_iast hC hI (k := (19 + v1).toNatClampNeg) gIA_151 h20 rfl dX7_passesHour_45 (fun H locs hI => ?_)
          replace hI := g_mem eM21 hI
          refine lv_aload_n hx hb dX7_passesHour_46 rfl (lv_at hl 1 rfl) ?_
          refine gt_X7_X7_g hC hI dX7_passesHour_47 ?_
          refine lv_bipush (v := 7) hx hb dX7_passesHour_50 (by decide) ?_
          refine lv_iload_n hx hb dX7_passesHour_52 rfl (lv_at hl 0 rfl) ?_
          refine lv_iadd hx hb dX7_passesHour_53 ?_
          obtain ⟨h22, hf⟩ := gifN hf
          refine g_iald hC hI (k := (7 + v1).toNatClampNeg) gIA_151 h22 rfl dX7_passesHour_54 ?_
          refine lv_iconst (v := 1) hx hb dX7_passesHour_55 (by decide) ?_
          refine lv_icmp_ne (tgt := 81) hx hb dX7_passesHour_56 rfl (fun h23 => ?_) (fun h23 => ?_)
          · replace hf := gifn h23 hf
            refine lv_iconst (v := 0) hx hb dX7_passesHour_81 (by decide) ?_
            refine lv_istore_n (lv' := [(2, .int 0), (1, .int v1), (0, .ref (E.2.1 150))]) hx hb dX7_passesHour_82 rfl hl (by decide) rfl (fun ls hl => ?_)
            refine lv_aload_n hx hb dX7_passesHour_83 rfl (lv_at hl 2 rfl) ?_
            refine gt_X7_X7_g hC hI dX7_passesHour_84 ?_
            refine lv_iconst (v := 2) hx hb dX7_passesHour_87 (by decide) ?_
            refine lv_dup2_11 hx hb dX7_passesHour_88 rfl rfl ?_
            refine g_iald hC hI (k := 2) gIA_151 (by decide) rfl dX7_passesHour_89 ?_
            refine lv_iload_n hx hb dX7_passesHour_90 rfl (lv_at hl 0 rfl) ?_
            refine lv_if_eq (tgt := 104) hx hb dX7_passesHour_91 rfl (fun h24 => ?_) (fun h24 => absurd (by decide) h24)
            refine lv_iconst (v := 0) hx hb dX7_passesHour_104 (by decide) ?_
            refine lv_iadd hx hb dX7_passesHour_105 ?_
            obtain ⟨M25, eM25, hf⟩ := glet hf
            refine g_iast hC hI (k := 2) gIA_151 (by decide) rfl dX7_passesHour_106 (fun H locs hI => ?_)
            replace hI := g_mem eM25 hI
            refine lv_iinc (k := 1) (v := v1 + 1) (lv' := [(1, .int (v1 + 1)), (2, .int 0), (0, .ref (E.2.1 150))]) hx hb dX7_passesHour_107 hl rfl rfl (by decide) rfl (fun ls hl => ?_)
            refine lv_goto (tgt := 12) hx hb dX7_passesHour_110 rfl ?_
            exact ih (v1 + 1) M25 hf _ _ _ hI (lv_sub hl [0, 2] rfl)
          · replace hf := gif h23 hf
            refine lv_aload_n hx hb dX7_passesHour_59 rfl (lv_at hl 1 rfl) ?_
            refine gt_X7_X7_g hC hI dX7_passesHour_60 ?_
            refine lv_bipush (v := 13) hx hb dX7_passesHour_63 (by decide) ?_
            refine lv_iload_n hx hb dX7_passesHour_65 rfl (lv_at hl 0 rfl) ?_
            refine lv_iadd hx hb dX7_passesHour_66 ?_
            obtain ⟨h26, hf⟩ := gifN hf
            refine g_iald hC hI (k := (13 + v1).toNatClampNeg) gIA_151 h26 rfl dX7_passesHour_67 ?_
            refine lv_aload_n hx hb dX7_passesHour_68 rfl (lv_at hl 1 rfl) ?_
            refine gt_X7_X7_g hC hI dX7_passesHour_69 ?_
            refine lv_iconst (v := 0) hx hb dX7_passesHour_72 (by decide) ?_
            refine g_iald hC hI (k := 0) gIA_151 (by decide) rfl dX7_passesHour_73 ?_
            refine lv_icmp_ge (tgt := 81) hx hb dX7_passesHour_74 rfl (fun h27 => ?_) (fun h27 => ?_)
            · replace hf := gif h27 hf
              refine lv_iconst (v := 0) hx hb dX7_passesHour_81 (by decide) ?_
              refine lv_istore_n (lv' := [(2, .int 0), (1, .int v1), (0, .ref (E.2.1 150))]) hx hb dX7_passesHour_82 rfl hl (by decide) rfl (fun ls hl => ?_)
              refine lv_aload_n hx hb dX7_passesHour_83 rfl (lv_at hl 2 rfl) ?_
              refine gt_X7_X7_g hC hI dX7_passesHour_84 ?_
              refine lv_iconst (v := 2) hx hb dX7_passesHour_87 (by decide) ?_
              refine lv_dup2_11 hx hb dX7_passesHour_88 rfl rfl ?_
              refine g_iald hC hI (k := 2) gIA_151 (by decide) rfl dX7_passesHour_89 ?_
              refine lv_iload_n hx hb dX7_passesHour_90 rfl (lv_at hl 0 rfl) ?_
              refine lv_if_eq (tgt := 104) hx hb dX7_passesHour_91 rfl (fun h28 => ?_) (fun h28 => absurd (by decide) h28)
              refine lv_iconst (v := 0) hx hb dX7_passesHour_104 (by decide) ?_
              refine lv_iadd hx hb dX7_passesHour_105 ?_
              obtain ⟨M29, eM29, hf⟩ := glet hf
              refine g_iast hC hI (k := 2) gIA_151 (by decide) rfl dX7_passesHour_106 (fun H locs hI => ?_)
              replace hI := g_mem eM29 hI
              refine lv_iinc (k := 1) (v := v1 + 1) (lv' := [(1, .int (v1 + 1)), (2, .int 0), (0, .ref (E.2.1 150))]) hx hb dX7_passesHour_107 hl rfl rfl (by decide) rfl (fun ls hl => ?_)
              refine lv_goto (tgt := 12) hx hb dX7_passesHour_110 rfl ?_
              exact ih (v1 + 1) M29 hf _ _ _ hI (lv_sub hl [0, 2] rfl)
            · replace hf := gifn h27 hf
              refine lv_iconst (v := 1) hx hb dX7_passesHour_77 (by decide) ?_
              refine lv_goto (tgt := 82) hx hb dX7_passesHour_78 rfl ?_
              refine lv_istore_n (lv' := [(2, .int 1), (1, .int v1), (0, .ref (E.2.1 150))]) hx hb dX7_passesHour_82 rfl hl (by decide) rfl (fun ls hl => ?_)
              refine lv_aload_n hx hb dX7_passesHour_83 rfl (lv_at hl 2 rfl) ?_
              refine gt_X7_X7_g hC hI dX7_passesHour_84 ?_
              refine lv_iconst (v := 2) hx hb dX7_passesHour_87 (by decide) ?_
              refine lv_dup2_11 hx hb dX7_passesHour_88 rfl rfl ?_
              refine g_iald hC hI (k := 2) gIA_151 (by decide) rfl dX7_passesHour_89 ?_
              refine lv_iload_n hx hb dX7_passesHour_90 rfl (lv_at hl 0 rfl) ?_
              refine lv_if_eq (tgt := 104) hx hb dX7_passesHour_91 rfl (fun h30 => absurd h30 (by decide)) (fun h30 => ?_)
              refine lv_iconst (v := 1) hx hb dX7_passesHour_94 (by decide) ?_
              refine lv_aload_n hx hb dX7_passesHour_95 rfl (lv_at hl 2 rfl) ?_
              refine lv_iload_n hx hb dX7_passesHour_96 rfl (lv_at hl 1 rfl) ?_
              obtain ⟨r31, hr32, hf⟩ := gbind hf
              have hr32 := C_X7_load l E x  hr32
              refine g_callVi (rest := [.int 1, .int (M21 151 2), .int 2, .ref (E.2.1 151)]) hC hI hr32 Y_X7_load V_X7_load w1486 (rcv_X7 hC hI) ⟨rfl, rfl⟩ ⟨Nat.le_of_ble_eq_true rfl, Nat.le_of_ble_eq_true rfl⟩ rfl hl.1 rfl (Nat.le_of_ble_eq_true rfl) dX7_passesHour_97 ⟨Nat.le_of_ble_eq_true rfl, Nat.le_of_ble_eq_true rfl⟩ (fun H locs hI => ?_)
              refine lv_iadd hx hb dX7_passesHour_100 ?_
              refine lv_goto (tgt := 105) hx hb dX7_passesHour_101 rfl ?_
              refine lv_iadd hx hb dX7_passesHour_105 ?_
              obtain ⟨M33, eM33, hf⟩ := glet hf
              refine g_iast hC hI (k := 2) gIA_151 (by decide) rfl dX7_passesHour_106 (fun H locs hI => ?_)
              replace hI := g_mem eM33 hI
              refine lv_iinc (k := 1) (v := v1 + 1) (lv' := [(1, .int (v1 + 1)), (2, .int 1), (0, .ref (E.2.1 150))]) hx hb dX7_passesHour_107 hl rfl rfl (by decide) rfl (fun ls hl => ?_)
              refine lv_goto (tgt := 12) hx hb dX7_passesHour_110 rfl ?_
              exact ih (v1 + 1) M33 hf _ _ _ hI (lv_sub hl [0, 2] rfl)
  unfold f_X7_passesHour at hf
  refine lv_aload_n hx hb dX7_passesHour_0 rfl (lv_at hl 0 rfl) ?_
  refine gt_X7_X7_g hC hI dX7_passesHour_1 ?_
  refine lv_iconst (v := 0) hx hb dX7_passesHour_4 (by decide) ?_
  refine lv_dup2_11 hx hb dX7_passesHour_5 rfl rfl ?_
  refine g_iald hC hI (k := 0) gIA_151 (by decide) rfl dX7_passesHour_6 ?_
  refine lv_iconst (v := 1) hx hb dX7_passesHour_7 (by decide) ?_
  refine lv_iadd hx hb dX7_passesHour_8 ?_
  obtain ⟨M1, eM1, hf⟩ := glet hf
  refine g_iast hC hI (k := 0) gIA_151 (by decide) rfl dX7_passesHour_9 (fun H locs hI => ?_)
  replace hI := g_mem eM1 hI
  refine lv_iconst (v := 0) hx hb dX7_passesHour_10 (by decide) ?_
  refine lv_istore_n (lv' := [(1, .int 0), (0, .ref (E.2.1 150))]) hx hb dX7_passesHour_11 rfl hl (by decide) rfl (fun ls hl => ?_)
  exact L12 gF 0 M1 hf _ _ _ hI (lv_sub hl [0, 1] rfl)
theorem dX7_passes_0 : decode cX7_passes 0 = .ok (.iload_n 1, 1) := by decide +kernel
theorem dX7_passes_1 : decode cX7_passes 1 = .ok (.iconst 1, 1) := by decide +kernel
theorem dX7_passes_2 : decode cX7_passes 2 = .ok (.bipush 100, 2) := by decide +kernel
theorem dX7_passes_4 : decode cX7_passes 4 = .ok (.invokestatic 52, 3) := by decide +kernel
theorem dX7_passes_7 : decode cX7_passes 7 = .ok (.ifCond .ne 9, 3) := by decide +kernel
theorem dX7_passes_10 : decode cX7_passes 10 = .ok (.aload_n 0, 1) := by decide +kernel
theorem dX7_passes_11 : decode cX7_passes 11 = .ok (.iconst 1, 1) := by decide +kernel
theorem dX7_passes_12 : decode cX7_passes 12 = .ok (.invokevirtual 67, 3) := by decide +kernel
theorem dX7_passes_15 : decode cX7_passes 15 = .ok (.ireturn, 1) := by decide +kernel
theorem dX7_passes_16 : decode cX7_passes 16 = .ok (.aload_n 0, 1) := by decide +kernel
theorem dX7_passes_17 : decode cX7_passes 17 = .ok (.getfield 7, 3) := by decide +kernel
theorem dX7_passes_20 : decode cX7_passes 20 = .ok (.iconst 2, 1) := by decide +kernel
theorem dX7_passes_21 : decode cX7_passes 21 = .ok (.iaload, 1) := by decide +kernel
theorem dX7_passes_22 : decode cX7_passes 22 = .ok (.istore_n 2, 1) := by decide +kernel
theorem dX7_passes_23 : decode cX7_passes 23 = .ok (.iconst 0, 1) := by decide +kernel
theorem dX7_passes_24 : decode cX7_passes 24 = .ok (.istore_n 3, 1) := by decide +kernel
theorem dX7_passes_25 : decode cX7_passes 25 = .ok (.iload_n 3, 1) := by decide +kernel
theorem dX7_passes_26 : decode cX7_passes 26 = .ok (.iload_n 1, 1) := by decide +kernel
theorem dX7_passes_27 : decode cX7_passes 27 = .ok (.if_icmp .ge 13, 3) := by decide +kernel
theorem dX7_passes_30 : decode cX7_passes 30 = .ok (.aload_n 0, 1) := by decide +kernel
theorem dX7_passes_31 : decode cX7_passes 31 = .ok (.invokevirtual 137, 3) := by decide +kernel
theorem dX7_passes_34 : decode cX7_passes 34 = .ok (.iinc 3 1, 3) := by decide +kernel
theorem dX7_passes_37 : decode cX7_passes 37 = .ok (.goto (-12), 3) := by decide +kernel
theorem dX7_passes_40 : decode cX7_passes 40 = .ok (.aload_n 0, 1) := by decide +kernel
theorem dX7_passes_41 : decode cX7_passes 41 = .ok (.aload_n 0, 1) := by decide +kernel
theorem dX7_passes_42 : decode cX7_passes 42 = .ok (.getfield 7, 3) := by decide +kernel
theorem dX7_passes_45 : decode cX7_passes 45 = .ok (.iconst 2, 1) := by decide +kernel
theorem dX7_passes_46 : decode cX7_passes 46 = .ok (.iaload, 1) := by decide +kernel
theorem dX7_passes_47 : decode cX7_passes 47 = .ok (.iload_n 2, 1) := by decide +kernel
theorem dX7_passes_48 : decode cX7_passes 48 = .ok (.isub, 1) := by decide +kernel
theorem dX7_passes_49 : decode cX7_passes 49 = .ok (.invokevirtual 75, 3) := by decide +kernel
theorem dX7_passes_52 : decode cX7_passes 52 = .ok (.ireturn, 1) := by decide +kernel
set_option maxRecDepth 100000 in
set_option maxHeartbeats 4000000 in
theorem C_X7_passes (l : Launch) (E : gE) (x : gX) {v1 : Int32} {M : gM} {r : Int32} {M' : gM} (hf : f_X7_passes v1 M = some (r, M')) : gM0 l E yX7_passes (.code yX7_passes cX7_passes 4 (some .int)) (gR 3 67) M x [.ref (E.2.1 150), .int v1] (some (.int r)) M' := by
  refine gMet (by decide +kernel) (Nat.le_of_ble_eq_true rfl) ?_
  intro p e s m args below meth c H locs ls Q hC hl hI kr kv
  replace hC : gC p s m args c cX7_passes 4 RX7 E := hC
  replace hl : lv_has ls 4 [(0, .ref (E.2.1 150)), (1, .int v1)] := hl
  have hx := hC.1
  have hb := hC.2.1
  have L25 : ∀ (v2 : Int32) (v1 : Int32) (n : Nat) (v3 : Int32) (M : gM), f_X7_passes_L25 v2 v1 n v3 M = some (r, M') → ∀ (H : Heap) (locs : List Loc) (ls : Array Slot), gI E s M x H locs → lv_has ls 4 [(3, .int v3), (2, .int v2), (0, .ref (E.2.1 150)), (1, .int v1)] → W p l e (gR 3 67) s m args below meth c H locs 0 0 Q (F0 m 25 ls []) := by
    intro v2 v1 n
    induction n with
    | zero => intro v3 M hf; rw [f_X7_passes_L25] at hf; cases hf
    | succ n ih =>
      intro v3 M hf H locs ls hI hl
      rw [f_X7_passes_L25] at hf
      refine lv_iload_n hx hb dX7_passes_25 rfl (lv_at hl 0 rfl) ?_
      refine lv_iload_n hx hb dX7_passes_26 rfl (lv_at hl 3 rfl) ?_
      refine lv_icmp_ge (tgt := 40) hx hb dX7_passes_27 rfl (fun h5 => ?_) (fun h5 => ?_)
      · replace hf := gif h5 hf
        refine lv_aload_n hx hb dX7_passes_40 rfl (lv_at hl 2 rfl) ?_
        refine lv_aload_n hx hb dX7_passes_41 rfl (lv_at hl 2 rfl) ?_
        refine gt_X7_X7_g hC hI dX7_passes_42 ?_
        refine lv_iconst (v := 2) hx hb dX7_passes_45 (by decide) ?_
        refine g_iald hC hI (k := 2) gIA_151 (by decide) rfl dX7_passes_46 ?_
        refine lv_iload_n hx hb dX7_passes_47 rfl (lv_at hl 1 rfl) ?_
        refine lv_isub hx hb dX7_passes_48 ?_
        obtain ⟨r6, hr7, hf⟩ := gbind hf
        have hr7 := C_X7_done l E x  hr7
        refine g_callVi (rest := []) hC hI hr7 Y_X7_done V_X7_done w1409 (rcv_X7 hC hI) ⟨rfl, rfl⟩ ⟨Nat.le_of_ble_eq_true rfl, Nat.le_of_ble_eq_true rfl⟩ rfl hl.1 rfl (Nat.le_of_ble_eq_true rfl) dX7_passes_49 ⟨Nat.le_of_ble_eq_true rfl, Nat.le_of_ble_eq_true rfl⟩ (fun H locs hI => ?_)
        exact kr _ _ _ _ _ _ (grw hf) hI ⟨.int, rfl, rfl⟩ dX7_passes_52
      · replace hf := gifn h5 hf
        refine lv_aload_n hx hb dX7_passes_30 rfl (lv_at hl 2 rfl) ?_
        obtain ⟨r8, hr9, hf⟩ := gbind hf
        have hr9 := C_X7_passesHour l E x  hr9
        refine g_callVv (rest := []) hC hI hr9 Y_X7_passesHour V_X7_passesHour w1505 (rcv_X7 hC hI) ⟨rfl, rfl⟩ ⟨Nat.le_of_ble_eq_true rfl, Nat.le_of_ble_eq_true rfl⟩ rfl hl.1 rfl (Nat.le_of_ble_eq_true rfl) dX7_passes_31 ⟨Nat.le_of_ble_eq_true rfl, Nat.le_of_ble_eq_true rfl⟩ (fun H locs hI => ?_)
        refine lv_iinc (k := 0) (v := v3 + 1) (lv' := [(3, .int (v3 + 1)), (2, .int v2), (0, .ref (E.2.1 150)), (1, .int v1)]) hx hb dX7_passes_34 hl rfl rfl (by decide) rfl (fun ls hl => ?_)
        refine lv_goto (tgt := 25) hx hb dX7_passes_37 rfl ?_
        exact ih (v3 + 1) r8 hf _ _ _ hI (lv_sub hl [0, 1, 2, 3] rfl)
  unfold f_X7_passes at hf
  refine lv_iload_n hx hb dX7_passes_0 rfl (lv_at hl 1 rfl) ?_
  refine lv_iconst (v := 1) hx hb dX7_passes_1 (by decide) ?_
  refine lv_bipush (v := 100) hx hb dX7_passes_2 (by decide) ?_
  obtain ⟨r1, hr2, hf⟩ := gbind hf
  have hr2 := C_X7_in l E x  hr2
  refine g_callSi (rest := []) hC hI hr2 Y_X7_in S_X7_in w1398 ⟨rfl, rfl⟩ ⟨Nat.le_of_ble_eq_true rfl, Nat.le_of_ble_eq_true rfl⟩ rfl hl.1 rfl (Nat.le_of_ble_eq_true rfl) dX7_passes_4 ⟨Nat.le_of_ble_eq_true rfl, Nat.le_of_ble_eq_true rfl⟩ (fun H locs hI => ?_)
  refine lv_if_ne (tgt := 16) hx hb dX7_passes_7 rfl (fun h3 => ?_) (fun h3 => ?_)
  · replace hf := gifn h3 hf
    refine lv_aload_n hx hb dX7_passes_16 rfl (lv_at hl 0 rfl) ?_
    refine gt_X7_X7_g hC hI dX7_passes_17 ?_
    refine lv_iconst (v := 2) hx hb dX7_passes_20 (by decide) ?_
    refine g_iald hC hI (k := 2) gIA_151 (by decide) rfl dX7_passes_21 ?_
    obtain ⟨z4, ez4, hf⟩ := glet hf
    refine g_top ez4 ?_
    refine lv_istore_n (lv' := [(2, .int z4), (0, .ref (E.2.1 150)), (1, .int v1)]) hx hb dX7_passes_22 rfl hl (by decide) rfl (fun ls hl => ?_)
    refine lv_iconst (v := 0) hx hb dX7_passes_23 (by decide) ?_
    refine lv_istore_n (lv' := [(3, .int 0), (2, .int z4), (0, .ref (E.2.1 150)), (1, .int v1)]) hx hb dX7_passes_24 rfl hl (by decide) rfl (fun ls hl => ?_)
    exact L25 z4 v1 gF 0 M hf _ _ _ hI (lv_sub hl [0, 1, 2, 3] rfl)
  · replace hf := gif h3 hf
    refine lv_aload_n hx hb dX7_passes_10 rfl (lv_at hl 0 rfl) ?_
    refine lv_iconst (v := 1) hx hb dX7_passes_11 (by decide) ?_
    obtain ⟨r10, hr11, hf⟩ := gbind hf
    have hr11 := C_X7_fails l E x  hr11
    refine g_callVi (rest := []) hC hI hr11 Y_X7_fails V_X7_fails w1401 (rcv_X7 hC hI) ⟨rfl, rfl⟩ ⟨Nat.le_of_ble_eq_true rfl, Nat.le_of_ble_eq_true rfl⟩ rfl hl.1 rfl (Nat.le_of_ble_eq_true rfl) dX7_passes_12 ⟨Nat.le_of_ble_eq_true rfl, Nat.le_of_ble_eq_true rfl⟩ (fun H locs hI => ?_)
    exact kr _ _ _ _ _ _ (grw hf) hI ⟨.int, rfl, rfl⟩ dX7_passes_15
theorem dX7_pass_0 : decode cX7_pass 0 = .ok (.aload_n 0, 1) := by decide +kernel
theorem dX7_pass_1 : decode cX7_pass 1 = .ok (.invokevirtual 78, 3) := by decide +kernel
theorem dX7_pass_4 : decode cX7_pass 4 = .ok (.aload_n 0, 1) := by decide +kernel
theorem dX7_pass_5 : decode cX7_pass 5 = .ok (.aload_n 0, 1) := by decide +kernel
theorem dX7_pass_6 : decode cX7_pass 6 = .ok (.iload_n 1, 1) := by decide +kernel
theorem dX7_pass_7 : decode cX7_pass 7 = .ok (.invokevirtual 140, 3) := by decide +kernel
theorem dX7_pass_10 : decode cX7_pass 10 = .ok (.invokevirtual 85, 3) := by decide +kernel
theorem dX7_pass_13 : decode cX7_pass 13 = .ok (.ireturn, 1) := by decide +kernel
set_option maxRecDepth 100000 in
set_option maxHeartbeats 4000000 in
theorem C_X7_pass (l : Launch) (E : gE) (x : gX) {v1 : Int32} {M : gM} {r : Int32} {M' : gM} (hf : f_X7_pass v1 M = some (r, M')) : gM0 l E yX7_pass (.code yX7_pass cX7_pass 2 (some .int)) (gR 4 90) M x [.ref (E.2.1 150), .int v1] (some (.int r)) M' := by
  refine gMet (by decide +kernel) (Nat.le_of_ble_eq_true rfl) ?_
  intro p e s m args below meth c H locs ls Q hC hl hI kr kv
  replace hC : gC p s m args c cX7_pass 2 RX7 E := hC
  replace hl : lv_has ls 2 [(0, .ref (E.2.1 150)), (1, .int v1)] := hl
  have hx := hC.1
  have hb := hC.2.1
  unfold f_X7_pass at hf
  refine lv_aload_n hx hb dX7_pass_0 rfl (lv_at hl 0 rfl) ?_
  obtain ⟨r1, hr2, hf⟩ := gbind hf
  have hr2 := C_X7_begin l E x  hr2
  refine g_callVv (rest := []) hC hI hr2 Y_X7_begin V_X7_begin w1384 (rcv_X7 hC hI) ⟨rfl, rfl⟩ ⟨Nat.le_of_ble_eq_true rfl, Nat.le_of_ble_eq_true rfl⟩ rfl hl.1 rfl (Nat.le_of_ble_eq_true rfl) dX7_pass_1 ⟨Nat.le_of_ble_eq_true rfl, Nat.le_of_ble_eq_true rfl⟩ (fun H locs hI => ?_)
  refine lv_aload_n hx hb dX7_pass_4 rfl (lv_at hl 0 rfl) ?_
  refine lv_aload_n hx hb dX7_pass_5 rfl (lv_at hl 0 rfl) ?_
  refine lv_iload_n hx hb dX7_pass_6 rfl (lv_at hl 1 rfl) ?_
  obtain ⟨r3, hr4, hf⟩ := gbind hf
  have hr4 := C_X7_passes l E x  hr4
  refine g_callVi (rest := [.ref (E.2.1 150)]) hC hI hr4 Y_X7_passes V_X7_passes w1501 (rcv_X7 hC hI) ⟨rfl, rfl⟩ ⟨Nat.le_of_ble_eq_true rfl, Nat.le_of_ble_eq_true rfl⟩ rfl hl.1 rfl (Nat.le_of_ble_eq_true rfl) dX7_pass_7 ⟨Nat.le_of_ble_eq_true rfl, Nat.le_of_ble_eq_true rfl⟩ (fun H locs hI => ?_)
  obtain ⟨r5, hr6, hf⟩ := gbind hf
  have hr6 := C_X7_kept l E x  hr6
  refine g_callVi (rest := []) hC hI hr6 Y_X7_kept V_X7_kept w1413 (rcv_X7 hC hI) ⟨rfl, rfl⟩ ⟨Nat.le_of_ble_eq_true rfl, Nat.le_of_ble_eq_true rfl⟩ rfl hl.1 rfl (Nat.le_of_ble_eq_true rfl) dX7_pass_10 ⟨Nat.le_of_ble_eq_true rfl, Nat.le_of_ble_eq_true rfl⟩ (fun H locs hI => ?_)
  exact kr _ _ _ _ _ _ (grw hf) hI ⟨.int, rfl, rfl⟩ dX7_pass_13
theorem dX7_hour_0 : decode cX7_hour 0 = .ok (.aload_n 0, 1) := by decide +kernel
theorem dX7_hour_1 : decode cX7_hour 1 = .ok (.aload_n 0, 1) := by decide +kernel
theorem dX7_hour_2 : decode cX7_hour 2 = .ok (.getfield 7, 3) := by decide +kernel
theorem dX7_hour_5 : decode cX7_hour 5 = .ok (.iconst 0, 1) := by decide +kernel
theorem dX7_hour_6 : decode cX7_hour 6 = .ok (.iaload, 1) := by decide +kernel
theorem dX7_hour_7 : decode cX7_hour 7 = .ok (.invokevirtual 75, 3) := by decide +kernel
theorem dX7_hour_10 : decode cX7_hour 10 = .ok (.ireturn, 1) := by decide +kernel
set_option maxRecDepth 100000 in
set_option maxHeartbeats 4000000 in
theorem C_X7_hour (l : Launch) (E : gE) (x : gX) {M : gM} {r : Int32} {M' : gM} (hf : f_X7_hour M = some (r, M')) : gM0 l E yX7_hour (.code yX7_hour cX7_hour 1 (some .int)) (gR 1 21) M x [.ref (E.2.1 150)] (some (.int r)) M' := by
  refine gMet (by decide +kernel) (Nat.le_of_ble_eq_true rfl) ?_
  intro p e s m args below meth c H locs ls Q hC hl hI kr kv
  replace hC : gC p s m args c cX7_hour 1 RX7 E := hC
  replace hl : lv_has ls 1 [(0, .ref (E.2.1 150))] := hl
  have hx := hC.1
  have hb := hC.2.1
  unfold f_X7_hour at hf
  refine lv_aload_n hx hb dX7_hour_0 rfl (lv_at hl 0 rfl) ?_
  refine lv_aload_n hx hb dX7_hour_1 rfl (lv_at hl 0 rfl) ?_
  refine gt_X7_X7_g hC hI dX7_hour_2 ?_
  refine lv_iconst (v := 0) hx hb dX7_hour_5 (by decide) ?_
  refine g_iald hC hI (k := 0) gIA_151 (by decide) rfl dX7_hour_6 ?_
  obtain ⟨r1, hr2, hf⟩ := gbind hf
  have hr2 := C_X7_done l E x  hr2
  refine g_callVi (rest := []) hC hI hr2 Y_X7_done V_X7_done w1409 (rcv_X7 hC hI) ⟨rfl, rfl⟩ ⟨Nat.le_of_ble_eq_true rfl, Nat.le_of_ble_eq_true rfl⟩ rfl hl.1 rfl (Nat.le_of_ble_eq_true rfl) dX7_hour_7 ⟨Nat.le_of_ble_eq_true rfl, Nat.le_of_ble_eq_true rfl⟩ (fun H locs hI => ?_)
  exact kr _ _ _ _ _ _ (grw hf) hI ⟨.int, rfl, rfl⟩ dX7_hour_10
theorem dX7_tide_0 : decode cX7_tide 0 = .ok (.aload_n 0, 1) := by decide +kernel
theorem dX7_tide_1 : decode cX7_tide 1 = .ok (.aload_n 0, 1) := by decide +kernel
theorem dX7_tide_2 : decode cX7_tide 2 = .ok (.getfield 7, 3) := by decide +kernel
theorem dX7_tide_5 : decode cX7_tide 5 = .ok (.iconst 0, 1) := by decide +kernel
theorem dX7_tide_6 : decode cX7_tide 6 = .ok (.iaload, 1) := by decide +kernel
theorem dX7_tide_7 : decode cX7_tide 7 = .ok (.invokestatic 122, 3) := by decide +kernel
theorem dX7_tide_10 : decode cX7_tide 10 = .ok (.invokevirtual 75, 3) := by decide +kernel
theorem dX7_tide_13 : decode cX7_tide 13 = .ok (.ireturn, 1) := by decide +kernel
set_option maxRecDepth 100000 in
set_option maxHeartbeats 4000000 in
theorem C_X7_tide (l : Launch) (E : gE) (x : gX) {M : gM} {r : Int32} {M' : gM} (hf : f_X7_tide M = some (r, M')) : gM0 l E yX7_tide (.code yX7_tide cX7_tide 1 (some .int)) (gR 1 21) M x [.ref (E.2.1 150)] (some (.int r)) M' := by
  refine gMet (by decide +kernel) (Nat.le_of_ble_eq_true rfl) ?_
  intro p e s m args below meth c H locs ls Q hC hl hI kr kv
  replace hC : gC p s m args c cX7_tide 1 RX7 E := hC
  replace hl : lv_has ls 1 [(0, .ref (E.2.1 150))] := hl
  have hx := hC.1
  have hb := hC.2.1
  unfold f_X7_tide at hf
  refine lv_aload_n hx hb dX7_tide_0 rfl (lv_at hl 0 rfl) ?_
  refine lv_aload_n hx hb dX7_tide_1 rfl (lv_at hl 0 rfl) ?_
  refine gt_X7_X7_g hC hI dX7_tide_2 ?_
  refine lv_iconst (v := 0) hx hb dX7_tide_5 (by decide) ?_
  refine g_iald hC hI (k := 0) gIA_151 (by decide) rfl dX7_tide_6 ?_
  obtain ⟨r1, hr2, hf⟩ := gbind hf
  have hr2 := C_X7_tideAt l E x  hr2
  refine g_callSi (rest := [.ref (E.2.1 150)]) hC hI hr2 Y_X7_tideAt S_X7_tideAt w1494 ⟨rfl, rfl⟩ ⟨Nat.le_of_ble_eq_true rfl, Nat.le_of_ble_eq_true rfl⟩ rfl hl.1 rfl (Nat.le_of_ble_eq_true rfl) dX7_tide_7 ⟨Nat.le_of_ble_eq_true rfl, Nat.le_of_ble_eq_true rfl⟩ (fun H locs hI => ?_)
  obtain ⟨r3, hr4, hf⟩ := gbind hf
  have hr4 := C_X7_done l E x  hr4
  refine g_callVi (rest := []) hC hI hr4 Y_X7_done V_X7_done w1409 (rcv_X7 hC hI) ⟨rfl, rfl⟩ ⟨Nat.le_of_ble_eq_true rfl, Nat.le_of_ble_eq_true rfl⟩ rfl hl.1 rfl (Nat.le_of_ble_eq_true rfl) dX7_tide_10 ⟨Nat.le_of_ble_eq_true rfl, Nat.le_of_ble_eq_true rfl⟩ (fun H locs hI => ?_)
  exact kr _ _ _ _ _ _ (grw hf) hI ⟨.int, rfl, rfl⟩ dX7_tide_13
theorem dX7_shipCount_0 : decode cX7_shipCount 0 = .ok (.aload_n 0, 1) := by decide +kernel
theorem dX7_shipCount_1 : decode cX7_shipCount 1 = .ok (.aload_n 0, 1) := by decide +kernel
theorem dX7_shipCount_2 : decode cX7_shipCount 2 = .ok (.invokevirtual 71, 3) := by decide +kernel
theorem dX7_shipCount_5 : decode cX7_shipCount 5 = .ok (.invokevirtual 75, 3) := by decide +kernel
theorem dX7_shipCount_8 : decode cX7_shipCount 8 = .ok (.ireturn, 1) := by decide +kernel
set_option maxRecDepth 100000 in
set_option maxHeartbeats 4000000 in
theorem C_X7_shipCount (l : Launch) (E : gE) (x : gX) {M : gM} {r : Int32} {M' : gM} (hf : f_X7_shipCount M = some (r, M')) : gM0 l E yX7_shipCount (.code yX7_shipCount cX7_shipCount 1 (some .int)) (gR 1 21) M x [.ref (E.2.1 150)] (some (.int r)) M' := by
  refine gMet (by decide +kernel) (Nat.le_of_ble_eq_true rfl) ?_
  intro p e s m args below meth c H locs ls Q hC hl hI kr kv
  replace hC : gC p s m args c cX7_shipCount 1 RX7 E := hC
  replace hl : lv_has ls 1 [(0, .ref (E.2.1 150))] := hl
  have hx := hC.1
  have hb := hC.2.1
  unfold f_X7_shipCount at hf
  refine lv_aload_n hx hb dX7_shipCount_0 rfl (lv_at hl 0 rfl) ?_
  refine lv_aload_n hx hb dX7_shipCount_1 rfl (lv_at hl 0 rfl) ?_
  obtain ⟨r1, hr2, hf⟩ := gbind hf
  have hr2 := C_X7_ships l E x  hr2
  refine g_callVi (rest := [.ref (E.2.1 150)]) hC hI hr2 Y_X7_ships V_X7_ships w1405 (rcv_X7 hC hI) ⟨rfl, rfl⟩ ⟨Nat.le_of_ble_eq_true rfl, Nat.le_of_ble_eq_true rfl⟩ rfl hl.1 rfl (Nat.le_of_ble_eq_true rfl) dX7_shipCount_2 ⟨Nat.le_of_ble_eq_true rfl, Nat.le_of_ble_eq_true rfl⟩ (fun H locs hI => ?_)
  obtain ⟨r3, hr4, hf⟩ := gbind hf
  have hr4 := C_X7_done l E x  hr4
  refine g_callVi (rest := []) hC hI hr4 Y_X7_done V_X7_done w1409 (rcv_X7 hC hI) ⟨rfl, rfl⟩ ⟨Nat.le_of_ble_eq_true rfl, Nat.le_of_ble_eq_true rfl⟩ rfl hl.1 rfl (Nat.le_of_ble_eq_true rfl) dX7_shipCount_5 ⟨Nat.le_of_ble_eq_true rfl, Nat.le_of_ble_eq_true rfl⟩ (fun H locs hI => ?_)
  exact kr _ _ _ _ _ _ (grw hf) hI ⟨.int, rfl, rfl⟩ dX7_shipCount_8
theorem dX7_isMoored_0 : decode cX7_isMoored 0 = .ok (.aload_n 0, 1) := by decide +kernel
theorem dX7_isMoored_1 : decode cX7_isMoored 1 = .ok (.iload_n 1, 1) := by decide +kernel
theorem dX7_isMoored_2 : decode cX7_isMoored 2 = .ok (.invokestatic 56, 3) := by decide +kernel
theorem dX7_isMoored_5 : decode cX7_isMoored 5 = .ok (.ifCond .eq 7, 3) := by decide +kernel
theorem dX7_isMoored_8 : decode cX7_isMoored 8 = .ok (.iconst 0, 1) := by decide +kernel
theorem dX7_isMoored_9 : decode cX7_isMoored 9 = .ok (.goto 4, 3) := by decide +kernel
theorem dX7_isMoored_12 : decode cX7_isMoored 12 = .ok (.iconst 1, 1) := by decide +kernel
theorem dX7_isMoored_13 : decode cX7_isMoored 13 = .ok (.putfield 42, 3) := by decide +kernel
theorem dX7_isMoored_16 : decode cX7_isMoored 16 = .ok (.aload_n 0, 1) := by decide +kernel
theorem dX7_isMoored_17 : decode cX7_isMoored 17 = .ok (.iload_n 1, 1) := by decide +kernel
theorem dX7_isMoored_18 : decode cX7_isMoored 18 = .ok (.invokevirtual 143, 3) := by decide +kernel
theorem dX7_isMoored_21 : decode cX7_isMoored 21 = .ok (.ireturn, 1) := by decide +kernel
set_option maxRecDepth 100000 in
set_option maxHeartbeats 4000000 in
theorem C_X7_isMoored (l : Launch) (E : gE) (x : gX) {v1 : Int32} {M : gM} {r : Bool} {M' : gM} (hf : f_X7_isMoored v1 M = some (r, M')) : gM0 l E yX7_isMoored (.code yX7_isMoored cX7_isMoored 2 (some .boolean)) (gR 3 63) M x [.ref (E.2.1 150), .int v1] (some (.int (gb r))) M' := by
  refine gMet (by decide +kernel) (Nat.le_of_ble_eq_true rfl) ?_
  intro p e s m args below meth c H locs ls Q hC hl hI kr kv
  replace hC : gC p s m args c cX7_isMoored 2 RX7 E := hC
  replace hl : lv_has ls 2 [(0, .ref (E.2.1 150)), (1, .int v1)] := hl
  have hx := hC.1
  have hb := hC.2.1
  unfold f_X7_isMoored at hf
  refine lv_aload_n hx hb dX7_isMoored_0 rfl (lv_at hl 0 rfl) ?_
  refine lv_iload_n hx hb dX7_isMoored_1 rfl (lv_at hl 1 rfl) ?_
  obtain ⟨r1, hr2, hf⟩ := gbind hf
  have hr2 := C_X7_isBerth l E x  hr2
  refine g_callSi (rest := [.ref (E.2.1 150)]) hC hI hr2 Y_X7_isBerth S_X7_isBerth w1395 ⟨rfl, rfl⟩ ⟨Nat.le_of_ble_eq_true rfl, Nat.le_of_ble_eq_true rfl⟩ rfl hl.1 rfl (Nat.le_of_ble_eq_true rfl) dX7_isMoored_2 ⟨Nat.le_of_ble_eq_true rfl, Nat.le_of_ble_eq_true rfl⟩ (fun H locs hI => ?_)
  refine lv_if_eq (tgt := 12) hx hb dX7_isMoored_5 rfl (fun h3 => ?_) (fun h3 => ?_)
  · replace hf := gif h3 hf
    refine lv_iconst (v := 1) hx hb dX7_isMoored_12 (by decide) ?_
    obtain ⟨M4, eM4, hf⟩ := glet hf
    refine pt_X7_X7_thrown hC hI dX7_isMoored_13 (fun H locs hI => ?_)
    replace hI := g_mem eM4 hI
    refine lv_aload_n hx hb dX7_isMoored_16 rfl (lv_at hl 0 rfl) ?_
    refine lv_iload_n hx hb dX7_isMoored_17 rfl (lv_at hl 1 rfl) ?_
    obtain ⟨r5, hr6, hf⟩ := gbind hf
    have hr6 := C_X7_isShip l E x  hr6
    refine g_callVi (rest := []) hC hI hr6 Y_X7_isShip V_X7_isShip w1525 (rcv_X7 hC hI) ⟨rfl, rfl⟩ ⟨Nat.le_of_ble_eq_true rfl, Nat.le_of_ble_eq_true rfl⟩ rfl hl.1 rfl (Nat.le_of_ble_eq_true rfl) dX7_isMoored_18 ⟨Nat.le_of_ble_eq_true rfl, Nat.le_of_ble_eq_true rfl⟩ (fun H locs hI => ?_)
    exact kr _ _ _ _ _ _ (grwb hf) hI ⟨.boolean, rfl, gb_nar _⟩ dX7_isMoored_21
  · replace hf := gifn h3 hf
    refine lv_iconst (v := 0) hx hb dX7_isMoored_8 (by decide) ?_
    refine lv_goto (tgt := 13) hx hb dX7_isMoored_9 rfl ?_
    obtain ⟨M7, eM7, hf⟩ := glet hf
    refine pt_X7_X7_thrown hC hI dX7_isMoored_13 (fun H locs hI => ?_)
    replace hI := g_mem eM7 hI
    refine lv_aload_n hx hb dX7_isMoored_16 rfl (lv_at hl 0 rfl) ?_
    refine lv_iload_n hx hb dX7_isMoored_17 rfl (lv_at hl 1 rfl) ?_
    obtain ⟨r8, hr9, hf⟩ := gbind hf
    have hr9 := C_X7_isShip l E x  hr9
    refine g_callVi (rest := []) hC hI hr9 Y_X7_isShip V_X7_isShip w1525 (rcv_X7 hC hI) ⟨rfl, rfl⟩ ⟨Nat.le_of_ble_eq_true rfl, Nat.le_of_ble_eq_true rfl⟩ rfl hl.1 rfl (Nat.le_of_ble_eq_true rfl) dX7_isMoored_18 ⟨Nat.le_of_ble_eq_true rfl, Nat.le_of_ble_eq_true rfl⟩ (fun H locs hI => ?_)
    exact kr _ _ _ _ _ _ (grwb hf) hI ⟨.boolean, rfl, gb_nar _⟩ dX7_isMoored_21
theorem dX7_whyNoShip_0 : decode cX7_whyNoShip 0 = .ok (.iload_n 1, 1) := by decide +kernel
theorem dX7_whyNoShip_1 : decode cX7_whyNoShip 1 = .ok (.invokestatic 56, 3) := by decide +kernel
theorem dX7_whyNoShip_4 : decode cX7_whyNoShip 4 = .ok (.ifCond .ne 7, 3) := by decide +kernel
theorem dX7_whyNoShip_7 : decode cX7_whyNoShip 7 = .ok (.iconst 1, 1) := by decide +kernel
theorem dX7_whyNoShip_8 : decode cX7_whyNoShip 8 = .ok (.goto 20, 3) := by decide +kernel
theorem dX7_whyNoShip_11 : decode cX7_whyNoShip 11 = .ok (.aload_n 0, 1) := by decide +kernel
theorem dX7_whyNoShip_12 : decode cX7_whyNoShip 12 = .ok (.getfield 7, 3) := by decide +kernel
theorem dX7_whyNoShip_15 : decode cX7_whyNoShip 15 = .ok (.bipush 7, 2) := by decide +kernel
theorem dX7_whyNoShip_17 : decode cX7_whyNoShip 17 = .ok (.iload_n 1, 1) := by decide +kernel
theorem dX7_whyNoShip_18 : decode cX7_whyNoShip 18 = .ok (.iadd, 1) := by decide +kernel
theorem dX7_whyNoShip_19 : decode cX7_whyNoShip 19 = .ok (.iaload, 1) := by decide +kernel
theorem dX7_whyNoShip_20 : decode cX7_whyNoShip 20 = .ok (.ifCond .ne 7, 3) := by decide +kernel
theorem dX7_whyNoShip_23 : decode cX7_whyNoShip 23 = .ok (.iconst 2, 1) := by decide +kernel
theorem dX7_whyNoShip_24 : decode cX7_whyNoShip 24 = .ok (.goto 4, 3) := by decide +kernel
theorem dX7_whyNoShip_27 : decode cX7_whyNoShip 27 = .ok (.iconst 0, 1) := by decide +kernel
theorem dX7_whyNoShip_28 : decode cX7_whyNoShip 28 = .ok (.ireturn, 1) := by decide +kernel
set_option maxRecDepth 100000 in
set_option maxHeartbeats 4000000 in
theorem C_X7_whyNoShip (l : Launch) (E : gE) (x : gX) {v1 : Int32} {M : gM} {r : Int32} (hf : f_X7_whyNoShip v1 M = some r) : gM0 l E yX7_whyNoShip (.code yX7_whyNoShip cX7_whyNoShip 2 (some .int)) (gR 2 42) M x [.ref (E.2.1 150), .int v1] (some (.int r)) M := by
  refine gMet (by decide +kernel) (Nat.le_of_ble_eq_true rfl) ?_
  intro p e s m args below meth c H locs ls Q hC hl hI kr kv
  replace hC : gC p s m args c cX7_whyNoShip 2 RX7 E := hC
  replace hl : lv_has ls 2 [(0, .ref (E.2.1 150)), (1, .int v1)] := hl
  have hx := hC.1
  have hb := hC.2.1
  unfold f_X7_whyNoShip at hf
  refine lv_iload_n hx hb dX7_whyNoShip_0 rfl (lv_at hl 1 rfl) ?_
  obtain ⟨r1, hr2, hf⟩ := gbind hf
  have hr2 := C_X7_isBerth l E x  hr2
  refine g_callSi (rest := []) hC hI hr2 Y_X7_isBerth S_X7_isBerth w1395 ⟨rfl, rfl⟩ ⟨Nat.le_of_ble_eq_true rfl, Nat.le_of_ble_eq_true rfl⟩ rfl hl.1 rfl (Nat.le_of_ble_eq_true rfl) dX7_whyNoShip_1 ⟨Nat.le_of_ble_eq_true rfl, Nat.le_of_ble_eq_true rfl⟩ (fun H locs hI => ?_)
  refine lv_if_ne (tgt := 11) hx hb dX7_whyNoShip_4 rfl (fun h3 => ?_) (fun h3 => ?_)
  · replace hf := gifn h3 hf
    refine lv_aload_n hx hb dX7_whyNoShip_11 rfl (lv_at hl 0 rfl) ?_
    refine gt_X7_X7_g hC hI dX7_whyNoShip_12 ?_
    refine lv_bipush (v := 7) hx hb dX7_whyNoShip_15 (by decide) ?_
    refine lv_iload_n hx hb dX7_whyNoShip_17 rfl (lv_at hl 1 rfl) ?_
    refine lv_iadd hx hb dX7_whyNoShip_18 ?_
    obtain ⟨h4, hf⟩ := gifN hf
    refine g_iald hC hI (k := (7 + v1).toNatClampNeg) gIA_151 h4 rfl dX7_whyNoShip_19 ?_
    refine lv_if_ne (tgt := 27) hx hb dX7_whyNoShip_20 rfl (fun h5 => ?_) (fun h5 => ?_)
    · replace hf := gifn h5 hf
      refine lv_iconst (v := 0) hx hb dX7_whyNoShip_27 (by decide) ?_
      exact kr _ _ _ _ _ _ (gri hf) hI ⟨.int, rfl, rfl⟩ dX7_whyNoShip_28
    · replace hf := gif h5 hf
      refine lv_iconst (v := 2) hx hb dX7_whyNoShip_23 (by decide) ?_
      refine lv_goto (tgt := 28) hx hb dX7_whyNoShip_24 rfl ?_
      exact kr _ _ _ _ _ _ (gri hf) hI ⟨.int, rfl, rfl⟩ dX7_whyNoShip_28
  · replace hf := gif h3 hf
    refine lv_iconst (v := 1) hx hb dX7_whyNoShip_7 (by decide) ?_
    refine lv_goto (tgt := 28) hx hb dX7_whyNoShip_8 rfl ?_
    exact kr _ _ _ _ _ _ (gri hf) hI ⟨.int, rfl, rfl⟩ dX7_whyNoShip_28
theorem dX7_shipNumber_0 : decode cX7_shipNumber 0 = .ok (.aload_n 0, 1) := by decide +kernel
theorem dX7_shipNumber_1 : decode cX7_shipNumber 1 = .ok (.iload_n 2, 1) := by decide +kernel
theorem dX7_shipNumber_2 : decode cX7_shipNumber 2 = .ok (.invokevirtual 146, 3) := by decide +kernel
theorem dX7_shipNumber_5 : decode cX7_shipNumber 5 = .ok (.istore_n 3, 1) := by decide +kernel
theorem dX7_shipNumber_6 : decode cX7_shipNumber 6 = .ok (.iload_n 3, 1) := by decide +kernel
theorem dX7_shipNumber_7 : decode cX7_shipNumber 7 = .ok (.ifCond .le 11, 3) := by decide +kernel
theorem dX7_shipNumber_10 : decode cX7_shipNumber 10 = .ok (.aload_n 0, 1) := by decide +kernel
theorem dX7_shipNumber_11 : decode cX7_shipNumber 11 = .ok (.iload_n 3, 1) := by decide +kernel
theorem dX7_shipNumber_12 : decode cX7_shipNumber 12 = .ok (.invokevirtual 67, 3) := by decide +kernel
theorem dX7_shipNumber_15 : decode cX7_shipNumber 15 = .ok (.goto 15, 3) := by decide +kernel
theorem dX7_shipNumber_18 : decode cX7_shipNumber 18 = .ok (.aload_n 0, 1) := by decide +kernel
theorem dX7_shipNumber_19 : decode cX7_shipNumber 19 = .ok (.aload_n 0, 1) := by decide +kernel
theorem dX7_shipNumber_20 : decode cX7_shipNumber 20 = .ok (.getfield 7, 3) := by decide +kernel
theorem dX7_shipNumber_23 : decode cX7_shipNumber 23 = .ok (.iload_n 1, 1) := by decide +kernel
theorem dX7_shipNumber_24 : decode cX7_shipNumber 24 = .ok (.iload_n 2, 1) := by decide +kernel
theorem dX7_shipNumber_25 : decode cX7_shipNumber 25 = .ok (.iadd, 1) := by decide +kernel
theorem dX7_shipNumber_26 : decode cX7_shipNumber 26 = .ok (.iaload, 1) := by decide +kernel
theorem dX7_shipNumber_27 : decode cX7_shipNumber 27 = .ok (.invokevirtual 75, 3) := by decide +kernel
theorem dX7_shipNumber_30 : decode cX7_shipNumber 30 = .ok (.ireturn, 1) := by decide +kernel
set_option maxRecDepth 100000 in
set_option maxHeartbeats 4000000 in
theorem C_X7_shipNumber (l : Launch) (E : gE) (x : gX) {v1 v2 : Int32} {M : gM} {r : Int32} {M' : gM} (hf : f_X7_shipNumber v1 v2 M = some (r, M')) : gM0 l E yX7_shipNumber (.code yX7_shipNumber cX7_shipNumber 4 (some .int)) (gR 3 63) M x [.ref (E.2.1 150), .int v1, .int v2] (some (.int r)) M' := by
  refine gMet (by decide +kernel) (Nat.le_of_ble_eq_true rfl) ?_
  intro p e s m args below meth c H locs ls Q hC hl hI kr kv
  replace hC : gC p s m args c cX7_shipNumber 4 RX7 E := hC
  replace hl : lv_has ls 4 [(0, .ref (E.2.1 150)), (1, .int v1), (2, .int v2)] := hl
  have hx := hC.1
  have hb := hC.2.1
  unfold f_X7_shipNumber at hf
  refine lv_aload_n hx hb dX7_shipNumber_0 rfl (lv_at hl 0 rfl) ?_
  refine lv_iload_n hx hb dX7_shipNumber_1 rfl (lv_at hl 2 rfl) ?_
  obtain ⟨r1, hr2, hf⟩ := gbind hf
  have hr2 := C_X7_whyNoShip l E x  hr2
  refine g_callVi (rest := []) hC hI hr2 Y_X7_whyNoShip V_X7_whyNoShip w1537 (rcv_X7 hC hI) ⟨rfl, rfl⟩ ⟨Nat.le_of_ble_eq_true rfl, Nat.le_of_ble_eq_true rfl⟩ rfl hl.1 rfl (Nat.le_of_ble_eq_true rfl) dX7_shipNumber_2 ⟨Nat.le_of_ble_eq_true rfl, Nat.le_of_ble_eq_true rfl⟩ (fun H locs hI => ?_)
  refine lv_istore_n (lv' := [(3, .int r1), (0, .ref (E.2.1 150)), (1, .int v1), (2, .int v2)]) hx hb dX7_shipNumber_5 rfl hl (by decide) rfl (fun ls hl => ?_)
  refine lv_iload_n hx hb dX7_shipNumber_6 rfl (lv_at hl 0 rfl) ?_
  refine lv_if_le (tgt := 18) hx hb dX7_shipNumber_7 rfl (fun h3 => ?_) (fun h3 => ?_)
  · replace hf := gif h3 hf
    refine lv_aload_n hx hb dX7_shipNumber_18 rfl (lv_at hl 1 rfl) ?_
    refine lv_aload_n hx hb dX7_shipNumber_19 rfl (lv_at hl 1 rfl) ?_
    refine gt_X7_X7_g hC hI dX7_shipNumber_20 ?_
    refine lv_iload_n hx hb dX7_shipNumber_23 rfl (lv_at hl 2 rfl) ?_
    refine lv_iload_n hx hb dX7_shipNumber_24 rfl (lv_at hl 3 rfl) ?_
    refine lv_iadd hx hb dX7_shipNumber_25 ?_
    obtain ⟨h4, hf⟩ := gifN hf
    refine g_iald hC hI (k := (v1 + v2).toNatClampNeg) gIA_151 h4 rfl dX7_shipNumber_26 ?_
    obtain ⟨r5, hr6, hf⟩ := gbind hf
    have hr6 := C_X7_done l E x  hr6
    refine g_callVi (rest := []) hC hI hr6 Y_X7_done V_X7_done w1409 (rcv_X7 hC hI) ⟨rfl, rfl⟩ ⟨Nat.le_of_ble_eq_true rfl, Nat.le_of_ble_eq_true rfl⟩ rfl hl.1 rfl (Nat.le_of_ble_eq_true rfl) dX7_shipNumber_27 ⟨Nat.le_of_ble_eq_true rfl, Nat.le_of_ble_eq_true rfl⟩ (fun H locs hI => ?_)
    exact kr _ _ _ _ _ _ (grw hf) hI ⟨.int, rfl, rfl⟩ dX7_shipNumber_30
  · replace hf := gifn h3 hf
    refine lv_aload_n hx hb dX7_shipNumber_10 rfl (lv_at hl 1 rfl) ?_
    refine lv_iload_n hx hb dX7_shipNumber_11 rfl (lv_at hl 0 rfl) ?_
    obtain ⟨r7, hr8, hf⟩ := gbind hf
    have hr8 := C_X7_fails l E x  hr8
    refine g_callVi (rest := []) hC hI hr8 Y_X7_fails V_X7_fails w1401 (rcv_X7 hC hI) ⟨rfl, rfl⟩ ⟨Nat.le_of_ble_eq_true rfl, Nat.le_of_ble_eq_true rfl⟩ rfl hl.1 rfl (Nat.le_of_ble_eq_true rfl) dX7_shipNumber_12 ⟨Nat.le_of_ble_eq_true rfl, Nat.le_of_ble_eq_true rfl⟩ (fun H locs hI => ?_)
    refine lv_goto (tgt := 30) hx hb dX7_shipNumber_15 rfl ?_
    exact kr _ _ _ _ _ _ (grw hf) hI ⟨.int, rfl, rfl⟩ dX7_shipNumber_30
theorem dX7_draught_0 : decode cX7_draught 0 = .ok (.aload_n 0, 1) := by decide +kernel
theorem dX7_draught_1 : decode cX7_draught 1 = .ok (.bipush 10, 2) := by decide +kernel
theorem dX7_draught_3 : decode cX7_draught 3 = .ok (.iload_n 1, 1) := by decide +kernel
theorem dX7_draught_4 : decode cX7_draught 4 = .ok (.invokevirtual 149, 3) := by decide +kernel
theorem dX7_draught_7 : decode cX7_draught 7 = .ok (.ireturn, 1) := by decide +kernel
set_option maxRecDepth 100000 in
set_option maxHeartbeats 4000000 in
theorem C_X7_draught (l : Launch) (E : gE) (x : gX) {v1 : Int32} {M : gM} {r : Int32} {M' : gM} (hf : f_X7_draught v1 M = some (r, M')) : gM0 l E yX7_draught (.code yX7_draught cX7_draught 2 (some .int)) (gR 4 86) M x [.ref (E.2.1 150), .int v1] (some (.int r)) M' := by
  refine gMet (by decide +kernel) (Nat.le_of_ble_eq_true rfl) ?_
  intro p e s m args below meth c H locs ls Q hC hl hI kr kv
  replace hC : gC p s m args c cX7_draught 2 RX7 E := hC
  replace hl : lv_has ls 2 [(0, .ref (E.2.1 150)), (1, .int v1)] := hl
  have hx := hC.1
  have hb := hC.2.1
  unfold f_X7_draught at hf
  refine lv_aload_n hx hb dX7_draught_0 rfl (lv_at hl 0 rfl) ?_
  refine lv_bipush (v := 10) hx hb dX7_draught_1 (by decide) ?_
  refine lv_iload_n hx hb dX7_draught_3 rfl (lv_at hl 1 rfl) ?_
  obtain ⟨r1, hr2, hf⟩ := gbind hf
  have hr2 := C_X7_shipNumber l E x  hr2
  refine g_callVi (rest := []) hC hI hr2 Y_X7_shipNumber V_X7_shipNumber w1533 (rcv_X7 hC hI) ⟨rfl, rfl⟩ ⟨Nat.le_of_ble_eq_true rfl, Nat.le_of_ble_eq_true rfl⟩ rfl hl.1 rfl (Nat.le_of_ble_eq_true rfl) dX7_draught_4 ⟨Nat.le_of_ble_eq_true rfl, Nat.le_of_ble_eq_true rfl⟩ (fun H locs hI => ?_)
  exact kr _ _ _ _ _ _ (grw hf) hI ⟨.int, rfl, rfl⟩ dX7_draught_7
theorem dX7_dueHour_0 : decode cX7_dueHour 0 = .ok (.aload_n 0, 1) := by decide +kernel
theorem dX7_dueHour_1 : decode cX7_dueHour 1 = .ok (.bipush 13, 2) := by decide +kernel
theorem dX7_dueHour_3 : decode cX7_dueHour 3 = .ok (.iload_n 1, 1) := by decide +kernel
theorem dX7_dueHour_4 : decode cX7_dueHour 4 = .ok (.invokevirtual 149, 3) := by decide +kernel
theorem dX7_dueHour_7 : decode cX7_dueHour 7 = .ok (.ireturn, 1) := by decide +kernel
set_option maxRecDepth 100000 in
set_option maxHeartbeats 4000000 in
theorem C_X7_dueHour (l : Launch) (E : gE) (x : gX) {v1 : Int32} {M : gM} {r : Int32} {M' : gM} (hf : f_X7_dueHour v1 M = some (r, M')) : gM0 l E yX7_dueHour (.code yX7_dueHour cX7_dueHour 2 (some .int)) (gR 4 86) M x [.ref (E.2.1 150), .int v1] (some (.int r)) M' := by
  refine gMet (by decide +kernel) (Nat.le_of_ble_eq_true rfl) ?_
  intro p e s m args below meth c H locs ls Q hC hl hI kr kv
  replace hC : gC p s m args c cX7_dueHour 2 RX7 E := hC
  replace hl : lv_has ls 2 [(0, .ref (E.2.1 150)), (1, .int v1)] := hl
  have hx := hC.1
  have hb := hC.2.1
  unfold f_X7_dueHour at hf
  refine lv_aload_n hx hb dX7_dueHour_0 rfl (lv_at hl 0 rfl) ?_
  refine lv_bipush (v := 13) hx hb dX7_dueHour_1 (by decide) ?_
  refine lv_iload_n hx hb dX7_dueHour_3 rfl (lv_at hl 1 rfl) ?_
  obtain ⟨r1, hr2, hf⟩ := gbind hf
  have hr2 := C_X7_shipNumber l E x  hr2
  refine g_callVi (rest := []) hC hI hr2 Y_X7_shipNumber V_X7_shipNumber w1533 (rcv_X7 hC hI) ⟨rfl, rfl⟩ ⟨Nat.le_of_ble_eq_true rfl, Nat.le_of_ble_eq_true rfl⟩ rfl hl.1 rfl (Nat.le_of_ble_eq_true rfl) dX7_dueHour_4 ⟨Nat.le_of_ble_eq_true rfl, Nat.le_of_ble_eq_true rfl⟩ (fun H locs hI => ?_)
  exact kr _ _ _ _ _ _ (grw hf) hI ⟨.int, rfl, rfl⟩ dX7_dueHour_7
theorem dX7_floats_0 : decode cX7_floats 0 = .ok (.aload_n 0, 1) := by decide +kernel
theorem dX7_floats_1 : decode cX7_floats 1 = .ok (.aload_n 0, 1) := by decide +kernel
theorem dX7_floats_2 : decode cX7_floats 2 = .ok (.iload_n 1, 1) := by decide +kernel
theorem dX7_floats_3 : decode cX7_floats 3 = .ok (.invokevirtual 146, 3) := by decide +kernel
theorem dX7_floats_6 : decode cX7_floats 6 = .ok (.putfield 42, 3) := by decide +kernel
theorem dX7_floats_9 : decode cX7_floats 9 = .ok (.aload_n 0, 1) := by decide +kernel
theorem dX7_floats_10 : decode cX7_floats 10 = .ok (.getfield 42, 3) := by decide +kernel
theorem dX7_floats_13 : decode cX7_floats 13 = .ok (.ifCond .ne 21, 3) := by decide +kernel
theorem dX7_floats_16 : decode cX7_floats 16 = .ok (.aload_n 0, 1) := by decide +kernel
theorem dX7_floats_17 : decode cX7_floats 17 = .ok (.iload_n 1, 1) := by decide +kernel
theorem dX7_floats_18 : decode cX7_floats 18 = .ok (.aload_n 0, 1) := by decide +kernel
theorem dX7_floats_19 : decode cX7_floats 19 = .ok (.getfield 7, 3) := by decide +kernel
theorem dX7_floats_22 : decode cX7_floats 22 = .ok (.iconst 0, 1) := by decide +kernel
theorem dX7_floats_23 : decode cX7_floats 23 = .ok (.iaload, 1) := by decide +kernel
theorem dX7_floats_24 : decode cX7_floats 24 = .ok (.invokevirtual 128, 3) := by decide +kernel
theorem dX7_floats_27 : decode cX7_floats 27 = .ok (.ifCond .eq 7, 3) := by decide +kernel
theorem dX7_floats_30 : decode cX7_floats 30 = .ok (.iconst 1, 1) := by decide +kernel
theorem dX7_floats_31 : decode cX7_floats 31 = .ok (.goto 4, 3) := by decide +kernel
theorem dX7_floats_34 : decode cX7_floats 34 = .ok (.iconst 0, 1) := by decide +kernel
theorem dX7_floats_35 : decode cX7_floats 35 = .ok (.ireturn, 1) := by decide +kernel
set_option maxRecDepth 100000 in
set_option maxHeartbeats 4000000 in
theorem C_X7_floats (l : Launch) (E : gE) (x : gX) {v1 : Int32} {M : gM} {r : Bool} {M' : gM} (hf : f_X7_floats v1 M = some (r, M')) : gM0 l E yX7_floats (.code yX7_floats cX7_floats 2 (some .boolean)) (gR 3 63) M x [.ref (E.2.1 150), .int v1] (some (.int (gb r))) M' := by
  refine gMet (by decide +kernel) (Nat.le_of_ble_eq_true rfl) ?_
  intro p e s m args below meth c H locs ls Q hC hl hI kr kv
  replace hC : gC p s m args c cX7_floats 2 RX7 E := hC
  replace hl : lv_has ls 2 [(0, .ref (E.2.1 150)), (1, .int v1)] := hl
  have hx := hC.1
  have hb := hC.2.1
  unfold f_X7_floats at hf
  refine lv_aload_n hx hb dX7_floats_0 rfl (lv_at hl 0 rfl) ?_
  refine lv_aload_n hx hb dX7_floats_1 rfl (lv_at hl 0 rfl) ?_
  refine lv_iload_n hx hb dX7_floats_2 rfl (lv_at hl 1 rfl) ?_
  obtain ⟨r1, hr2, hf⟩ := gbind hf
  have hr2 := C_X7_whyNoShip l E x  hr2
  refine g_callVi (rest := [.ref (E.2.1 150)]) hC hI hr2 Y_X7_whyNoShip V_X7_whyNoShip w1537 (rcv_X7 hC hI) ⟨rfl, rfl⟩ ⟨Nat.le_of_ble_eq_true rfl, Nat.le_of_ble_eq_true rfl⟩ rfl hl.1 rfl (Nat.le_of_ble_eq_true rfl) dX7_floats_3 ⟨Nat.le_of_ble_eq_true rfl, Nat.le_of_ble_eq_true rfl⟩ (fun H locs hI => ?_)
  obtain ⟨M3, eM3, hf⟩ := glet hf
  refine pt_X7_X7_thrown hC hI dX7_floats_6 (fun H locs hI => ?_)
  replace hI := g_mem eM3 hI
  refine lv_aload_n hx hb dX7_floats_9 rfl (lv_at hl 0 rfl) ?_
  refine gt_X7_X7_thrown hC hI dX7_floats_10 ?_
  refine lv_if_ne (tgt := 34) hx hb dX7_floats_13 rfl (fun h4 => ?_) (fun h4 => ?_)
  · replace hf := gifn h4 hf
    refine lv_iconst (v := 0) hx hb dX7_floats_34 (by decide) ?_
    exact kr _ _ _ _ _ _ (grwb0 hf) hI ⟨.boolean, rfl, rfl⟩ dX7_floats_35
  · replace hf := gif h4 hf
    refine lv_aload_n hx hb dX7_floats_16 rfl (lv_at hl 0 rfl) ?_
    refine lv_iload_n hx hb dX7_floats_17 rfl (lv_at hl 1 rfl) ?_
    refine lv_aload_n hx hb dX7_floats_18 rfl (lv_at hl 0 rfl) ?_
    refine gt_X7_X7_g hC hI dX7_floats_19 ?_
    refine lv_iconst (v := 0) hx hb dX7_floats_22 (by decide) ?_
    refine g_iald hC hI (k := 0) gIA_151 (by decide) rfl dX7_floats_23 ?_
    obtain ⟨r5, hr6, hf⟩ := gbind hf
    have hr6 := C_X7_floatsAt l E x  hr6
    refine g_callVi (rest := []) hC hI hr6 Y_X7_floatsAt V_X7_floatsAt w1490 (rcv_X7 hC hI) ⟨rfl, rfl⟩ ⟨Nat.le_of_ble_eq_true rfl, Nat.le_of_ble_eq_true rfl⟩ rfl hl.1 rfl (Nat.le_of_ble_eq_true rfl) dX7_floats_24 ⟨Nat.le_of_ble_eq_true rfl, Nat.le_of_ble_eq_true rfl⟩ (fun H locs hI => ?_)
    refine lv_if_eq (tgt := 34) hx hb dX7_floats_27 rfl (fun h7 => ?_) (fun h7 => ?_)
    · replace hf := gif h7 hf
      refine lv_iconst (v := 0) hx hb dX7_floats_34 (by decide) ?_
      exact kr _ _ _ _ _ _ (grwb0 hf) hI ⟨.boolean, rfl, rfl⟩ dX7_floats_35
    · replace hf := gifn h7 hf
      refine lv_iconst (v := 1) hx hb dX7_floats_30 (by decide) ?_
      refine lv_goto (tgt := 35) hx hb dX7_floats_31 rfl ?_
      exact kr _ _ _ _ _ _ (grwb1 hf) hI ⟨.boolean, rfl, rfl⟩ dX7_floats_35
theorem dX7_hoursUntilFloating_0 : decode cX7_hoursUntilFloating 0 = .ok (.aload_n 0, 1) := by decide +kernel
theorem dX7_hoursUntilFloating_1 : decode cX7_hoursUntilFloating 1 = .ok (.iload_n 1, 1) := by decide +kernel
theorem dX7_hoursUntilFloating_2 : decode cX7_hoursUntilFloating 2 = .ok (.invokevirtual 146, 3) := by decide +kernel
theorem dX7_hoursUntilFloating_5 : decode cX7_hoursUntilFloating 5 = .ok (.istore_n 2, 1) := by decide +kernel
theorem dX7_hoursUntilFloating_6 : decode cX7_hoursUntilFloating 6 = .ok (.iload_n 2, 1) := by decide +kernel
theorem dX7_hoursUntilFloating_7 : decode cX7_hoursUntilFloating 7 = .ok (.ifCond .le 9, 3) := by decide +kernel
theorem dX7_hoursUntilFloating_10 : decode cX7_hoursUntilFloating 10 = .ok (.aload_n 0, 1) := by decide +kernel
theorem dX7_hoursUntilFloating_11 : decode cX7_hoursUntilFloating 11 = .ok (.iload_n 2, 1) := by decide +kernel
theorem dX7_hoursUntilFloating_12 : decode cX7_hoursUntilFloating 12 = .ok (.invokevirtual 67, 3) := by decide +kernel
theorem dX7_hoursUntilFloating_15 : decode cX7_hoursUntilFloating 15 = .ok (.ireturn, 1) := by decide +kernel
theorem dX7_hoursUntilFloating_16 : decode cX7_hoursUntilFloating 16 = .ok (.iconst 0, 1) := by decide +kernel
theorem dX7_hoursUntilFloating_17 : decode cX7_hoursUntilFloating 17 = .ok (.istore_n 3, 1) := by decide +kernel
theorem dX7_hoursUntilFloating_18 : decode cX7_hoursUntilFloating 18 = .ok (.aload_n 0, 1) := by decide +kernel
theorem dX7_hoursUntilFloating_19 : decode cX7_hoursUntilFloating 19 = .ok (.iload_n 1, 1) := by decide +kernel
theorem dX7_hoursUntilFloating_20 : decode cX7_hoursUntilFloating 20 = .ok (.aload_n 0, 1) := by decide +kernel
theorem dX7_hoursUntilFloating_21 : decode cX7_hoursUntilFloating 21 = .ok (.getfield 7, 3) := by decide +kernel
theorem dX7_hoursUntilFloating_24 : decode cX7_hoursUntilFloating 24 = .ok (.iconst 0, 1) := by decide +kernel
theorem dX7_hoursUntilFloating_25 : decode cX7_hoursUntilFloating 25 = .ok (.iaload, 1) := by decide +kernel
theorem dX7_hoursUntilFloating_26 : decode cX7_hoursUntilFloating 26 = .ok (.iload_n 3, 1) := by decide +kernel
theorem dX7_hoursUntilFloating_27 : decode cX7_hoursUntilFloating 27 = .ok (.iadd, 1) := by decide +kernel
theorem dX7_hoursUntilFloating_28 : decode cX7_hoursUntilFloating 28 = .ok (.invokevirtual 128, 3) := by decide +kernel
theorem dX7_hoursUntilFloating_31 : decode cX7_hoursUntilFloating 31 = .ok (.ifCond .ne 9, 3) := by decide +kernel
theorem dX7_hoursUntilFloating_34 : decode cX7_hoursUntilFloating 34 = .ok (.iinc 3 1, 3) := by decide +kernel
theorem dX7_hoursUntilFloating_37 : decode cX7_hoursUntilFloating 37 = .ok (.goto (-19), 3) := by decide +kernel
theorem dX7_hoursUntilFloating_40 : decode cX7_hoursUntilFloating 40 = .ok (.aload_n 0, 1) := by decide +kernel
theorem dX7_hoursUntilFloating_41 : decode cX7_hoursUntilFloating 41 = .ok (.iload_n 3, 1) := by decide +kernel
theorem dX7_hoursUntilFloating_42 : decode cX7_hoursUntilFloating 42 = .ok (.invokevirtual 75, 3) := by decide +kernel
theorem dX7_hoursUntilFloating_45 : decode cX7_hoursUntilFloating 45 = .ok (.ireturn, 1) := by decide +kernel
set_option maxRecDepth 100000 in
set_option maxHeartbeats 4000000 in
theorem C_X7_hoursUntilFloating (l : Launch) (E : gE) (x : gX) {v1 : Int32} {M : gM} {r : Int32} {M' : gM} (hf : f_X7_hoursUntilFloating v1 M = some (r, M')) : gM0 l E yX7_hoursUntilFloating (.code yX7_hoursUntilFloating cX7_hoursUntilFloating 4 (some .int)) (gR 3 63) M x [.ref (E.2.1 150), .int v1] (some (.int r)) M' := by
  refine gMet (by decide +kernel) (Nat.le_of_ble_eq_true rfl) ?_
  intro p e s m args below meth c H locs ls Q hC hl hI kr kv
  replace hC : gC p s m args c cX7_hoursUntilFloating 4 RX7 E := hC
  replace hl : lv_has ls 4 [(0, .ref (E.2.1 150)), (1, .int v1)] := hl
  have hx := hC.1
  have hb := hC.2.1
  have L18 : ∀ (v2 : Int32) (v1 : Int32) (n : Nat) (v3 : Int32) (M : gM), f_X7_hoursUntilFloating_L18 v2 v1 n v3 M = some (r, M') → ∀ (H : Heap) (locs : List Loc) (ls : Array Slot), gI E s M x H locs → lv_has ls 4 [(3, .int v3), (2, .int v2), (0, .ref (E.2.1 150)), (1, .int v1)] → W p l e (gR 3 63) s m args below meth c H locs 0 0 Q (F0 m 18 ls []) := by
    intro v2 v1 n
    induction n with
    | zero => intro v3 M hf; rw [f_X7_hoursUntilFloating_L18] at hf; cases hf
    | succ n ih =>
      intro v3 M hf H locs ls hI hl
      rw [f_X7_hoursUntilFloating_L18] at hf
      refine lv_aload_n hx hb dX7_hoursUntilFloating_18 rfl (lv_at hl 2 rfl) ?_
      refine lv_iload_n hx hb dX7_hoursUntilFloating_19 rfl (lv_at hl 3 rfl) ?_
      refine lv_aload_n hx hb dX7_hoursUntilFloating_20 rfl (lv_at hl 2 rfl) ?_
      refine gt_X7_X7_g hC hI dX7_hoursUntilFloating_21 ?_
      refine lv_iconst (v := 0) hx hb dX7_hoursUntilFloating_24 (by decide) ?_
      refine g_iald hC hI (k := 0) gIA_151 (by decide) rfl dX7_hoursUntilFloating_25 ?_
      refine lv_iload_n hx hb dX7_hoursUntilFloating_26 rfl (lv_at hl 0 rfl) ?_
      refine lv_iadd hx hb dX7_hoursUntilFloating_27 ?_
      obtain ⟨r4, hr5, hf⟩ := gbind hf
      have hr5 := C_X7_floatsAt l E x  hr5
      refine g_callVi (rest := []) hC hI hr5 Y_X7_floatsAt V_X7_floatsAt w1490 (rcv_X7 hC hI) ⟨rfl, rfl⟩ ⟨Nat.le_of_ble_eq_true rfl, Nat.le_of_ble_eq_true rfl⟩ rfl hl.1 rfl (Nat.le_of_ble_eq_true rfl) dX7_hoursUntilFloating_28 ⟨Nat.le_of_ble_eq_true rfl, Nat.le_of_ble_eq_true rfl⟩ (fun H locs hI => ?_)
      refine lv_if_ne (tgt := 40) hx hb dX7_hoursUntilFloating_31 rfl (fun h6 => ?_) (fun h6 => ?_)
      · replace hf := gifn h6 hf
        refine lv_aload_n hx hb dX7_hoursUntilFloating_40 rfl (lv_at hl 2 rfl) ?_
        refine lv_iload_n hx hb dX7_hoursUntilFloating_41 rfl (lv_at hl 0 rfl) ?_
        obtain ⟨r7, hr8, hf⟩ := gbind hf
        have hr8 := C_X7_done l E x  hr8
        refine g_callVi (rest := []) hC hI hr8 Y_X7_done V_X7_done w1409 (rcv_X7 hC hI) ⟨rfl, rfl⟩ ⟨Nat.le_of_ble_eq_true rfl, Nat.le_of_ble_eq_true rfl⟩ rfl hl.1 rfl (Nat.le_of_ble_eq_true rfl) dX7_hoursUntilFloating_42 ⟨Nat.le_of_ble_eq_true rfl, Nat.le_of_ble_eq_true rfl⟩ (fun H locs hI => ?_)
        exact kr _ _ _ _ _ _ (grw hf) hI ⟨.int, rfl, rfl⟩ dX7_hoursUntilFloating_45
      · replace hf := gif h6 hf
        refine lv_iinc (k := 0) (v := v3 + 1) (lv' := [(3, .int (v3 + 1)), (2, .int v2), (0, .ref (E.2.1 150)), (1, .int v1)]) hx hb dX7_hoursUntilFloating_34 hl rfl rfl (by decide) rfl (fun ls hl => ?_)
        refine lv_goto (tgt := 18) hx hb dX7_hoursUntilFloating_37 rfl ?_
        exact ih (v3 + 1) M hf _ _ _ hI (lv_sub hl [0, 1, 2, 3] rfl)
  unfold f_X7_hoursUntilFloating at hf
  refine lv_aload_n hx hb dX7_hoursUntilFloating_0 rfl (lv_at hl 0 rfl) ?_
  refine lv_iload_n hx hb dX7_hoursUntilFloating_1 rfl (lv_at hl 1 rfl) ?_
  obtain ⟨r1, hr2, hf⟩ := gbind hf
  have hr2 := C_X7_whyNoShip l E x  hr2
  refine g_callVi (rest := []) hC hI hr2 Y_X7_whyNoShip V_X7_whyNoShip w1537 (rcv_X7 hC hI) ⟨rfl, rfl⟩ ⟨Nat.le_of_ble_eq_true rfl, Nat.le_of_ble_eq_true rfl⟩ rfl hl.1 rfl (Nat.le_of_ble_eq_true rfl) dX7_hoursUntilFloating_2 ⟨Nat.le_of_ble_eq_true rfl, Nat.le_of_ble_eq_true rfl⟩ (fun H locs hI => ?_)
  refine lv_istore_n (lv' := [(2, .int r1), (0, .ref (E.2.1 150)), (1, .int v1)]) hx hb dX7_hoursUntilFloating_5 rfl hl (by decide) rfl (fun ls hl => ?_)
  refine lv_iload_n hx hb dX7_hoursUntilFloating_6 rfl (lv_at hl 0 rfl) ?_
  refine lv_if_le (tgt := 16) hx hb dX7_hoursUntilFloating_7 rfl (fun h3 => ?_) (fun h3 => ?_)
  · replace hf := gif h3 hf
    refine lv_iconst (v := 0) hx hb dX7_hoursUntilFloating_16 (by decide) ?_
    refine lv_istore_n (lv' := [(3, .int 0), (2, .int r1), (0, .ref (E.2.1 150)), (1, .int v1)]) hx hb dX7_hoursUntilFloating_17 rfl hl (by decide) rfl (fun ls hl => ?_)
    exact L18 r1 v1 gF 0 M hf _ _ _ hI (lv_sub hl [0, 1, 2, 3] rfl)
  · replace hf := gifn h3 hf
    refine lv_aload_n hx hb dX7_hoursUntilFloating_10 rfl (lv_at hl 1 rfl) ?_
    refine lv_iload_n hx hb dX7_hoursUntilFloating_11 rfl (lv_at hl 0 rfl) ?_
    obtain ⟨r9, hr10, hf⟩ := gbind hf
    have hr10 := C_X7_fails l E x  hr10
    refine g_callVi (rest := []) hC hI hr10 Y_X7_fails V_X7_fails w1401 (rcv_X7 hC hI) ⟨rfl, rfl⟩ ⟨Nat.le_of_ble_eq_true rfl, Nat.le_of_ble_eq_true rfl⟩ rfl hl.1 rfl (Nat.le_of_ble_eq_true rfl) dX7_hoursUntilFloating_12 ⟨Nat.le_of_ble_eq_true rfl, Nat.le_of_ble_eq_true rfl⟩ (fun H locs hI => ?_)
    exact kr _ _ _ _ _ _ (grw hf) hI ⟨.int, rfl, rfl⟩ dX7_hoursUntilFloating_15
theorem dX7_hoursUntilFloatingByTide_0 : decode cX7_hoursUntilFloatingByTide 0 = .ok (.aload_n 0, 1) := by decide +kernel
theorem dX7_hoursUntilFloatingByTide_1 : decode cX7_hoursUntilFloatingByTide 1 = .ok (.iload_n 1, 1) := by decide +kernel
theorem dX7_hoursUntilFloatingByTide_2 : decode cX7_hoursUntilFloatingByTide 2 = .ok (.invokevirtual 152, 3) := by decide +kernel
theorem dX7_hoursUntilFloatingByTide_5 : decode cX7_hoursUntilFloatingByTide 5 = .ok (.ireturn, 1) := by decide +kernel
set_option maxRecDepth 100000 in
set_option maxHeartbeats 4000000 in
theorem C_X7_hoursUntilFloatingByTide (l : Launch) (E : gE) (x : gX) {v1 : Int32} {M : gM} {r : Int32} {M' : gM} (hf : f_X7_hoursUntilFloatingByTide v1 M = some (r, M')) : gM0 l E yX7_hoursUntilFloatingByTide (.code yX7_hoursUntilFloatingByTide cX7_hoursUntilFloatingByTide 2 (some .int)) (gR 4 86) M x [.ref (E.2.1 150), .int v1] (some (.int r)) M' := by
  refine gMet (by decide +kernel) (Nat.le_of_ble_eq_true rfl) ?_
  intro p e s m args below meth c H locs ls Q hC hl hI kr kv
  replace hC : gC p s m args c cX7_hoursUntilFloatingByTide 2 RX7 E := hC
  replace hl : lv_has ls 2 [(0, .ref (E.2.1 150)), (1, .int v1)] := hl
  have hx := hC.1
  have hb := hC.2.1
  unfold f_X7_hoursUntilFloatingByTide at hf
  refine lv_aload_n hx hb dX7_hoursUntilFloatingByTide_0 rfl (lv_at hl 0 rfl) ?_
  refine lv_iload_n hx hb dX7_hoursUntilFloatingByTide_1 rfl (lv_at hl 1 rfl) ?_
  obtain ⟨r1, hr2, hf⟩ := gbind hf
  have hr2 := C_X7_hoursUntilFloating l E x  hr2
  refine g_callVi (rest := []) hC hI hr2 Y_X7_hoursUntilFloating V_X7_hoursUntilFloating w1557 (rcv_X7 hC hI) ⟨rfl, rfl⟩ ⟨Nat.le_of_ble_eq_true rfl, Nat.le_of_ble_eq_true rfl⟩ rfl hl.1 rfl (Nat.le_of_ble_eq_true rfl) dX7_hoursUntilFloatingByTide_2 ⟨Nat.le_of_ble_eq_true rfl, Nat.le_of_ble_eq_true rfl⟩ (fun H locs hI => ?_)
  exact kr _ _ _ _ _ _ (grw hf) hI ⟨.int, rfl, rfl⟩ dX7_hoursUntilFloatingByTide_5
theorem dX7_isMoreUrgent_0 : decode cX7_isMoreUrgent 0 = .ok (.aload_n 0, 1) := by decide +kernel
theorem dX7_isMoreUrgent_1 : decode cX7_isMoreUrgent 1 = .ok (.getfield 7, 3) := by decide +kernel
theorem dX7_isMoreUrgent_4 : decode cX7_isMoreUrgent 4 = .ok (.bipush 13, 2) := by decide +kernel
theorem dX7_isMoreUrgent_6 : decode cX7_isMoreUrgent 6 = .ok (.iload_n 2, 1) := by decide +kernel
theorem dX7_isMoreUrgent_7 : decode cX7_isMoreUrgent 7 = .ok (.iadd, 1) := by decide +kernel
theorem dX7_isMoreUrgent_8 : decode cX7_isMoreUrgent 8 = .ok (.iaload, 1) := by decide +kernel
theorem dX7_isMoreUrgent_9 : decode cX7_isMoreUrgent 9 = .ok (.aload_n 0, 1) := by decide +kernel
theorem dX7_isMoreUrgent_10 : decode cX7_isMoreUrgent 10 = .ok (.getfield 7, 3) := by decide +kernel
theorem dX7_isMoreUrgent_13 : decode cX7_isMoreUrgent 13 = .ok (.bipush 13, 2) := by decide +kernel
theorem dX7_isMoreUrgent_15 : decode cX7_isMoreUrgent 15 = .ok (.iload_n 1, 1) := by decide +kernel
theorem dX7_isMoreUrgent_16 : decode cX7_isMoreUrgent 16 = .ok (.iadd, 1) := by decide +kernel
theorem dX7_isMoreUrgent_17 : decode cX7_isMoreUrgent 17 = .ok (.iaload, 1) := by decide +kernel
theorem dX7_isMoreUrgent_18 : decode cX7_isMoreUrgent 18 = .ok (.isub, 1) := by decide +kernel
theorem dX7_isMoreUrgent_19 : decode cX7_isMoreUrgent 19 = .ok (.istore_n 3, 1) := by decide +kernel
theorem dX7_isMoreUrgent_20 : decode cX7_isMoreUrgent 20 = .ok (.iload_n 3, 1) := by decide +kernel
theorem dX7_isMoreUrgent_21 : decode cX7_isMoreUrgent 21 = .ok (.ifCond .gt 20, 3) := by decide +kernel
theorem dX7_isMoreUrgent_24 : decode cX7_isMoreUrgent 24 = .ok (.iload_n 3, 1) := by decide +kernel
theorem dX7_isMoreUrgent_25 : decode cX7_isMoreUrgent 25 = .ok (.ifCond .ne 20, 3) := by decide +kernel
theorem dX7_isMoreUrgent_28 : decode cX7_isMoreUrgent 28 = .ok (.aload_n 0, 1) := by decide +kernel
theorem dX7_isMoreUrgent_29 : decode cX7_isMoreUrgent 29 = .ok (.iload_n 1, 1) := by decide +kernel
theorem dX7_isMoreUrgent_30 : decode cX7_isMoreUrgent 30 = .ok (.invokevirtual 125, 3) := by decide +kernel
theorem dX7_isMoreUrgent_33 : decode cX7_isMoreUrgent 33 = .ok (.aload_n 0, 1) := by decide +kernel
theorem dX7_isMoreUrgent_34 : decode cX7_isMoreUrgent 34 = .ok (.iload_n 2, 1) := by decide +kernel
theorem dX7_isMoreUrgent_35 : decode cX7_isMoreUrgent 35 = .ok (.invokevirtual 125, 3) := by decide +kernel
theorem dX7_isMoreUrgent_38 : decode cX7_isMoreUrgent 38 = .ok (.if_icmp .le 7, 3) := by decide +kernel
theorem dX7_isMoreUrgent_41 : decode cX7_isMoreUrgent 41 = .ok (.iconst 1, 1) := by decide +kernel
theorem dX7_isMoreUrgent_42 : decode cX7_isMoreUrgent 42 = .ok (.goto 4, 3) := by decide +kernel
theorem dX7_isMoreUrgent_45 : decode cX7_isMoreUrgent 45 = .ok (.iconst 0, 1) := by decide +kernel
theorem dX7_isMoreUrgent_46 : decode cX7_isMoreUrgent 46 = .ok (.ireturn, 1) := by decide +kernel
set_option maxRecDepth 100000 in
set_option maxHeartbeats 4000000 in
theorem C_X7_isMoreUrgent (l : Launch) (E : gE) (x : gX) {v1 v2 : Int32} {M : gM} {r : Bool} (hf : f_X7_isMoreUrgent v1 v2 M = some r) : gM0 l E yX7_isMoreUrgent (.code yX7_isMoreUrgent cX7_isMoreUrgent 4 (some .boolean)) (gR 2 45) M x [.ref (E.2.1 150), .int v1, .int v2] (some (.int (gb r))) M := by
  refine gMet (by decide +kernel) (Nat.le_of_ble_eq_true rfl) ?_
  intro p e s m args below meth c H locs ls Q hC hl hI kr kv
  replace hC : gC p s m args c cX7_isMoreUrgent 4 RX7 E := hC
  replace hl : lv_has ls 4 [(0, .ref (E.2.1 150)), (1, .int v1), (2, .int v2)] := hl
  have hx := hC.1
  have hb := hC.2.1
  unfold f_X7_isMoreUrgent at hf
  refine lv_aload_n hx hb dX7_isMoreUrgent_0 rfl (lv_at hl 0 rfl) ?_
  refine gt_X7_X7_g hC hI dX7_isMoreUrgent_1 ?_
  refine lv_bipush (v := 13) hx hb dX7_isMoreUrgent_4 (by decide) ?_
  refine lv_iload_n hx hb dX7_isMoreUrgent_6 rfl (lv_at hl 2 rfl) ?_
  refine lv_iadd hx hb dX7_isMoreUrgent_7 ?_
  obtain ⟨h1, hf⟩ := gifN hf
  refine g_iald hC hI (k := (13 + v2).toNatClampNeg) gIA_151 h1 rfl dX7_isMoreUrgent_8 ?_
  refine lv_aload_n hx hb dX7_isMoreUrgent_9 rfl (lv_at hl 0 rfl) ?_
  refine gt_X7_X7_g hC hI dX7_isMoreUrgent_10 ?_
  refine lv_bipush (v := 13) hx hb dX7_isMoreUrgent_13 (by decide) ?_
  refine lv_iload_n hx hb dX7_isMoreUrgent_15 rfl (lv_at hl 1 rfl) ?_
  refine lv_iadd hx hb dX7_isMoreUrgent_16 ?_
  obtain ⟨h2, hf⟩ := gifN hf
  refine g_iald hC hI (k := (13 + v1).toNatClampNeg) gIA_151 h2 rfl dX7_isMoreUrgent_17 ?_
  refine lv_isub hx hb dX7_isMoreUrgent_18 ?_
  obtain ⟨z3, ez3, hf⟩ := glet hf
  refine g_top ez3 ?_
  refine lv_istore_n (lv' := [(3, .int z3), (0, .ref (E.2.1 150)), (1, .int v1), (2, .int v2)]) hx hb dX7_isMoreUrgent_19 rfl hl (by decide) rfl (fun ls hl => ?_)
  refine lv_iload_n hx hb dX7_isMoreUrgent_20 rfl (lv_at hl 0 rfl) ?_
  refine lv_if_gt (tgt := 41) hx hb dX7_isMoreUrgent_21 rfl (fun h4 => ?_) (fun h4 => ?_)
  · replace hf := gif h4 hf
    refine lv_iconst (v := 1) hx hb dX7_isMoreUrgent_41 (by decide) ?_
    refine lv_goto (tgt := 46) hx hb dX7_isMoreUrgent_42 rfl ?_
    exact kr _ _ _ _ _ _ (grb1 hf) hI ⟨.boolean, rfl, rfl⟩ dX7_isMoreUrgent_46
  · replace hf := gifn h4 hf
    refine lv_iload_n hx hb dX7_isMoreUrgent_24 rfl (lv_at hl 0 rfl) ?_
    refine lv_if_ne (tgt := 45) hx hb dX7_isMoreUrgent_25 rfl (fun h5 => ?_) (fun h5 => ?_)
    · replace hf := gifn h5 hf
      refine lv_iconst (v := 0) hx hb dX7_isMoreUrgent_45 (by decide) ?_
      exact kr _ _ _ _ _ _ (grb0 hf) hI ⟨.boolean, rfl, rfl⟩ dX7_isMoreUrgent_46
    · replace hf := gif h5 hf
      refine lv_aload_n hx hb dX7_isMoreUrgent_28 rfl (lv_at hl 1 rfl) ?_
      refine lv_iload_n hx hb dX7_isMoreUrgent_29 rfl (lv_at hl 2 rfl) ?_
      obtain ⟨r6, hr7, hf⟩ := gbind hf
      have hr7 := C_X7_load l E x  hr7
      refine g_callVi (rest := []) hC hI hr7 Y_X7_load V_X7_load w1486 (rcv_X7 hC hI) ⟨rfl, rfl⟩ ⟨Nat.le_of_ble_eq_true rfl, Nat.le_of_ble_eq_true rfl⟩ rfl hl.1 rfl (Nat.le_of_ble_eq_true rfl) dX7_isMoreUrgent_30 ⟨Nat.le_of_ble_eq_true rfl, Nat.le_of_ble_eq_true rfl⟩ (fun H locs hI => ?_)
      refine lv_aload_n hx hb dX7_isMoreUrgent_33 rfl (lv_at hl 1 rfl) ?_
      refine lv_iload_n hx hb dX7_isMoreUrgent_34 rfl (lv_at hl 3 rfl) ?_
      obtain ⟨r8, hr9, hf⟩ := gbind hf
      have hr9 := C_X7_load l E x  hr9
      refine g_callVi (rest := [.int r6]) hC hI hr9 Y_X7_load V_X7_load w1486 (rcv_X7 hC hI) ⟨rfl, rfl⟩ ⟨Nat.le_of_ble_eq_true rfl, Nat.le_of_ble_eq_true rfl⟩ rfl hl.1 rfl (Nat.le_of_ble_eq_true rfl) dX7_isMoreUrgent_35 ⟨Nat.le_of_ble_eq_true rfl, Nat.le_of_ble_eq_true rfl⟩ (fun H locs hI => ?_)
      refine lv_icmp_le (tgt := 45) hx hb dX7_isMoreUrgent_38 rfl (fun h10 => ?_) (fun h10 => ?_)
      · replace hf := gif h10 hf
        refine lv_iconst (v := 0) hx hb dX7_isMoreUrgent_45 (by decide) ?_
        exact kr _ _ _ _ _ _ (grb0 hf) hI ⟨.boolean, rfl, rfl⟩ dX7_isMoreUrgent_46
      · replace hf := gifn h10 hf
        refine lv_iconst (v := 1) hx hb dX7_isMoreUrgent_41 (by decide) ?_
        refine lv_goto (tgt := 46) hx hb dX7_isMoreUrgent_42 rfl ?_
        exact kr _ _ _ _ _ _ (grb1 hf) hI ⟨.boolean, rfl, rfl⟩ dX7_isMoreUrgent_46
theorem dX7_mostUrgent_0 : decode cX7_mostUrgent 0 = .ok (.iconst (-1), 1) := by decide +kernel
theorem dX7_mostUrgent_1 : decode cX7_mostUrgent 1 = .ok (.istore_n 1, 1) := by decide +kernel
theorem dX7_mostUrgent_2 : decode cX7_mostUrgent 2 = .ok (.iconst 0, 1) := by decide +kernel
theorem dX7_mostUrgent_3 : decode cX7_mostUrgent 3 = .ok (.istore_n 2, 1) := by decide +kernel
theorem dX7_mostUrgent_4 : decode cX7_mostUrgent 4 = .ok (.iload_n 2, 1) := by decide +kernel
theorem dX7_mostUrgent_5 : decode cX7_mostUrgent 5 = .ok (.iconst 3, 1) := by decide +kernel
theorem dX7_mostUrgent_6 : decode cX7_mostUrgent 6 = .ok (.if_icmp .ge 42, 3) := by decide +kernel
theorem dX7_mostUrgent_9 : decode cX7_mostUrgent 9 = .ok (.aload_n 0, 1) := by decide +kernel
theorem dX7_mostUrgent_10 : decode cX7_mostUrgent 10 = .ok (.getfield 7, 3) := by decide +kernel
theorem dX7_mostUrgent_13 : decode cX7_mostUrgent 13 = .ok (.bipush 7, 2) := by decide +kernel
theorem dX7_mostUrgent_15 : decode cX7_mostUrgent 15 = .ok (.iload_n 2, 1) := by decide +kernel
theorem dX7_mostUrgent_16 : decode cX7_mostUrgent 16 = .ok (.iadd, 1) := by decide +kernel
theorem dX7_mostUrgent_17 : decode cX7_mostUrgent 17 = .ok (.iaload, 1) := by decide +kernel
theorem dX7_mostUrgent_18 : decode cX7_mostUrgent 18 = .ok (.iconst 1, 1) := by decide +kernel
theorem dX7_mostUrgent_19 : decode cX7_mostUrgent 19 = .ok (.if_icmp .ne 23, 3) := by decide +kernel
theorem dX7_mostUrgent_22 : decode cX7_mostUrgent 22 = .ok (.iload_n 1, 1) := by decide +kernel
theorem dX7_mostUrgent_23 : decode cX7_mostUrgent 23 = .ok (.iconst (-1), 1) := by decide +kernel
theorem dX7_mostUrgent_24 : decode cX7_mostUrgent 24 = .ok (.if_icmp .eq 12, 3) := by decide +kernel
theorem dX7_mostUrgent_27 : decode cX7_mostUrgent 27 = .ok (.aload_n 0, 1) := by decide +kernel
theorem dX7_mostUrgent_28 : decode cX7_mostUrgent 28 = .ok (.iload_n 2, 1) := by decide +kernel
theorem dX7_mostUrgent_29 : decode cX7_mostUrgent 29 = .ok (.iload_n 1, 1) := by decide +kernel
theorem dX7_mostUrgent_30 : decode cX7_mostUrgent 30 = .ok (.invokevirtual 155, 3) := by decide +kernel
theorem dX7_mostUrgent_33 : decode cX7_mostUrgent 33 = .ok (.ifCond .eq 7, 3) := by decide +kernel
theorem dX7_mostUrgent_36 : decode cX7_mostUrgent 36 = .ok (.iload_n 2, 1) := by decide +kernel
theorem dX7_mostUrgent_37 : decode cX7_mostUrgent 37 = .ok (.goto 4, 3) := by decide +kernel
theorem dX7_mostUrgent_40 : decode cX7_mostUrgent 40 = .ok (.iload_n 1, 1) := by decide +kernel
theorem dX7_mostUrgent_41 : decode cX7_mostUrgent 41 = .ok (.istore_n 1, 1) := by decide +kernel
theorem dX7_mostUrgent_42 : decode cX7_mostUrgent 42 = .ok (.iinc 2 1, 3) := by decide +kernel
theorem dX7_mostUrgent_45 : decode cX7_mostUrgent 45 = .ok (.goto (-41), 3) := by decide +kernel
theorem dX7_mostUrgent_48 : decode cX7_mostUrgent 48 = .ok (.iload_n 1, 1) := by decide +kernel
theorem dX7_mostUrgent_49 : decode cX7_mostUrgent 49 = .ok (.iconst (-1), 1) := by decide +kernel
theorem dX7_mostUrgent_50 : decode cX7_mostUrgent 50 = .ok (.if_icmp .ne 11, 3) := by decide +kernel
theorem dX7_mostUrgent_53 : decode cX7_mostUrgent 53 = .ok (.aload_n 0, 1) := by decide +kernel
theorem dX7_mostUrgent_54 : decode cX7_mostUrgent 54 = .ok (.iconst 1, 1) := by decide +kernel
theorem dX7_mostUrgent_55 : decode cX7_mostUrgent 55 = .ok (.invokevirtual 67, 3) := by decide +kernel
theorem dX7_mostUrgent_58 : decode cX7_mostUrgent 58 = .ok (.goto 8, 3) := by decide +kernel
theorem dX7_mostUrgent_61 : decode cX7_mostUrgent 61 = .ok (.aload_n 0, 1) := by decide +kernel
theorem dX7_mostUrgent_62 : decode cX7_mostUrgent 62 = .ok (.iload_n 1, 1) := by decide +kernel
theorem dX7_mostUrgent_63 : decode cX7_mostUrgent 63 = .ok (.invokevirtual 75, 3) := by decide +kernel
theorem dX7_mostUrgent_66 : decode cX7_mostUrgent 66 = .ok (.ireturn, 1) := by decide +kernel
set_option maxRecDepth 100000 in
set_option maxHeartbeats 4000000 in
theorem C_X7_mostUrgent (l : Launch) (E : gE) (x : gX) {M : gM} {r : Int32} {M' : gM} (hf : f_X7_mostUrgent M = some (r, M')) : gM0 l E yX7_mostUrgent (.code yX7_mostUrgent cX7_mostUrgent 3 (some .int)) (gR 3 68) M x [.ref (E.2.1 150)] (some (.int r)) M' := by
  refine gMet (by decide +kernel) (Nat.le_of_ble_eq_true rfl) ?_
  intro p e s m args below meth c H locs ls Q hC hl hI kr kv
  replace hC : gC p s m args c cX7_mostUrgent 3 RX7 E := hC
  replace hl : lv_has ls 3 [(0, .ref (E.2.1 150))] := hl
  have hx := hC.1
  have hb := hC.2.1
  have L4 : ∀ (n : Nat) (v2 : Int32) (v1 : Int32) (M : gM), f_X7_mostUrgent_L4  n v2 v1 M = some (r, M') → ∀ (H : Heap) (locs : List Loc) (ls : Array Slot), gI E s M x H locs → lv_has ls 3 [(2, .int v2), (1, .int v1), (0, .ref (E.2.1 150))] → W p l e (gR 3 68) s m args below meth c H locs 0 0 Q (F0 m 4 ls []) := by
    intro  n
    induction n with
    | zero => intro v2 v1 M hf; rw [f_X7_mostUrgent_L4] at hf; cases hf
    | succ n ih =>
      intro v2 v1 M hf H locs ls hI hl
      rw [f_X7_mostUrgent_L4] at hf
      refine lv_iload_n hx hb dX7_mostUrgent_4 rfl (lv_at hl 0 rfl) ?_
      refine lv_iconst (v := 3) hx hb dX7_mostUrgent_5 (by decide) ?_
      refine lv_icmp_ge (tgt := 48) hx hb dX7_mostUrgent_6 rfl (fun h1 => ?_) (fun h1 => ?_)
      · replace hf := gif h1 hf
        refine lv_iload_n hx hb dX7_mostUrgent_48 rfl (lv_at hl 1 rfl) ?_
        refine lv_iconst (v := (-1)) hx hb dX7_mostUrgent_49 (by decide) ?_
        refine lv_icmp_ne (tgt := 61) hx hb dX7_mostUrgent_50 rfl (fun h2 => ?_) (fun h2 => ?_)
        · replace hf := gifn h2 hf
          refine lv_aload_n hx hb dX7_mostUrgent_61 rfl (lv_at hl 2 rfl) ?_
          refine lv_iload_n hx hb dX7_mostUrgent_62 rfl (lv_at hl 1 rfl) ?_
          obtain ⟨r3, hr4, hf⟩ := gbind hf
          have hr4 := C_X7_done l E x  hr4
          refine g_callVi (rest := []) hC hI hr4 Y_X7_done V_X7_done w1409 (rcv_X7 hC hI) ⟨rfl, rfl⟩ ⟨Nat.le_of_ble_eq_true rfl, Nat.le_of_ble_eq_true rfl⟩ rfl hl.1 rfl (Nat.le_of_ble_eq_true rfl) dX7_mostUrgent_63 ⟨Nat.le_of_ble_eq_true rfl, Nat.le_of_ble_eq_true rfl⟩ (fun H locs hI => ?_)
          exact kr _ _ _ _ _ _ (grw hf) hI ⟨.int, rfl, rfl⟩ dX7_mostUrgent_66
        · replace hf := gif h2 hf
          refine lv_aload_n hx hb dX7_mostUrgent_53 rfl (lv_at hl 2 rfl) ?_
          refine lv_iconst (v := 1) hx hb dX7_mostUrgent_54 (by decide) ?_
          obtain ⟨r5, hr6, hf⟩ := gbind hf
          have hr6 := C_X7_fails l E x  hr6
          refine g_callVi (rest := []) hC hI hr6 Y_X7_fails V_X7_fails w1401 (rcv_X7 hC hI) ⟨rfl, rfl⟩ ⟨Nat.le_of_ble_eq_true rfl, Nat.le_of_ble_eq_true rfl⟩ rfl hl.1 rfl (Nat.le_of_ble_eq_true rfl) dX7_mostUrgent_55 ⟨Nat.le_of_ble_eq_true rfl, Nat.le_of_ble_eq_true rfl⟩ (fun H locs hI => ?_)
          refine lv_goto (tgt := 66) hx hb dX7_mostUrgent_58 rfl ?_
          exact kr _ _ _ _ _ _ (grw hf) hI ⟨.int, rfl, rfl⟩ dX7_mostUrgent_66
      · replace hf := gifn h1 hf
        refine lv_aload_n hx hb dX7_mostUrgent_9 rfl (lv_at hl 2 rfl) ?_
        refine gt_X7_X7_g hC hI dX7_mostUrgent_10 ?_
        refine lv_bipush (v := 7) hx hb dX7_mostUrgent_13 (by decide) ?_
        refine lv_iload_n hx hb dX7_mostUrgent_15 rfl (lv_at hl 0 rfl) ?_
        refine lv_iadd hx hb dX7_mostUrgent_16 ?_
        obtain ⟨h7, hf⟩ := gifN hf
        refine g_iald hC hI (k := (7 + v2).toNatClampNeg) gIA_151 h7 rfl dX7_mostUrgent_17 ?_
        refine lv_iconst (v := 1) hx hb dX7_mostUrgent_18 (by decide) ?_
        refine lv_icmp_ne (tgt := 42) hx hb dX7_mostUrgent_19 rfl (fun h8 => ?_) (fun h8 => ?_)
        · replace hf := gifn h8 hf
          refine lv_iinc (k := 0) (v := v2 + 1) (lv' := [(2, .int (v2 + 1)), (1, .int v1), (0, .ref (E.2.1 150))]) hx hb dX7_mostUrgent_42 hl rfl rfl (by decide) rfl (fun ls hl => ?_)
          refine lv_goto (tgt := 4) hx hb dX7_mostUrgent_45 rfl ?_
          exact ih (v2 + 1) v1 M hf _ _ _ hI (lv_sub hl [0, 1, 2] rfl)
        · replace hf := gif h8 hf
          refine lv_iload_n hx hb dX7_mostUrgent_22 rfl (lv_at hl 1 rfl) ?_
          refine lv_iconst (v := (-1)) hx hb dX7_mostUrgent_23 (by decide) ?_
          refine lv_icmp_eq (tgt := 36) hx hb dX7_mostUrgent_24 rfl (fun h9 => ?_) (fun h9 => ?_)
          · replace hf := gif h9 hf
            refine lv_iload_n hx hb dX7_mostUrgent_36 rfl (lv_at hl 0 rfl) ?_
            refine lv_goto (tgt := 41) hx hb dX7_mostUrgent_37 rfl ?_
            refine lv_istore_n (lv' := [(1, .int v2), (2, .int v2), (0, .ref (E.2.1 150))]) hx hb dX7_mostUrgent_41 rfl hl (by decide) rfl (fun ls hl => ?_)
            refine lv_iinc (k := 1) (v := v2 + 1) (lv' := [(2, .int (v2 + 1)), (1, .int v2), (0, .ref (E.2.1 150))]) hx hb dX7_mostUrgent_42 hl rfl rfl (by decide) rfl (fun ls hl => ?_)
            refine lv_goto (tgt := 4) hx hb dX7_mostUrgent_45 rfl ?_
            exact ih (v2 + 1) v2 M hf _ _ _ hI (lv_sub hl [0, 1, 2] rfl)
          · replace hf := gifn h9 hf
            refine lv_aload_n hx hb dX7_mostUrgent_27 rfl (lv_at hl 2 rfl) ?_
            refine lv_iload_n hx hb dX7_mostUrgent_28 rfl (lv_at hl 0 rfl) ?_
            refine lv_iload_n hx hb dX7_mostUrgent_29 rfl (lv_at hl 1 rfl) ?_
            obtain ⟨r10, hr11, hf⟩ := gbind hf
            have hr11 := C_X7_isMoreUrgent l E x  hr11
            refine g_callVi (rest := []) hC hI hr11 Y_X7_isMoreUrgent V_X7_isMoreUrgent w1562 (rcv_X7 hC hI) ⟨rfl, rfl⟩ ⟨Nat.le_of_ble_eq_true rfl, Nat.le_of_ble_eq_true rfl⟩ rfl hl.1 rfl (Nat.le_of_ble_eq_true rfl) dX7_mostUrgent_30 ⟨Nat.le_of_ble_eq_true rfl, Nat.le_of_ble_eq_true rfl⟩ (fun H locs hI => ?_)
            refine lv_if_eq (tgt := 40) hx hb dX7_mostUrgent_33 rfl (fun h12 => ?_) (fun h12 => ?_)
            · replace hf := gif h12 hf
              refine lv_iload_n hx hb dX7_mostUrgent_40 rfl (lv_at hl 1 rfl) ?_
              refine lv_istore_n (lv' := [(1, .int v1), (2, .int v2), (0, .ref (E.2.1 150))]) hx hb dX7_mostUrgent_41 rfl hl (by decide) rfl (fun ls hl => ?_)
              refine lv_iinc (k := 1) (v := v2 + 1) (lv' := [(2, .int (v2 + 1)), (1, .int v1), (0, .ref (E.2.1 150))]) hx hb dX7_mostUrgent_42 hl rfl rfl (by decide) rfl (fun ls hl => ?_)
              refine lv_goto (tgt := 4) hx hb dX7_mostUrgent_45 rfl ?_
              exact ih (v2 + 1) v1 M hf _ _ _ hI (lv_sub hl [0, 1, 2] rfl)
            · replace hf := gifn h12 hf
              refine lv_iload_n hx hb dX7_mostUrgent_36 rfl (lv_at hl 0 rfl) ?_
              refine lv_goto (tgt := 41) hx hb dX7_mostUrgent_37 rfl ?_
              refine lv_istore_n (lv' := [(1, .int v2), (2, .int v2), (0, .ref (E.2.1 150))]) hx hb dX7_mostUrgent_41 rfl hl (by decide) rfl (fun ls hl => ?_)
              refine lv_iinc (k := 1) (v := v2 + 1) (lv' := [(2, .int (v2 + 1)), (1, .int v2), (0, .ref (E.2.1 150))]) hx hb dX7_mostUrgent_42 hl rfl rfl (by decide) rfl (fun ls hl => ?_)
              refine lv_goto (tgt := 4) hx hb dX7_mostUrgent_45 rfl ?_
              exact ih (v2 + 1) v2 M hf _ _ _ hI (lv_sub hl [0, 1, 2] rfl)
  unfold f_X7_mostUrgent at hf
  refine lv_iconst (v := (-1)) hx hb dX7_mostUrgent_0 (by decide) ?_
  refine lv_istore_n (lv' := [(1, .int (-1)), (0, .ref (E.2.1 150))]) hx hb dX7_mostUrgent_1 rfl hl (by decide) rfl (fun ls hl => ?_)
  refine lv_iconst (v := 0) hx hb dX7_mostUrgent_2 (by decide) ?_
  refine lv_istore_n (lv' := [(2, .int 0), (1, .int (-1)), (0, .ref (E.2.1 150))]) hx hb dX7_mostUrgent_3 rfl hl (by decide) rfl (fun ls hl => ?_)
  exact L4 gF 0 (-1) M hf _ _ _ hI (lv_sub hl [0, 1, 2] rfl)
theorem dX7_canLeave_0 : decode cX7_canLeave 0 = .ok (.aload_n 0, 1) := by decide +kernel
theorem dX7_canLeave_1 : decode cX7_canLeave 1 = .ok (.iload_n 1, 1) := by decide +kernel
theorem dX7_canLeave_2 : decode cX7_canLeave 2 = .ok (.invokestatic 56, 3) := by decide +kernel
theorem dX7_canLeave_5 : decode cX7_canLeave 5 = .ok (.ifCond .eq 7, 3) := by decide +kernel
theorem dX7_canLeave_8 : decode cX7_canLeave 8 = .ok (.iconst 0, 1) := by decide +kernel
theorem dX7_canLeave_9 : decode cX7_canLeave 9 = .ok (.goto 4, 3) := by decide +kernel
theorem dX7_canLeave_12 : decode cX7_canLeave 12 = .ok (.iconst 1, 1) := by decide +kernel
theorem dX7_canLeave_13 : decode cX7_canLeave 13 = .ok (.putfield 42, 3) := by decide +kernel
theorem dX7_canLeave_16 : decode cX7_canLeave 16 = .ok (.aload_n 0, 1) := by decide +kernel
theorem dX7_canLeave_17 : decode cX7_canLeave 17 = .ok (.getfield 42, 3) := by decide +kernel
theorem dX7_canLeave_20 : decode cX7_canLeave 20 = .ok (.ifCond .ne 15, 3) := by decide +kernel
theorem dX7_canLeave_23 : decode cX7_canLeave 23 = .ok (.aload_n 0, 1) := by decide +kernel
theorem dX7_canLeave_24 : decode cX7_canLeave 24 = .ok (.iload_n 1, 1) := by decide +kernel
theorem dX7_canLeave_25 : decode cX7_canLeave 25 = .ok (.invokevirtual 131, 3) := by decide +kernel
theorem dX7_canLeave_28 : decode cX7_canLeave 28 = .ok (.ifCond .eq 7, 3) := by decide +kernel
theorem dX7_canLeave_31 : decode cX7_canLeave 31 = .ok (.iconst 1, 1) := by decide +kernel
theorem dX7_canLeave_32 : decode cX7_canLeave 32 = .ok (.goto 4, 3) := by decide +kernel
theorem dX7_canLeave_35 : decode cX7_canLeave 35 = .ok (.iconst 0, 1) := by decide +kernel
theorem dX7_canLeave_36 : decode cX7_canLeave 36 = .ok (.ireturn, 1) := by decide +kernel
set_option maxRecDepth 100000 in
set_option maxHeartbeats 4000000 in
theorem C_X7_canLeave (l : Launch) (E : gE) (x : gX) {v1 : Int32} {M : gM} {r : Bool} {M' : gM} (hf : f_X7_canLeave v1 M = some (r, M')) : gM0 l E yX7_canLeave (.code yX7_canLeave cX7_canLeave 2 (some .boolean)) (gR 3 66) M x [.ref (E.2.1 150), .int v1] (some (.int (gb r))) M' := by
  refine gMet (by decide +kernel) (Nat.le_of_ble_eq_true rfl) ?_
  intro p e s m args below meth c H locs ls Q hC hl hI kr kv
  replace hC : gC p s m args c cX7_canLeave 2 RX7 E := hC
  replace hl : lv_has ls 2 [(0, .ref (E.2.1 150)), (1, .int v1)] := hl
  have hx := hC.1
  have hb := hC.2.1
  unfold f_X7_canLeave at hf
  refine lv_aload_n hx hb dX7_canLeave_0 rfl (lv_at hl 0 rfl) ?_
  refine lv_iload_n hx hb dX7_canLeave_1 rfl (lv_at hl 1 rfl) ?_
  obtain ⟨r1, hr2, hf⟩ := gbind hf
  have hr2 := C_X7_isBerth l E x  hr2
  refine g_callSi (rest := [.ref (E.2.1 150)]) hC hI hr2 Y_X7_isBerth S_X7_isBerth w1395 ⟨rfl, rfl⟩ ⟨Nat.le_of_ble_eq_true rfl, Nat.le_of_ble_eq_true rfl⟩ rfl hl.1 rfl (Nat.le_of_ble_eq_true rfl) dX7_canLeave_2 ⟨Nat.le_of_ble_eq_true rfl, Nat.le_of_ble_eq_true rfl⟩ (fun H locs hI => ?_)
  refine lv_if_eq (tgt := 12) hx hb dX7_canLeave_5 rfl (fun h3 => ?_) (fun h3 => ?_)
  · replace hf := gif h3 hf
    refine lv_iconst (v := 1) hx hb dX7_canLeave_12 (by decide) ?_
    obtain ⟨M4, eM4, hf⟩ := glet hf
    refine pt_X7_X7_thrown hC hI dX7_canLeave_13 (fun H locs hI => ?_)
    replace hI := g_mem eM4 hI
    refine lv_aload_n hx hb dX7_canLeave_16 rfl (lv_at hl 0 rfl) ?_
    refine gt_X7_X7_thrown hC hI dX7_canLeave_17 ?_
    refine lv_if_ne (tgt := 35) hx hb dX7_canLeave_20 rfl (fun h5 => ?_) (fun h5 => ?_)
    · replace hf := gifn h5 hf
      refine lv_iconst (v := 0) hx hb dX7_canLeave_35 (by decide) ?_
      exact kr _ _ _ _ _ _ (grwb0 hf) hI ⟨.boolean, rfl, rfl⟩ dX7_canLeave_36
    · replace hf := gif h5 hf
      refine lv_aload_n hx hb dX7_canLeave_23 rfl (lv_at hl 0 rfl) ?_
      refine lv_iload_n hx hb dX7_canLeave_24 rfl (lv_at hl 1 rfl) ?_
      obtain ⟨r6, hr7, hf⟩ := gbind hf
      have hr7 := C_X7_mayLeave l E x  hr7
      refine g_callVi (rest := []) hC hI hr7 Y_X7_mayLeave V_X7_mayLeave w1482 (rcv_X7 hC hI) ⟨rfl, rfl⟩ ⟨Nat.le_of_ble_eq_true rfl, Nat.le_of_ble_eq_true rfl⟩ rfl hl.1 rfl (Nat.le_of_ble_eq_true rfl) dX7_canLeave_25 ⟨Nat.le_of_ble_eq_true rfl, Nat.le_of_ble_eq_true rfl⟩ (fun H locs hI => ?_)
      refine lv_if_eq (tgt := 35) hx hb dX7_canLeave_28 rfl (fun h8 => ?_) (fun h8 => ?_)
      · replace hf := gif h8 hf
        refine lv_iconst (v := 0) hx hb dX7_canLeave_35 (by decide) ?_
        exact kr _ _ _ _ _ _ (grwb0 hf) hI ⟨.boolean, rfl, rfl⟩ dX7_canLeave_36
      · replace hf := gifn h8 hf
        refine lv_iconst (v := 1) hx hb dX7_canLeave_31 (by decide) ?_
        refine lv_goto (tgt := 36) hx hb dX7_canLeave_32 rfl ?_
        exact kr _ _ _ _ _ _ (grwb1 hf) hI ⟨.boolean, rfl, rfl⟩ dX7_canLeave_36
  · replace hf := gifn h3 hf
    refine lv_iconst (v := 0) hx hb dX7_canLeave_8 (by decide) ?_
    refine lv_goto (tgt := 13) hx hb dX7_canLeave_9 rfl ?_
    obtain ⟨M9, eM9, hf⟩ := glet hf
    refine pt_X7_X7_thrown hC hI dX7_canLeave_13 (fun H locs hI => ?_)
    replace hI := g_mem eM9 hI
    refine lv_aload_n hx hb dX7_canLeave_16 rfl (lv_at hl 0 rfl) ?_
    refine gt_X7_X7_thrown hC hI dX7_canLeave_17 ?_
    refine lv_if_ne (tgt := 35) hx hb dX7_canLeave_20 rfl (fun h10 => ?_) (fun h10 => ?_)
    · replace hf := gifn h10 hf
      refine lv_iconst (v := 0) hx hb dX7_canLeave_35 (by decide) ?_
      exact kr _ _ _ _ _ _ (grwb0 hf) hI ⟨.boolean, rfl, rfl⟩ dX7_canLeave_36
    · replace hf := gif h10 hf
      refine lv_aload_n hx hb dX7_canLeave_23 rfl (lv_at hl 0 rfl) ?_
      refine lv_iload_n hx hb dX7_canLeave_24 rfl (lv_at hl 1 rfl) ?_
      obtain ⟨r11, hr12, hf⟩ := gbind hf
      have hr12 := C_X7_mayLeave l E x  hr12
      refine g_callVi (rest := []) hC hI hr12 Y_X7_mayLeave V_X7_mayLeave w1482 (rcv_X7 hC hI) ⟨rfl, rfl⟩ ⟨Nat.le_of_ble_eq_true rfl, Nat.le_of_ble_eq_true rfl⟩ rfl hl.1 rfl (Nat.le_of_ble_eq_true rfl) dX7_canLeave_25 ⟨Nat.le_of_ble_eq_true rfl, Nat.le_of_ble_eq_true rfl⟩ (fun H locs hI => ?_)
      refine lv_if_eq (tgt := 35) hx hb dX7_canLeave_28 rfl (fun h13 => ?_) (fun h13 => ?_)
      · replace hf := gif h13 hf
        refine lv_iconst (v := 0) hx hb dX7_canLeave_35 (by decide) ?_
        exact kr _ _ _ _ _ _ (grwb0 hf) hI ⟨.boolean, rfl, rfl⟩ dX7_canLeave_36
      · replace hf := gifn h13 hf
        refine lv_iconst (v := 1) hx hb dX7_canLeave_31 (by decide) ?_
        refine lv_goto (tgt := 36) hx hb dX7_canLeave_32 rfl ?_
        exact kr _ _ _ _ _ _ (grwb1 hf) hI ⟨.boolean, rfl, rfl⟩ dX7_canLeave_36
theorem dX7_lockedHours_0 : decode cX7_lockedHours 0 = .ok (.iload_n 1, 1) := by decide +kernel
theorem dX7_lockedHours_1 : decode cX7_lockedHours 1 = .ok (.invokestatic 56, 3) := by decide +kernel
theorem dX7_lockedHours_4 : decode cX7_lockedHours 4 = .ok (.ifCond .eq 19, 3) := by decide +kernel
theorem dX7_lockedHours_7 : decode cX7_lockedHours 7 = .ok (.aload_n 0, 1) := by decide +kernel
theorem dX7_lockedHours_8 : decode cX7_lockedHours 8 = .ok (.aload_n 0, 1) := by decide +kernel
theorem dX7_lockedHours_9 : decode cX7_lockedHours 9 = .ok (.getfield 7, 3) := by decide +kernel
theorem dX7_lockedHours_12 : decode cX7_lockedHours 12 = .ok (.bipush 19, 2) := by decide +kernel
theorem dX7_lockedHours_14 : decode cX7_lockedHours 14 = .ok (.iload_n 1, 1) := by decide +kernel
theorem dX7_lockedHours_15 : decode cX7_lockedHours 15 = .ok (.iadd, 1) := by decide +kernel
theorem dX7_lockedHours_16 : decode cX7_lockedHours 16 = .ok (.iaload, 1) := by decide +kernel
theorem dX7_lockedHours_17 : decode cX7_lockedHours 17 = .ok (.invokevirtual 75, 3) := by decide +kernel
theorem dX7_lockedHours_20 : decode cX7_lockedHours 20 = .ok (.goto 8, 3) := by decide +kernel
theorem dX7_lockedHours_23 : decode cX7_lockedHours 23 = .ok (.aload_n 0, 1) := by decide +kernel
theorem dX7_lockedHours_24 : decode cX7_lockedHours 24 = .ok (.iconst 1, 1) := by decide +kernel
theorem dX7_lockedHours_25 : decode cX7_lockedHours 25 = .ok (.invokevirtual 67, 3) := by decide +kernel
theorem dX7_lockedHours_28 : decode cX7_lockedHours 28 = .ok (.ireturn, 1) := by decide +kernel
set_option maxRecDepth 100000 in
set_option maxHeartbeats 4000000 in
theorem C_X7_lockedHours (l : Launch) (E : gE) (x : gX) {v1 : Int32} {M : gM} {r : Int32} {M' : gM} (hf : f_X7_lockedHours v1 M = some (r, M')) : gM0 l E yX7_lockedHours (.code yX7_lockedHours cX7_lockedHours 2 (some .int)) (gR 2 42) M x [.ref (E.2.1 150), .int v1] (some (.int r)) M' := by
  refine gMet (by decide +kernel) (Nat.le_of_ble_eq_true rfl) ?_
  intro p e s m args below meth c H locs ls Q hC hl hI kr kv
  replace hC : gC p s m args c cX7_lockedHours 2 RX7 E := hC
  replace hl : lv_has ls 2 [(0, .ref (E.2.1 150)), (1, .int v1)] := hl
  have hx := hC.1
  have hb := hC.2.1
  unfold f_X7_lockedHours at hf
  refine lv_iload_n hx hb dX7_lockedHours_0 rfl (lv_at hl 1 rfl) ?_
  obtain ⟨r1, hr2, hf⟩ := gbind hf
  have hr2 := C_X7_isBerth l E x  hr2
  refine g_callSi (rest := []) hC hI hr2 Y_X7_isBerth S_X7_isBerth w1395 ⟨rfl, rfl⟩ ⟨Nat.le_of_ble_eq_true rfl, Nat.le_of_ble_eq_true rfl⟩ rfl hl.1 rfl (Nat.le_of_ble_eq_true rfl) dX7_lockedHours_1 ⟨Nat.le_of_ble_eq_true rfl, Nat.le_of_ble_eq_true rfl⟩ (fun H locs hI => ?_)
  refine lv_if_eq (tgt := 23) hx hb dX7_lockedHours_4 rfl (fun h3 => ?_) (fun h3 => ?_)
  · replace hf := gif h3 hf
    refine lv_aload_n hx hb dX7_lockedHours_23 rfl (lv_at hl 0 rfl) ?_
    refine lv_iconst (v := 1) hx hb dX7_lockedHours_24 (by decide) ?_
    obtain ⟨r4, hr5, hf⟩ := gbind hf
    have hr5 := C_X7_fails l E x  hr5
    refine g_callVi (rest := []) hC hI hr5 Y_X7_fails V_X7_fails w1401 (rcv_X7 hC hI) ⟨rfl, rfl⟩ ⟨Nat.le_of_ble_eq_true rfl, Nat.le_of_ble_eq_true rfl⟩ rfl hl.1 rfl (Nat.le_of_ble_eq_true rfl) dX7_lockedHours_25 ⟨Nat.le_of_ble_eq_true rfl, Nat.le_of_ble_eq_true rfl⟩ (fun H locs hI => ?_)
    exact kr _ _ _ _ _ _ (grw hf) hI ⟨.int, rfl, rfl⟩ dX7_lockedHours_28
  · replace hf := gifn h3 hf
    refine lv_aload_n hx hb dX7_lockedHours_7 rfl (lv_at hl 0 rfl) ?_
    refine lv_aload_n hx hb dX7_lockedHours_8 rfl (lv_at hl 0 rfl) ?_
    refine gt_X7_X7_g hC hI dX7_lockedHours_9 ?_
    refine lv_bipush (v := 19) hx hb dX7_lockedHours_12 (by decide) ?_
    refine lv_iload_n hx hb dX7_lockedHours_14 rfl (lv_at hl 1 rfl) ?_
    refine lv_iadd hx hb dX7_lockedHours_15 ?_
    obtain ⟨h6, hf⟩ := gifN hf
    refine g_iald hC hI (k := (19 + v1).toNatClampNeg) gIA_151 h6 rfl dX7_lockedHours_16 ?_
    obtain ⟨r7, hr8, hf⟩ := gbind hf
    have hr8 := C_X7_done l E x  hr8
    refine g_callVi (rest := []) hC hI hr8 Y_X7_done V_X7_done w1409 (rcv_X7 hC hI) ⟨rfl, rfl⟩ ⟨Nat.le_of_ble_eq_true rfl, Nat.le_of_ble_eq_true rfl⟩ rfl hl.1 rfl (Nat.le_of_ble_eq_true rfl) dX7_lockedHours_17 ⟨Nat.le_of_ble_eq_true rfl, Nat.le_of_ble_eq_true rfl⟩ (fun H locs hI => ?_)
    refine lv_goto (tgt := 28) hx hb dX7_lockedHours_20 rfl ?_
    exact kr _ _ _ _ _ _ (grw hf) hI ⟨.int, rfl, rfl⟩ dX7_lockedHours_28
theorem dX7_wrongAnswers_0 : decode cX7_wrongAnswers 0 = .ok (.iload_n 1, 1) := by decide +kernel
theorem dX7_wrongAnswers_1 : decode cX7_wrongAnswers 1 = .ok (.invokestatic 56, 3) := by decide +kernel
theorem dX7_wrongAnswers_4 : decode cX7_wrongAnswers 4 = .ok (.ifCond .eq 19, 3) := by decide +kernel
theorem dX7_wrongAnswers_7 : decode cX7_wrongAnswers 7 = .ok (.aload_n 0, 1) := by decide +kernel
theorem dX7_wrongAnswers_8 : decode cX7_wrongAnswers 8 = .ok (.aload_n 0, 1) := by decide +kernel
theorem dX7_wrongAnswers_9 : decode cX7_wrongAnswers 9 = .ok (.getfield 7, 3) := by decide +kernel
theorem dX7_wrongAnswers_12 : decode cX7_wrongAnswers 12 = .ok (.bipush 16, 2) := by decide +kernel
theorem dX7_wrongAnswers_14 : decode cX7_wrongAnswers 14 = .ok (.iload_n 1, 1) := by decide +kernel
theorem dX7_wrongAnswers_15 : decode cX7_wrongAnswers 15 = .ok (.iadd, 1) := by decide +kernel
theorem dX7_wrongAnswers_16 : decode cX7_wrongAnswers 16 = .ok (.iaload, 1) := by decide +kernel
theorem dX7_wrongAnswers_17 : decode cX7_wrongAnswers 17 = .ok (.invokevirtual 75, 3) := by decide +kernel
theorem dX7_wrongAnswers_20 : decode cX7_wrongAnswers 20 = .ok (.goto 8, 3) := by decide +kernel
theorem dX7_wrongAnswers_23 : decode cX7_wrongAnswers 23 = .ok (.aload_n 0, 1) := by decide +kernel
theorem dX7_wrongAnswers_24 : decode cX7_wrongAnswers 24 = .ok (.iconst 1, 1) := by decide +kernel
theorem dX7_wrongAnswers_25 : decode cX7_wrongAnswers 25 = .ok (.invokevirtual 67, 3) := by decide +kernel
theorem dX7_wrongAnswers_28 : decode cX7_wrongAnswers 28 = .ok (.ireturn, 1) := by decide +kernel
set_option maxRecDepth 100000 in
set_option maxHeartbeats 4000000 in
theorem C_X7_wrongAnswers (l : Launch) (E : gE) (x : gX) {v1 : Int32} {M : gM} {r : Int32} {M' : gM} (hf : f_X7_wrongAnswers v1 M = some (r, M')) : gM0 l E yX7_wrongAnswers (.code yX7_wrongAnswers cX7_wrongAnswers 2 (some .int)) (gR 2 42) M x [.ref (E.2.1 150), .int v1] (some (.int r)) M' := by
  refine gMet (by decide +kernel) (Nat.le_of_ble_eq_true rfl) ?_
  intro p e s m args below meth c H locs ls Q hC hl hI kr kv
  replace hC : gC p s m args c cX7_wrongAnswers 2 RX7 E := hC
  replace hl : lv_has ls 2 [(0, .ref (E.2.1 150)), (1, .int v1)] := hl
  have hx := hC.1
  have hb := hC.2.1
  unfold f_X7_wrongAnswers at hf
  refine lv_iload_n hx hb dX7_wrongAnswers_0 rfl (lv_at hl 1 rfl) ?_
  obtain ⟨r1, hr2, hf⟩ := gbind hf
  have hr2 := C_X7_isBerth l E x  hr2
  refine g_callSi (rest := []) hC hI hr2 Y_X7_isBerth S_X7_isBerth w1395 ⟨rfl, rfl⟩ ⟨Nat.le_of_ble_eq_true rfl, Nat.le_of_ble_eq_true rfl⟩ rfl hl.1 rfl (Nat.le_of_ble_eq_true rfl) dX7_wrongAnswers_1 ⟨Nat.le_of_ble_eq_true rfl, Nat.le_of_ble_eq_true rfl⟩ (fun H locs hI => ?_)
  refine lv_if_eq (tgt := 23) hx hb dX7_wrongAnswers_4 rfl (fun h3 => ?_) (fun h3 => ?_)
  · replace hf := gif h3 hf
    refine lv_aload_n hx hb dX7_wrongAnswers_23 rfl (lv_at hl 0 rfl) ?_
    refine lv_iconst (v := 1) hx hb dX7_wrongAnswers_24 (by decide) ?_
    obtain ⟨r4, hr5, hf⟩ := gbind hf
    have hr5 := C_X7_fails l E x  hr5
    refine g_callVi (rest := []) hC hI hr5 Y_X7_fails V_X7_fails w1401 (rcv_X7 hC hI) ⟨rfl, rfl⟩ ⟨Nat.le_of_ble_eq_true rfl, Nat.le_of_ble_eq_true rfl⟩ rfl hl.1 rfl (Nat.le_of_ble_eq_true rfl) dX7_wrongAnswers_25 ⟨Nat.le_of_ble_eq_true rfl, Nat.le_of_ble_eq_true rfl⟩ (fun H locs hI => ?_)
    exact kr _ _ _ _ _ _ (grw hf) hI ⟨.int, rfl, rfl⟩ dX7_wrongAnswers_28
  · replace hf := gifn h3 hf
    refine lv_aload_n hx hb dX7_wrongAnswers_7 rfl (lv_at hl 0 rfl) ?_
    refine lv_aload_n hx hb dX7_wrongAnswers_8 rfl (lv_at hl 0 rfl) ?_
    refine gt_X7_X7_g hC hI dX7_wrongAnswers_9 ?_
    refine lv_bipush (v := 16) hx hb dX7_wrongAnswers_12 (by decide) ?_
    refine lv_iload_n hx hb dX7_wrongAnswers_14 rfl (lv_at hl 1 rfl) ?_
    refine lv_iadd hx hb dX7_wrongAnswers_15 ?_
    obtain ⟨h6, hf⟩ := gifN hf
    refine g_iald hC hI (k := (16 + v1).toNatClampNeg) gIA_151 h6 rfl dX7_wrongAnswers_16 ?_
    obtain ⟨r7, hr8, hf⟩ := gbind hf
    have hr8 := C_X7_done l E x  hr8
    refine g_callVi (rest := []) hC hI hr8 Y_X7_done V_X7_done w1409 (rcv_X7 hC hI) ⟨rfl, rfl⟩ ⟨Nat.le_of_ble_eq_true rfl, Nat.le_of_ble_eq_true rfl⟩ rfl hl.1 rfl (Nat.le_of_ble_eq_true rfl) dX7_wrongAnswers_17 ⟨Nat.le_of_ble_eq_true rfl, Nat.le_of_ble_eq_true rfl⟩ (fun H locs hI => ?_)
    refine lv_goto (tgt := 28) hx hb dX7_wrongAnswers_20 rfl ?_
    exact kr _ _ _ _ _ _ (grw hf) hI ⟨.int, rfl, rfl⟩ dX7_wrongAnswers_28
theorem dX7_whyNoStack_0 : decode cX7_whyNoStack 0 = .ok (.iload_n 1, 1) := by decide +kernel
theorem dX7_whyNoStack_1 : decode cX7_whyNoStack 1 = .ok (.iload_n 2, 1) := by decide +kernel
theorem dX7_whyNoStack_2 : decode cX7_whyNoStack 2 = .ok (.invokestatic 88, 3) := by decide +kernel
theorem dX7_whyNoStack_5 : decode cX7_whyNoStack 5 = .ok (.ifCond .ne 7, 3) := by decide +kernel
theorem dX7_whyNoStack_8 : decode cX7_whyNoStack 8 = .ok (.iconst 1, 1) := by decide +kernel
theorem dX7_whyNoStack_9 : decode cX7_whyNoStack 9 = .ok (.goto 8, 3) := by decide +kernel
theorem dX7_whyNoStack_12 : decode cX7_whyNoStack 12 = .ok (.aload_n 0, 1) := by decide +kernel
theorem dX7_whyNoStack_13 : decode cX7_whyNoStack 13 = .ok (.iload_n 1, 1) := by decide +kernel
theorem dX7_whyNoStack_14 : decode cX7_whyNoStack 14 = .ok (.invokevirtual 146, 3) := by decide +kernel
theorem dX7_whyNoStack_17 : decode cX7_whyNoStack 17 = .ok (.ireturn, 1) := by decide +kernel
set_option maxRecDepth 100000 in
set_option maxHeartbeats 4000000 in
theorem C_X7_whyNoStack (l : Launch) (E : gE) (x : gX) {v1 v2 : Int32} {M : gM} {r : Int32} (hf : f_X7_whyNoStack v1 v2 M = some r) : gM0 l E yX7_whyNoStack (.code yX7_whyNoStack cX7_whyNoStack 3 (some .int)) (gR 3 63) M x [.ref (E.2.1 150), .int v1, .int v2] (some (.int r)) M := by
  refine gMet (by decide +kernel) (Nat.le_of_ble_eq_true rfl) ?_
  intro p e s m args below meth c H locs ls Q hC hl hI kr kv
  replace hC : gC p s m args c cX7_whyNoStack 3 RX7 E := hC
  replace hl : lv_has ls 3 [(0, .ref (E.2.1 150)), (1, .int v1), (2, .int v2)] := hl
  have hx := hC.1
  have hb := hC.2.1
  unfold f_X7_whyNoStack at hf
  refine lv_iload_n hx hb dX7_whyNoStack_0 rfl (lv_at hl 1 rfl) ?_
  refine lv_iload_n hx hb dX7_whyNoStack_1 rfl (lv_at hl 2 rfl) ?_
  obtain ⟨r1, hr2, hf⟩ := gbind hf
  have hr2 := C_X7_isStack l E x  hr2
  refine g_callSi (rest := []) hC hI hr2 Y_X7_isStack S_X7_isStack w1425 ⟨rfl, rfl⟩ ⟨Nat.le_of_ble_eq_true rfl, Nat.le_of_ble_eq_true rfl⟩ rfl hl.1 rfl (Nat.le_of_ble_eq_true rfl) dX7_whyNoStack_2 ⟨Nat.le_of_ble_eq_true rfl, Nat.le_of_ble_eq_true rfl⟩ (fun H locs hI => ?_)
  refine lv_if_ne (tgt := 12) hx hb dX7_whyNoStack_5 rfl (fun h3 => ?_) (fun h3 => ?_)
  · replace hf := gifn h3 hf
    refine lv_aload_n hx hb dX7_whyNoStack_12 rfl (lv_at hl 0 rfl) ?_
    refine lv_iload_n hx hb dX7_whyNoStack_13 rfl (lv_at hl 1 rfl) ?_
    obtain ⟨r4, hr5, hf⟩ := gbind hf
    have hr5 := C_X7_whyNoShip l E x  hr5
    refine g_callVi (rest := []) hC hI hr5 Y_X7_whyNoShip V_X7_whyNoShip w1537 (rcv_X7 hC hI) ⟨rfl, rfl⟩ ⟨Nat.le_of_ble_eq_true rfl, Nat.le_of_ble_eq_true rfl⟩ rfl hl.1 rfl (Nat.le_of_ble_eq_true rfl) dX7_whyNoStack_14 ⟨Nat.le_of_ble_eq_true rfl, Nat.le_of_ble_eq_true rfl⟩ (fun H locs hI => ?_)
    exact kr _ _ _ _ _ _ (gri hf) hI ⟨.int, rfl, rfl⟩ dX7_whyNoStack_17
  · replace hf := gif h3 hf
    refine lv_iconst (v := 1) hx hb dX7_whyNoStack_8 (by decide) ?_
    refine lv_goto (tgt := 17) hx hb dX7_whyNoStack_9 rfl ?_
    exact kr _ _ _ _ _ _ (gri hf) hI ⟨.int, rfl, rfl⟩ dX7_whyNoStack_17
theorem dX7_stackHeight_0 : decode cX7_stackHeight 0 = .ok (.aload_n 0, 1) := by decide +kernel
theorem dX7_stackHeight_1 : decode cX7_stackHeight 1 = .ok (.iload_n 1, 1) := by decide +kernel
theorem dX7_stackHeight_2 : decode cX7_stackHeight 2 = .ok (.iload_n 2, 1) := by decide +kernel
theorem dX7_stackHeight_3 : decode cX7_stackHeight 3 = .ok (.invokevirtual 158, 3) := by decide +kernel
theorem dX7_stackHeight_6 : decode cX7_stackHeight 6 = .ok (.istore_n 3, 1) := by decide +kernel
theorem dX7_stackHeight_7 : decode cX7_stackHeight 7 = .ok (.iload_n 3, 1) := by decide +kernel
theorem dX7_stackHeight_8 : decode cX7_stackHeight 8 = .ok (.ifCond .le 11, 3) := by decide +kernel
theorem dX7_stackHeight_11 : decode cX7_stackHeight 11 = .ok (.aload_n 0, 1) := by decide +kernel
theorem dX7_stackHeight_12 : decode cX7_stackHeight 12 = .ok (.iload_n 3, 1) := by decide +kernel
theorem dX7_stackHeight_13 : decode cX7_stackHeight 13 = .ok (.invokevirtual 67, 3) := by decide +kernel
theorem dX7_stackHeight_16 : decode cX7_stackHeight 16 = .ok (.goto 13, 3) := by decide +kernel
theorem dX7_stackHeight_19 : decode cX7_stackHeight 19 = .ok (.aload_n 0, 1) := by decide +kernel
theorem dX7_stackHeight_20 : decode cX7_stackHeight 20 = .ok (.aload_n 0, 1) := by decide +kernel
theorem dX7_stackHeight_21 : decode cX7_stackHeight 21 = .ok (.iload_n 1, 1) := by decide +kernel
theorem dX7_stackHeight_22 : decode cX7_stackHeight 22 = .ok (.iload_n 2, 1) := by decide +kernel
theorem dX7_stackHeight_23 : decode cX7_stackHeight 23 = .ok (.invokevirtual 63, 3) := by decide +kernel
theorem dX7_stackHeight_26 : decode cX7_stackHeight 26 = .ok (.invokevirtual 75, 3) := by decide +kernel
theorem dX7_stackHeight_29 : decode cX7_stackHeight 29 = .ok (.ireturn, 1) := by decide +kernel
set_option maxRecDepth 100000 in
set_option maxHeartbeats 4000000 in
theorem C_X7_stackHeight (l : Launch) (E : gE) (x : gX) {v1 v2 : Int32} {M : gM} {r : Int32} {M' : gM} (hf : f_X7_stackHeight v1 v2 M = some (r, M')) : gM0 l E yX7_stackHeight (.code yX7_stackHeight cX7_stackHeight 4 (some .int)) (gR 4 85) M x [.ref (E.2.1 150), .int v1, .int v2] (some (.int r)) M' := by
  refine gMet (by decide +kernel) (Nat.le_of_ble_eq_true rfl) ?_
  intro p e s m args below meth c H locs ls Q hC hl hI kr kv
  replace hC : gC p s m args c cX7_stackHeight 4 RX7 E := hC
  replace hl : lv_has ls 4 [(0, .ref (E.2.1 150)), (1, .int v1), (2, .int v2)] := hl
  have hx := hC.1
  have hb := hC.2.1
  unfold f_X7_stackHeight at hf
  refine lv_aload_n hx hb dX7_stackHeight_0 rfl (lv_at hl 0 rfl) ?_
  refine lv_iload_n hx hb dX7_stackHeight_1 rfl (lv_at hl 1 rfl) ?_
  refine lv_iload_n hx hb dX7_stackHeight_2 rfl (lv_at hl 2 rfl) ?_
  obtain ⟨r1, hr2, hf⟩ := gbind hf
  have hr2 := C_X7_whyNoStack l E x  hr2
  refine g_callVi (rest := []) hC hI hr2 Y_X7_whyNoStack V_X7_whyNoStack w1582 (rcv_X7 hC hI) ⟨rfl, rfl⟩ ⟨Nat.le_of_ble_eq_true rfl, Nat.le_of_ble_eq_true rfl⟩ rfl hl.1 rfl (Nat.le_of_ble_eq_true rfl) dX7_stackHeight_3 ⟨Nat.le_of_ble_eq_true rfl, Nat.le_of_ble_eq_true rfl⟩ (fun H locs hI => ?_)
  refine lv_istore_n (lv' := [(3, .int r1), (0, .ref (E.2.1 150)), (1, .int v1), (2, .int v2)]) hx hb dX7_stackHeight_6 rfl hl (by decide) rfl (fun ls hl => ?_)
  refine lv_iload_n hx hb dX7_stackHeight_7 rfl (lv_at hl 0 rfl) ?_
  refine lv_if_le (tgt := 19) hx hb dX7_stackHeight_8 rfl (fun h3 => ?_) (fun h3 => ?_)
  · replace hf := gif h3 hf
    refine lv_aload_n hx hb dX7_stackHeight_19 rfl (lv_at hl 1 rfl) ?_
    refine lv_aload_n hx hb dX7_stackHeight_20 rfl (lv_at hl 1 rfl) ?_
    refine lv_iload_n hx hb dX7_stackHeight_21 rfl (lv_at hl 2 rfl) ?_
    refine lv_iload_n hx hb dX7_stackHeight_22 rfl (lv_at hl 3 rfl) ?_
    obtain ⟨r4, hr5, hf⟩ := gbind hf
    have hr5 := C_X7_height l E x  hr5
    refine g_callVi (rest := [.ref (E.2.1 150)]) hC hI hr5 Y_X7_height V_X7_height w1428 (rcv_X7 hC hI) ⟨rfl, rfl⟩ ⟨Nat.le_of_ble_eq_true rfl, Nat.le_of_ble_eq_true rfl⟩ rfl hl.1 rfl (Nat.le_of_ble_eq_true rfl) dX7_stackHeight_23 ⟨Nat.le_of_ble_eq_true rfl, Nat.le_of_ble_eq_true rfl⟩ (fun H locs hI => ?_)
    obtain ⟨r6, hr7, hf⟩ := gbind hf
    have hr7 := C_X7_done l E x  hr7
    refine g_callVi (rest := []) hC hI hr7 Y_X7_done V_X7_done w1409 (rcv_X7 hC hI) ⟨rfl, rfl⟩ ⟨Nat.le_of_ble_eq_true rfl, Nat.le_of_ble_eq_true rfl⟩ rfl hl.1 rfl (Nat.le_of_ble_eq_true rfl) dX7_stackHeight_26 ⟨Nat.le_of_ble_eq_true rfl, Nat.le_of_ble_eq_true rfl⟩ (fun H locs hI => ?_)
    exact kr _ _ _ _ _ _ (grw hf) hI ⟨.int, rfl, rfl⟩ dX7_stackHeight_29
  · replace hf := gifn h3 hf
    refine lv_aload_n hx hb dX7_stackHeight_11 rfl (lv_at hl 1 rfl) ?_
    refine lv_iload_n hx hb dX7_stackHeight_12 rfl (lv_at hl 0 rfl) ?_
    obtain ⟨r8, hr9, hf⟩ := gbind hf
    have hr9 := C_X7_fails l E x  hr9
    refine g_callVi (rest := []) hC hI hr9 Y_X7_fails V_X7_fails w1401 (rcv_X7 hC hI) ⟨rfl, rfl⟩ ⟨Nat.le_of_ble_eq_true rfl, Nat.le_of_ble_eq_true rfl⟩ rfl hl.1 rfl (Nat.le_of_ble_eq_true rfl) dX7_stackHeight_13 ⟨Nat.le_of_ble_eq_true rfl, Nat.le_of_ble_eq_true rfl⟩ (fun H locs hI => ?_)
    refine lv_goto (tgt := 29) hx hb dX7_stackHeight_16 rfl ?_
    exact kr _ _ _ _ _ _ (grw hf) hI ⟨.int, rfl, rfl⟩ dX7_stackHeight_29
theorem dX7_containerAt_0 : decode cX7_containerAt 0 = .ok (.aload_n 0, 1) := by decide +kernel
theorem dX7_containerAt_1 : decode cX7_containerAt 1 = .ok (.iload_n 1, 1) := by decide +kernel
theorem dX7_containerAt_2 : decode cX7_containerAt 2 = .ok (.iload_n 2, 1) := by decide +kernel
theorem dX7_containerAt_3 : decode cX7_containerAt 3 = .ok (.invokevirtual 158, 3) := by decide +kernel
theorem dX7_containerAt_6 : decode cX7_containerAt 6 = .ok (.istore 4, 2) := by decide +kernel
theorem dX7_containerAt_8 : decode cX7_containerAt 8 = .ok (.iload 4, 2) := by decide +kernel
theorem dX7_containerAt_10 : decode cX7_containerAt 10 = .ok (.ifCond .le 10, 3) := by decide +kernel
theorem dX7_containerAt_13 : decode cX7_containerAt 13 = .ok (.aload_n 0, 1) := by decide +kernel
theorem dX7_containerAt_14 : decode cX7_containerAt 14 = .ok (.iload 4, 2) := by decide +kernel
theorem dX7_containerAt_16 : decode cX7_containerAt 16 = .ok (.invokevirtual 67, 3) := by decide +kernel
theorem dX7_containerAt_19 : decode cX7_containerAt 19 = .ok (.ireturn, 1) := by decide +kernel
theorem dX7_containerAt_20 : decode cX7_containerAt 20 = .ok (.iload_n 3, 1) := by decide +kernel
theorem dX7_containerAt_21 : decode cX7_containerAt 21 = .ok (.iconst 0, 1) := by decide +kernel
theorem dX7_containerAt_22 : decode cX7_containerAt 22 = .ok (.aload_n 0, 1) := by decide +kernel
theorem dX7_containerAt_23 : decode cX7_containerAt 23 = .ok (.iload_n 1, 1) := by decide +kernel
theorem dX7_containerAt_24 : decode cX7_containerAt 24 = .ok (.iload_n 2, 1) := by decide +kernel
theorem dX7_containerAt_25 : decode cX7_containerAt 25 = .ok (.invokevirtual 63, 3) := by decide +kernel
theorem dX7_containerAt_28 : decode cX7_containerAt 28 = .ok (.iconst 1, 1) := by decide +kernel
theorem dX7_containerAt_29 : decode cX7_containerAt 29 = .ok (.isub, 1) := by decide +kernel
theorem dX7_containerAt_30 : decode cX7_containerAt 30 = .ok (.invokestatic 52, 3) := by decide +kernel
theorem dX7_containerAt_33 : decode cX7_containerAt 33 = .ok (.ifCond .eq 24, 3) := by decide +kernel
theorem dX7_containerAt_36 : decode cX7_containerAt 36 = .ok (.aload_n 0, 1) := by decide +kernel
theorem dX7_containerAt_37 : decode cX7_containerAt 37 = .ok (.aload_n 0, 1) := by decide +kernel
theorem dX7_containerAt_38 : decode cX7_containerAt 38 = .ok (.getfield 7, 3) := by decide +kernel
theorem dX7_containerAt_41 : decode cX7_containerAt 41 = .ok (.bipush 34, 2) := by decide +kernel
theorem dX7_containerAt_43 : decode cX7_containerAt 43 = .ok (.iload_n 1, 1) := by decide +kernel
theorem dX7_containerAt_44 : decode cX7_containerAt 44 = .ok (.iload_n 2, 1) := by decide +kernel
theorem dX7_containerAt_45 : decode cX7_containerAt 45 = .ok (.iload_n 3, 1) := by decide +kernel
theorem dX7_containerAt_46 : decode cX7_containerAt 46 = .ok (.invokestatic 92, 3) := by decide +kernel
theorem dX7_containerAt_49 : decode cX7_containerAt 49 = .ok (.iadd, 1) := by decide +kernel
theorem dX7_containerAt_50 : decode cX7_containerAt 50 = .ok (.iaload, 1) := by decide +kernel
theorem dX7_containerAt_51 : decode cX7_containerAt 51 = .ok (.invokevirtual 75, 3) := by decide +kernel
theorem dX7_containerAt_54 : decode cX7_containerAt 54 = .ok (.goto 8, 3) := by decide +kernel
theorem dX7_containerAt_57 : decode cX7_containerAt 57 = .ok (.aload_n 0, 1) := by decide +kernel
theorem dX7_containerAt_58 : decode cX7_containerAt 58 = .ok (.iconst 2, 1) := by decide +kernel
theorem dX7_containerAt_59 : decode cX7_containerAt 59 = .ok (.invokevirtual 67, 3) := by decide +kernel
theorem dX7_containerAt_62 : decode cX7_containerAt 62 = .ok (.ireturn, 1) := by decide +kernel
set_option maxRecDepth 100000 in
set_option maxHeartbeats 4000000 in
theorem C_X7_containerAt (l : Launch) (E : gE) (x : gX) {v1 v2 v3 : Int32} {M : gM} {r : Int32} {M' : gM} (hf : f_X7_containerAt v1 v2 v3 M = some (r, M')) : gM0 l E yX7_containerAt (.code yX7_containerAt cX7_containerAt 5 (some .int)) (gR 4 85) M x [.ref (E.2.1 150), .int v1, .int v2, .int v3] (some (.int r)) M' := by
  refine gMet (by decide +kernel) (Nat.le_of_ble_eq_true rfl) ?_
  intro p e s m args below meth c H locs ls Q hC hl hI kr kv
  replace hC : gC p s m args c cX7_containerAt 5 RX7 E := hC
  replace hl : lv_has ls 5 [(0, .ref (E.2.1 150)), (1, .int v1), (2, .int v2), (3, .int v3)] := hl
  have hx := hC.1
  have hb := hC.2.1
  unfold f_X7_containerAt at hf
  refine lv_aload_n hx hb dX7_containerAt_0 rfl (lv_at hl 0 rfl) ?_
  refine lv_iload_n hx hb dX7_containerAt_1 rfl (lv_at hl 1 rfl) ?_
  refine lv_iload_n hx hb dX7_containerAt_2 rfl (lv_at hl 2 rfl) ?_
  obtain ⟨r1, hr2, hf⟩ := gbind hf
  have hr2 := C_X7_whyNoStack l E x  hr2
  refine g_callVi (rest := []) hC hI hr2 Y_X7_whyNoStack V_X7_whyNoStack w1582 (rcv_X7 hC hI) ⟨rfl, rfl⟩ ⟨Nat.le_of_ble_eq_true rfl, Nat.le_of_ble_eq_true rfl⟩ rfl hl.1 rfl (Nat.le_of_ble_eq_true rfl) dX7_containerAt_3 ⟨Nat.le_of_ble_eq_true rfl, Nat.le_of_ble_eq_true rfl⟩ (fun H locs hI => ?_)
  refine lv_istore (lv' := [(4, .int r1), (0, .ref (E.2.1 150)), (1, .int v1), (2, .int v2), (3, .int v3)]) hx hb dX7_containerAt_6 hl (by decide) rfl (fun ls hl => ?_)
  refine lv_iload hx hb dX7_containerAt_8 (lv_at hl 0 rfl) ?_
  refine lv_if_le (tgt := 20) hx hb dX7_containerAt_10 rfl (fun h3 => ?_) (fun h3 => ?_)
  · replace hf := gif h3 hf
    refine lv_iload_n hx hb dX7_containerAt_20 rfl (lv_at hl 4 rfl) ?_
    refine lv_iconst (v := 0) hx hb dX7_containerAt_21 (by decide) ?_
    refine lv_aload_n hx hb dX7_containerAt_22 rfl (lv_at hl 1 rfl) ?_
    refine lv_iload_n hx hb dX7_containerAt_23 rfl (lv_at hl 2 rfl) ?_
    refine lv_iload_n hx hb dX7_containerAt_24 rfl (lv_at hl 3 rfl) ?_
    obtain ⟨r4, hr5, hf⟩ := gbind hf
    have hr5 := C_X7_height l E x  hr5
    refine g_callVi (rest := [.int 0, .int v3]) hC hI hr5 Y_X7_height V_X7_height w1428 (rcv_X7 hC hI) ⟨rfl, rfl⟩ ⟨Nat.le_of_ble_eq_true rfl, Nat.le_of_ble_eq_true rfl⟩ rfl hl.1 rfl (Nat.le_of_ble_eq_true rfl) dX7_containerAt_25 ⟨Nat.le_of_ble_eq_true rfl, Nat.le_of_ble_eq_true rfl⟩ (fun H locs hI => ?_)
    refine lv_iconst (v := 1) hx hb dX7_containerAt_28 (by decide) ?_
    refine lv_isub hx hb dX7_containerAt_29 ?_
    obtain ⟨r6, hr7, hf⟩ := gbind hf
    have hr7 := C_X7_in l E x  hr7
    refine g_callSi (rest := []) hC hI hr7 Y_X7_in S_X7_in w1398 ⟨rfl, rfl⟩ ⟨Nat.le_of_ble_eq_true rfl, Nat.le_of_ble_eq_true rfl⟩ rfl hl.1 rfl (Nat.le_of_ble_eq_true rfl) dX7_containerAt_30 ⟨Nat.le_of_ble_eq_true rfl, Nat.le_of_ble_eq_true rfl⟩ (fun H locs hI => ?_)
    refine lv_if_eq (tgt := 57) hx hb dX7_containerAt_33 rfl (fun h8 => ?_) (fun h8 => ?_)
    · replace hf := gif h8 hf
      refine lv_aload_n hx hb dX7_containerAt_57 rfl (lv_at hl 1 rfl) ?_
      refine lv_iconst (v := 2) hx hb dX7_containerAt_58 (by decide) ?_
      obtain ⟨r9, hr10, hf⟩ := gbind hf
      have hr10 := C_X7_fails l E x  hr10
      refine g_callVi (rest := []) hC hI hr10 Y_X7_fails V_X7_fails w1401 (rcv_X7 hC hI) ⟨rfl, rfl⟩ ⟨Nat.le_of_ble_eq_true rfl, Nat.le_of_ble_eq_true rfl⟩ rfl hl.1 rfl (Nat.le_of_ble_eq_true rfl) dX7_containerAt_59 ⟨Nat.le_of_ble_eq_true rfl, Nat.le_of_ble_eq_true rfl⟩ (fun H locs hI => ?_)
      exact kr _ _ _ _ _ _ (grw hf) hI ⟨.int, rfl, rfl⟩ dX7_containerAt_62
    · replace hf := gifn h8 hf
      refine lv_aload_n hx hb dX7_containerAt_36 rfl (lv_at hl 1 rfl) ?_
      refine lv_aload_n hx hb dX7_containerAt_37 rfl (lv_at hl 1 rfl) ?_
      refine gt_X7_X7_g hC hI dX7_containerAt_38 ?_
      refine lv_bipush (v := 34) hx hb dX7_containerAt_41 (by decide) ?_
      refine lv_iload_n hx hb dX7_containerAt_43 rfl (lv_at hl 2 rfl) ?_
      refine lv_iload_n hx hb dX7_containerAt_44 rfl (lv_at hl 3 rfl) ?_
      refine lv_iload_n hx hb dX7_containerAt_45 rfl (lv_at hl 4 rfl) ?_
      obtain ⟨r11, hr12, hf⟩ := gbind hf
      have hr12 := C_X7_cell l E x  hr12
      refine g_callSi (rest := [.int 34, .ref (E.2.1 151), .ref (E.2.1 150)]) hC hI hr12 Y_X7_cell S_X7_cell w1432 ⟨rfl, rfl⟩ ⟨Nat.le_of_ble_eq_true rfl, Nat.le_of_ble_eq_true rfl⟩ rfl hl.1 rfl (Nat.le_of_ble_eq_true rfl) dX7_containerAt_46 ⟨Nat.le_of_ble_eq_true rfl, Nat.le_of_ble_eq_true rfl⟩ (fun H locs hI => ?_)
      refine lv_iadd hx hb dX7_containerAt_49 ?_
      obtain ⟨h13, hf⟩ := gifN hf
      refine g_iald hC hI (k := (34 + r11).toNatClampNeg) gIA_151 h13 rfl dX7_containerAt_50 ?_
      obtain ⟨r14, hr15, hf⟩ := gbind hf
      have hr15 := C_X7_done l E x  hr15
      refine g_callVi (rest := []) hC hI hr15 Y_X7_done V_X7_done w1409 (rcv_X7 hC hI) ⟨rfl, rfl⟩ ⟨Nat.le_of_ble_eq_true rfl, Nat.le_of_ble_eq_true rfl⟩ rfl hl.1 rfl (Nat.le_of_ble_eq_true rfl) dX7_containerAt_51 ⟨Nat.le_of_ble_eq_true rfl, Nat.le_of_ble_eq_true rfl⟩ (fun H locs hI => ?_)
      refine lv_goto (tgt := 62) hx hb dX7_containerAt_54 rfl ?_
      exact kr _ _ _ _ _ _ (grw hf) hI ⟨.int, rfl, rfl⟩ dX7_containerAt_62
  · replace hf := gifn h3 hf
    refine lv_aload_n hx hb dX7_containerAt_13 rfl (lv_at hl 1 rfl) ?_
    refine lv_iload hx hb dX7_containerAt_14 (lv_at hl 0 rfl) ?_
    obtain ⟨r16, hr17, hf⟩ := gbind hf
    have hr17 := C_X7_fails l E x  hr17
    refine g_callVi (rest := []) hC hI hr17 Y_X7_fails V_X7_fails w1401 (rcv_X7 hC hI) ⟨rfl, rfl⟩ ⟨Nat.le_of_ble_eq_true rfl, Nat.le_of_ble_eq_true rfl⟩ rfl hl.1 rfl (Nat.le_of_ble_eq_true rfl) dX7_containerAt_16 ⟨Nat.le_of_ble_eq_true rfl, Nat.le_of_ble_eq_true rfl⟩ (fun H locs hI => ?_)
    exact kr _ _ _ _ _ _ (grw hf) hI ⟨.int, rfl, rfl⟩ dX7_containerAt_19
theorem dX7_topOf_0 : decode cX7_topOf 0 = .ok (.aload_n 0, 1) := by decide +kernel
theorem dX7_topOf_1 : decode cX7_topOf 1 = .ok (.iload_n 1, 1) := by decide +kernel
theorem dX7_topOf_2 : decode cX7_topOf 2 = .ok (.iload_n 2, 1) := by decide +kernel
theorem dX7_topOf_3 : decode cX7_topOf 3 = .ok (.invokevirtual 158, 3) := by decide +kernel
theorem dX7_topOf_6 : decode cX7_topOf 6 = .ok (.istore_n 3, 1) := by decide +kernel
theorem dX7_topOf_7 : decode cX7_topOf 7 = .ok (.iload_n 3, 1) := by decide +kernel
theorem dX7_topOf_8 : decode cX7_topOf 8 = .ok (.ifCond .le 9, 3) := by decide +kernel
theorem dX7_topOf_11 : decode cX7_topOf 11 = .ok (.aload_n 0, 1) := by decide +kernel
theorem dX7_topOf_12 : decode cX7_topOf 12 = .ok (.iload_n 3, 1) := by decide +kernel
theorem dX7_topOf_13 : decode cX7_topOf 13 = .ok (.invokevirtual 67, 3) := by decide +kernel
theorem dX7_topOf_16 : decode cX7_topOf 16 = .ok (.ireturn, 1) := by decide +kernel
theorem dX7_topOf_17 : decode cX7_topOf 17 = .ok (.aload_n 0, 1) := by decide +kernel
theorem dX7_topOf_18 : decode cX7_topOf 18 = .ok (.iload_n 1, 1) := by decide +kernel
theorem dX7_topOf_19 : decode cX7_topOf 19 = .ok (.iload_n 2, 1) := by decide +kernel
theorem dX7_topOf_20 : decode cX7_topOf 20 = .ok (.invokevirtual 63, 3) := by decide +kernel
theorem dX7_topOf_23 : decode cX7_topOf 23 = .ok (.iconst 1, 1) := by decide +kernel
theorem dX7_topOf_24 : decode cX7_topOf 24 = .ok (.isub, 1) := by decide +kernel
theorem dX7_topOf_25 : decode cX7_topOf 25 = .ok (.istore 4, 2) := by decide +kernel
theorem dX7_topOf_27 : decode cX7_topOf 27 = .ok (.iload 4, 2) := by decide +kernel
theorem dX7_topOf_29 : decode cX7_topOf 29 = .ok (.ifCond .ge 11, 3) := by decide +kernel
theorem dX7_topOf_32 : decode cX7_topOf 32 = .ok (.aload_n 0, 1) := by decide +kernel
theorem dX7_topOf_33 : decode cX7_topOf 33 = .ok (.iconst 2, 1) := by decide +kernel
theorem dX7_topOf_34 : decode cX7_topOf 34 = .ok (.invokevirtual 67, 3) := by decide +kernel
theorem dX7_topOf_37 : decode cX7_topOf 37 = .ok (.goto 22, 3) := by decide +kernel
theorem dX7_topOf_40 : decode cX7_topOf 40 = .ok (.aload_n 0, 1) := by decide +kernel
theorem dX7_topOf_41 : decode cX7_topOf 41 = .ok (.aload_n 0, 1) := by decide +kernel
theorem dX7_topOf_42 : decode cX7_topOf 42 = .ok (.getfield 7, 3) := by decide +kernel
theorem dX7_topOf_45 : decode cX7_topOf 45 = .ok (.bipush 34, 2) := by decide +kernel
theorem dX7_topOf_47 : decode cX7_topOf 47 = .ok (.iload_n 1, 1) := by decide +kernel
theorem dX7_topOf_48 : decode cX7_topOf 48 = .ok (.iload_n 2, 1) := by decide +kernel
theorem dX7_topOf_49 : decode cX7_topOf 49 = .ok (.iload 4, 2) := by decide +kernel
theorem dX7_topOf_51 : decode cX7_topOf 51 = .ok (.invokestatic 92, 3) := by decide +kernel
theorem dX7_topOf_54 : decode cX7_topOf 54 = .ok (.iadd, 1) := by decide +kernel
theorem dX7_topOf_55 : decode cX7_topOf 55 = .ok (.iaload, 1) := by decide +kernel
theorem dX7_topOf_56 : decode cX7_topOf 56 = .ok (.invokevirtual 75, 3) := by decide +kernel
theorem dX7_topOf_59 : decode cX7_topOf 59 = .ok (.ireturn, 1) := by decide +kernel
set_option maxRecDepth 100000 in
set_option maxHeartbeats 4000000 in
theorem C_X7_topOf (l : Launch) (E : gE) (x : gX) {v1 v2 : Int32} {M : gM} {r : Int32} {M' : gM} (hf : f_X7_topOf v1 v2 M = some (r, M')) : gM0 l E yX7_topOf (.code yX7_topOf cX7_topOf 5 (some .int)) (gR 4 85) M x [.ref (E.2.1 150), .int v1, .int v2] (some (.int r)) M' := by
  refine gMet (by decide +kernel) (Nat.le_of_ble_eq_true rfl) ?_
  intro p e s m args below meth c H locs ls Q hC hl hI kr kv
  replace hC : gC p s m args c cX7_topOf 5 RX7 E := hC
  replace hl : lv_has ls 5 [(0, .ref (E.2.1 150)), (1, .int v1), (2, .int v2)] := hl
  have hx := hC.1
  have hb := hC.2.1
  unfold f_X7_topOf at hf
  refine lv_aload_n hx hb dX7_topOf_0 rfl (lv_at hl 0 rfl) ?_
  refine lv_iload_n hx hb dX7_topOf_1 rfl (lv_at hl 1 rfl) ?_
  refine lv_iload_n hx hb dX7_topOf_2 rfl (lv_at hl 2 rfl) ?_
  obtain ⟨r1, hr2, hf⟩ := gbind hf
  have hr2 := C_X7_whyNoStack l E x  hr2
  refine g_callVi (rest := []) hC hI hr2 Y_X7_whyNoStack V_X7_whyNoStack w1582 (rcv_X7 hC hI) ⟨rfl, rfl⟩ ⟨Nat.le_of_ble_eq_true rfl, Nat.le_of_ble_eq_true rfl⟩ rfl hl.1 rfl (Nat.le_of_ble_eq_true rfl) dX7_topOf_3 ⟨Nat.le_of_ble_eq_true rfl, Nat.le_of_ble_eq_true rfl⟩ (fun H locs hI => ?_)
  refine lv_istore_n (lv' := [(3, .int r1), (0, .ref (E.2.1 150)), (1, .int v1), (2, .int v2)]) hx hb dX7_topOf_6 rfl hl (by decide) rfl (fun ls hl => ?_)
  refine lv_iload_n hx hb dX7_topOf_7 rfl (lv_at hl 0 rfl) ?_
  refine lv_if_le (tgt := 17) hx hb dX7_topOf_8 rfl (fun h3 => ?_) (fun h3 => ?_)
  · replace hf := gif h3 hf
    refine lv_aload_n hx hb dX7_topOf_17 rfl (lv_at hl 1 rfl) ?_
    refine lv_iload_n hx hb dX7_topOf_18 rfl (lv_at hl 2 rfl) ?_
    refine lv_iload_n hx hb dX7_topOf_19 rfl (lv_at hl 3 rfl) ?_
    obtain ⟨r4, hr5, hf⟩ := gbind hf
    have hr5 := C_X7_height l E x  hr5
    refine g_callVi (rest := []) hC hI hr5 Y_X7_height V_X7_height w1428 (rcv_X7 hC hI) ⟨rfl, rfl⟩ ⟨Nat.le_of_ble_eq_true rfl, Nat.le_of_ble_eq_true rfl⟩ rfl hl.1 rfl (Nat.le_of_ble_eq_true rfl) dX7_topOf_20 ⟨Nat.le_of_ble_eq_true rfl, Nat.le_of_ble_eq_true rfl⟩ (fun H locs hI => ?_)
    refine lv_iconst (v := 1) hx hb dX7_topOf_23 (by decide) ?_
    refine lv_isub hx hb dX7_topOf_24 ?_
    obtain ⟨z6, ez6, hf⟩ := glet hf
    refine g_top ez6 ?_
    refine lv_istore (lv' := [(4, .int z6), (3, .int r1), (0, .ref (E.2.1 150)), (1, .int v1), (2, .int v2)]) hx hb dX7_topOf_25 hl (by decide) rfl (fun ls hl => ?_)
    refine lv_iload hx hb dX7_topOf_27 (lv_at hl 0 rfl) ?_
    refine lv_if_ge (tgt := 40) hx hb dX7_topOf_29 rfl (fun h7 => ?_) (fun h7 => ?_)
    · replace hf := gif h7 hf
      refine lv_aload_n hx hb dX7_topOf_40 rfl (lv_at hl 2 rfl) ?_
      refine lv_aload_n hx hb dX7_topOf_41 rfl (lv_at hl 2 rfl) ?_
      refine gt_X7_X7_g hC hI dX7_topOf_42 ?_
      refine lv_bipush (v := 34) hx hb dX7_topOf_45 (by decide) ?_
      refine lv_iload_n hx hb dX7_topOf_47 rfl (lv_at hl 3 rfl) ?_
      refine lv_iload_n hx hb dX7_topOf_48 rfl (lv_at hl 4 rfl) ?_
      refine lv_iload hx hb dX7_topOf_49 (lv_at hl 0 rfl) ?_
      obtain ⟨r8, hr9, hf⟩ := gbind hf
      have hr9 := C_X7_cell l E x  hr9
      refine g_callSi (rest := [.int 34, .ref (E.2.1 151), .ref (E.2.1 150)]) hC hI hr9 Y_X7_cell S_X7_cell w1432 ⟨rfl, rfl⟩ ⟨Nat.le_of_ble_eq_true rfl, Nat.le_of_ble_eq_true rfl⟩ rfl hl.1 rfl (Nat.le_of_ble_eq_true rfl) dX7_topOf_51 ⟨Nat.le_of_ble_eq_true rfl, Nat.le_of_ble_eq_true rfl⟩ (fun H locs hI => ?_)
      refine lv_iadd hx hb dX7_topOf_54 ?_
      obtain ⟨h10, hf⟩ := gifN hf
      refine g_iald hC hI (k := (34 + r8).toNatClampNeg) gIA_151 h10 rfl dX7_topOf_55 ?_
      obtain ⟨r11, hr12, hf⟩ := gbind hf
      have hr12 := C_X7_done l E x  hr12
      refine g_callVi (rest := []) hC hI hr12 Y_X7_done V_X7_done w1409 (rcv_X7 hC hI) ⟨rfl, rfl⟩ ⟨Nat.le_of_ble_eq_true rfl, Nat.le_of_ble_eq_true rfl⟩ rfl hl.1 rfl (Nat.le_of_ble_eq_true rfl) dX7_topOf_56 ⟨Nat.le_of_ble_eq_true rfl, Nat.le_of_ble_eq_true rfl⟩ (fun H locs hI => ?_)
      exact kr _ _ _ _ _ _ (grw hf) hI ⟨.int, rfl, rfl⟩ dX7_topOf_59
    · replace hf := gifn h7 hf
      refine lv_aload_n hx hb dX7_topOf_32 rfl (lv_at hl 2 rfl) ?_
      refine lv_iconst (v := 2) hx hb dX7_topOf_33 (by decide) ?_
      obtain ⟨r13, hr14, hf⟩ := gbind hf
      have hr14 := C_X7_fails l E x  hr14
      refine g_callVi (rest := []) hC hI hr14 Y_X7_fails V_X7_fails w1401 (rcv_X7 hC hI) ⟨rfl, rfl⟩ ⟨Nat.le_of_ble_eq_true rfl, Nat.le_of_ble_eq_true rfl⟩ rfl hl.1 rfl (Nat.le_of_ble_eq_true rfl) dX7_topOf_34 ⟨Nat.le_of_ble_eq_true rfl, Nat.le_of_ble_eq_true rfl⟩ (fun H locs hI => ?_)
      refine lv_goto (tgt := 59) hx hb dX7_topOf_37 rfl ?_
      exact kr _ _ _ _ _ _ (grw hf) hI ⟨.int, rfl, rfl⟩ dX7_topOf_59
  · replace hf := gifn h3 hf
    refine lv_aload_n hx hb dX7_topOf_11 rfl (lv_at hl 1 rfl) ?_
    refine lv_iload_n hx hb dX7_topOf_12 rfl (lv_at hl 0 rfl) ?_
    obtain ⟨r15, hr16, hf⟩ := gbind hf
    have hr16 := C_X7_fails l E x  hr16
    refine g_callVi (rest := []) hC hI hr16 Y_X7_fails V_X7_fails w1401 (rcv_X7 hC hI) ⟨rfl, rfl⟩ ⟨Nat.le_of_ble_eq_true rfl, Nat.le_of_ble_eq_true rfl⟩ rfl hl.1 rfl (Nat.le_of_ble_eq_true rfl) dX7_topOf_13 ⟨Nat.le_of_ble_eq_true rfl, Nat.le_of_ble_eq_true rfl⟩ (fun H locs hI => ?_)
    exact kr _ _ _ _ _ _ (grw hf) hI ⟨.int, rfl, rfl⟩ dX7_topOf_16
theorem dX7_containersOn_0 : decode cX7_containersOn 0 = .ok (.aload_n 0, 1) := by decide +kernel
theorem dX7_containersOn_1 : decode cX7_containersOn 1 = .ok (.iload_n 1, 1) := by decide +kernel
theorem dX7_containersOn_2 : decode cX7_containersOn 2 = .ok (.invokevirtual 146, 3) := by decide +kernel
theorem dX7_containersOn_5 : decode cX7_containersOn 5 = .ok (.istore_n 2, 1) := by decide +kernel
theorem dX7_containersOn_6 : decode cX7_containersOn 6 = .ok (.iload_n 2, 1) := by decide +kernel
theorem dX7_containersOn_7 : decode cX7_containersOn 7 = .ok (.ifCond .le 11, 3) := by decide +kernel
theorem dX7_containersOn_10 : decode cX7_containersOn 10 = .ok (.aload_n 0, 1) := by decide +kernel
theorem dX7_containersOn_11 : decode cX7_containersOn 11 = .ok (.iload_n 2, 1) := by decide +kernel
theorem dX7_containersOn_12 : decode cX7_containersOn 12 = .ok (.invokevirtual 67, 3) := by decide +kernel
theorem dX7_containersOn_15 : decode cX7_containersOn 15 = .ok (.goto 12, 3) := by decide +kernel
theorem dX7_containersOn_18 : decode cX7_containersOn 18 = .ok (.aload_n 0, 1) := by decide +kernel
theorem dX7_containersOn_19 : decode cX7_containersOn 19 = .ok (.aload_n 0, 1) := by decide +kernel
theorem dX7_containersOn_20 : decode cX7_containersOn 20 = .ok (.iload_n 1, 1) := by decide +kernel
theorem dX7_containersOn_21 : decode cX7_containersOn 21 = .ok (.invokevirtual 125, 3) := by decide +kernel
theorem dX7_containersOn_24 : decode cX7_containersOn 24 = .ok (.invokevirtual 75, 3) := by decide +kernel
theorem dX7_containersOn_27 : decode cX7_containersOn 27 = .ok (.ireturn, 1) := by decide +kernel
set_option maxRecDepth 100000 in
set_option maxHeartbeats 4000000 in
theorem C_X7_containersOn (l : Launch) (E : gE) (x : gX) {v1 : Int32} {M : gM} {r : Int32} {M' : gM} (hf : f_X7_containersOn v1 M = some (r, M')) : gM0 l E yX7_containersOn (.code yX7_containersOn cX7_containersOn 3 (some .int)) (gR 3 63) M x [.ref (E.2.1 150), .int v1] (some (.int r)) M' := by
  refine gMet (by decide +kernel) (Nat.le_of_ble_eq_true rfl) ?_
  intro p e s m args below meth c H locs ls Q hC hl hI kr kv
  replace hC : gC p s m args c cX7_containersOn 3 RX7 E := hC
  replace hl : lv_has ls 3 [(0, .ref (E.2.1 150)), (1, .int v1)] := hl
  have hx := hC.1
  have hb := hC.2.1
  unfold f_X7_containersOn at hf
  refine lv_aload_n hx hb dX7_containersOn_0 rfl (lv_at hl 0 rfl) ?_
  refine lv_iload_n hx hb dX7_containersOn_1 rfl (lv_at hl 1 rfl) ?_
  obtain ⟨r1, hr2, hf⟩ := gbind hf
  have hr2 := C_X7_whyNoShip l E x  hr2
  refine g_callVi (rest := []) hC hI hr2 Y_X7_whyNoShip V_X7_whyNoShip w1537 (rcv_X7 hC hI) ⟨rfl, rfl⟩ ⟨Nat.le_of_ble_eq_true rfl, Nat.le_of_ble_eq_true rfl⟩ rfl hl.1 rfl (Nat.le_of_ble_eq_true rfl) dX7_containersOn_2 ⟨Nat.le_of_ble_eq_true rfl, Nat.le_of_ble_eq_true rfl⟩ (fun H locs hI => ?_)
  refine lv_istore_n (lv' := [(2, .int r1), (0, .ref (E.2.1 150)), (1, .int v1)]) hx hb dX7_containersOn_5 rfl hl (by decide) rfl (fun ls hl => ?_)
  refine lv_iload_n hx hb dX7_containersOn_6 rfl (lv_at hl 0 rfl) ?_
  refine lv_if_le (tgt := 18) hx hb dX7_containersOn_7 rfl (fun h3 => ?_) (fun h3 => ?_)
  · replace hf := gif h3 hf
    refine lv_aload_n hx hb dX7_containersOn_18 rfl (lv_at hl 1 rfl) ?_
    refine lv_aload_n hx hb dX7_containersOn_19 rfl (lv_at hl 1 rfl) ?_
    refine lv_iload_n hx hb dX7_containersOn_20 rfl (lv_at hl 2 rfl) ?_
    obtain ⟨r4, hr5, hf⟩ := gbind hf
    have hr5 := C_X7_load l E x  hr5
    refine g_callVi (rest := [.ref (E.2.1 150)]) hC hI hr5 Y_X7_load V_X7_load w1486 (rcv_X7 hC hI) ⟨rfl, rfl⟩ ⟨Nat.le_of_ble_eq_true rfl, Nat.le_of_ble_eq_true rfl⟩ rfl hl.1 rfl (Nat.le_of_ble_eq_true rfl) dX7_containersOn_21 ⟨Nat.le_of_ble_eq_true rfl, Nat.le_of_ble_eq_true rfl⟩ (fun H locs hI => ?_)
    obtain ⟨r6, hr7, hf⟩ := gbind hf
    have hr7 := C_X7_done l E x  hr7
    refine g_callVi (rest := []) hC hI hr7 Y_X7_done V_X7_done w1409 (rcv_X7 hC hI) ⟨rfl, rfl⟩ ⟨Nat.le_of_ble_eq_true rfl, Nat.le_of_ble_eq_true rfl⟩ rfl hl.1 rfl (Nat.le_of_ble_eq_true rfl) dX7_containersOn_24 ⟨Nat.le_of_ble_eq_true rfl, Nat.le_of_ble_eq_true rfl⟩ (fun H locs hI => ?_)
    exact kr _ _ _ _ _ _ (grw hf) hI ⟨.int, rfl, rfl⟩ dX7_containersOn_27
  · replace hf := gifn h3 hf
    refine lv_aload_n hx hb dX7_containersOn_10 rfl (lv_at hl 1 rfl) ?_
    refine lv_iload_n hx hb dX7_containersOn_11 rfl (lv_at hl 0 rfl) ?_
    obtain ⟨r8, hr9, hf⟩ := gbind hf
    have hr9 := C_X7_fails l E x  hr9
    refine g_callVi (rest := []) hC hI hr9 Y_X7_fails V_X7_fails w1401 (rcv_X7 hC hI) ⟨rfl, rfl⟩ ⟨Nat.le_of_ble_eq_true rfl, Nat.le_of_ble_eq_true rfl⟩ rfl hl.1 rfl (Nat.le_of_ble_eq_true rfl) dX7_containersOn_12 ⟨Nat.le_of_ble_eq_true rfl, Nat.le_of_ble_eq_true rfl⟩ (fun H locs hI => ?_)
    refine lv_goto (tgt := 27) hx hb dX7_containersOn_15 rfl ?_
    exact kr _ _ _ _ _ _ (grw hf) hI ⟨.int, rfl, rfl⟩ dX7_containersOn_27
theorem dX7_weightOn_0 : decode cX7_weightOn 0 = .ok (.aload_n 0, 1) := by decide +kernel
theorem dX7_weightOn_1 : decode cX7_weightOn 1 = .ok (.iload_n 1, 1) := by decide +kernel
theorem dX7_weightOn_2 : decode cX7_weightOn 2 = .ok (.invokevirtual 146, 3) := by decide +kernel
theorem dX7_weightOn_5 : decode cX7_weightOn 5 = .ok (.istore_n 2, 1) := by decide +kernel
theorem dX7_weightOn_6 : decode cX7_weightOn 6 = .ok (.iload_n 2, 1) := by decide +kernel
theorem dX7_weightOn_7 : decode cX7_weightOn 7 = .ok (.ifCond .le 9, 3) := by decide +kernel
theorem dX7_weightOn_10 : decode cX7_weightOn 10 = .ok (.aload_n 0, 1) := by decide +kernel
theorem dX7_weightOn_11 : decode cX7_weightOn 11 = .ok (.iload_n 2, 1) := by decide +kernel
theorem dX7_weightOn_12 : decode cX7_weightOn 12 = .ok (.invokevirtual 67, 3) := by decide +kernel
theorem dX7_weightOn_15 : decode cX7_weightOn 15 = .ok (.ireturn, 1) := by decide +kernel
theorem dX7_weightOn_16 : decode cX7_weightOn 16 = .ok (.iconst 0, 1) := by decide +kernel
theorem dX7_weightOn_17 : decode cX7_weightOn 17 = .ok (.istore_n 3, 1) := by decide +kernel
theorem dX7_weightOn_18 : decode cX7_weightOn 18 = .ok (.bipush 20, 2) := by decide +kernel
theorem dX7_weightOn_20 : decode cX7_weightOn 20 = .ok (.iload_n 1, 1) := by decide +kernel
theorem dX7_weightOn_21 : decode cX7_weightOn 21 = .ok (.imul, 1) := by decide +kernel
theorem dX7_weightOn_22 : decode cX7_weightOn 22 = .ok (.istore 4, 2) := by decide +kernel
theorem dX7_weightOn_24 : decode cX7_weightOn 24 = .ok (.iload 4, 2) := by decide +kernel
theorem dX7_weightOn_26 : decode cX7_weightOn 26 = .ok (.bipush 20, 2) := by decide +kernel
theorem dX7_weightOn_28 : decode cX7_weightOn 28 = .ok (.iload_n 1, 1) := by decide +kernel
theorem dX7_weightOn_29 : decode cX7_weightOn 29 = .ok (.iconst 1, 1) := by decide +kernel
theorem dX7_weightOn_30 : decode cX7_weightOn 30 = .ok (.iadd, 1) := by decide +kernel
theorem dX7_weightOn_31 : decode cX7_weightOn 31 = .ok (.imul, 1) := by decide +kernel
theorem dX7_weightOn_32 : decode cX7_weightOn 32 = .ok (.if_icmp .ge 35, 3) := by decide +kernel
theorem dX7_weightOn_35 : decode cX7_weightOn 35 = .ok (.iload_n 3, 1) := by decide +kernel
theorem dX7_weightOn_36 : decode cX7_weightOn 36 = .ok (.aload_n 0, 1) := by decide +kernel
theorem dX7_weightOn_37 : decode cX7_weightOn 37 = .ok (.iload 4, 2) := by decide +kernel
theorem dX7_weightOn_39 : decode cX7_weightOn 39 = .ok (.invokevirtual 60, 3) := by decide +kernel
theorem dX7_weightOn_42 : decode cX7_weightOn 42 = .ok (.ifCond .eq 16, 3) := by decide +kernel
theorem dX7_weightOn_45 : decode cX7_weightOn 45 = .ok (.aload_n 0, 1) := by decide +kernel
theorem dX7_weightOn_46 : decode cX7_weightOn 46 = .ok (.getfield 7, 3) := by decide +kernel
theorem dX7_weightOn_49 : decode cX7_weightOn 49 = .ok (.bipush 94, 2) := by decide +kernel
theorem dX7_weightOn_51 : decode cX7_weightOn 51 = .ok (.iload 4, 2) := by decide +kernel
theorem dX7_weightOn_53 : decode cX7_weightOn 53 = .ok (.iadd, 1) := by decide +kernel
theorem dX7_weightOn_54 : decode cX7_weightOn 54 = .ok (.iaload, 1) := by decide +kernel
theorem dX7_weightOn_55 : decode cX7_weightOn 55 = .ok (.goto 4, 3) := by decide +kernel
theorem dX7_weightOn_58 : decode cX7_weightOn 58 = .ok (.iconst 0, 1) := by decide +kernel
theorem dX7_weightOn_59 : decode cX7_weightOn 59 = .ok (.iadd, 1) := by decide +kernel
theorem dX7_weightOn_60 : decode cX7_weightOn 60 = .ok (.istore_n 3, 1) := by decide +kernel
theorem dX7_weightOn_61 : decode cX7_weightOn 61 = .ok (.iinc 4 1, 3) := by decide +kernel
theorem dX7_weightOn_64 : decode cX7_weightOn 64 = .ok (.goto (-40), 3) := by decide +kernel
theorem dX7_weightOn_67 : decode cX7_weightOn 67 = .ok (.aload_n 0, 1) := by decide +kernel
theorem dX7_weightOn_68 : decode cX7_weightOn 68 = .ok (.iload_n 3, 1) := by decide +kernel
theorem dX7_weightOn_69 : decode cX7_weightOn 69 = .ok (.invokevirtual 75, 3) := by decide +kernel
theorem dX7_weightOn_72 : decode cX7_weightOn 72 = .ok (.ireturn, 1) := by decide +kernel
set_option maxRecDepth 100000 in
set_option maxHeartbeats 4000000 in
theorem C_X7_weightOn (l : Launch) (E : gE) (x : gX) {v1 : Int32} {M : gM} {r : Int32} {M' : gM} (hf : f_X7_weightOn v1 M = some (r, M')) : gM0 l E yX7_weightOn (.code yX7_weightOn cX7_weightOn 5 (some .int)) (gR 3 63) M x [.ref (E.2.1 150), .int v1] (some (.int r)) M' := by
  refine gMet (by decide +kernel) (Nat.le_of_ble_eq_true rfl) ?_
  intro p e s m args below meth c H locs ls Q hC hl hI kr kv
  replace hC : gC p s m args c cX7_weightOn 5 RX7 E := hC
  replace hl : lv_has ls 5 [(0, .ref (E.2.1 150)), (1, .int v1)] := hl
  have hx := hC.1
  have hb := hC.2.1
  have L24 : ∀ (v2 : Int32) (v1 : Int32) (n : Nat) (v4 : Int32) (v3 : Int32) (M : gM), f_X7_weightOn_L24 v2 v1 n v4 v3 M = some (r, M') → ∀ (H : Heap) (locs : List Loc) (ls : Array Slot), gI E s M x H locs → lv_has ls 5 [(4, .int v4), (3, .int v3), (2, .int v2), (0, .ref (E.2.1 150)), (1, .int v1)] → W p l e (gR 3 63) s m args below meth c H locs 0 0 Q (F0 m 24 ls []) := by
    intro v2 v1 n
    induction n with
    | zero => intro v4 v3 M hf; rw [f_X7_weightOn_L24] at hf; cases hf
    | succ n ih =>
      intro v4 v3 M hf H locs ls hI hl
      rw [f_X7_weightOn_L24] at hf
      refine lv_iload hx hb dX7_weightOn_24 (lv_at hl 0 rfl) ?_
      refine lv_bipush (v := 20) hx hb dX7_weightOn_26 (by decide) ?_
      refine lv_iload_n hx hb dX7_weightOn_28 rfl (lv_at hl 4 rfl) ?_
      refine lv_iconst (v := 1) hx hb dX7_weightOn_29 (by decide) ?_
      refine lv_iadd hx hb dX7_weightOn_30 ?_
      refine lv_imul hx hb dX7_weightOn_31 ?_
      refine lv_icmp_ge (tgt := 67) hx hb dX7_weightOn_32 rfl (fun h5 => ?_) (fun h5 => ?_)
      · replace hf := gif h5 hf
        refine lv_aload_n hx hb dX7_weightOn_67 rfl (lv_at hl 3 rfl) ?_
        refine lv_iload_n hx hb dX7_weightOn_68 rfl (lv_at hl 1 rfl) ?_
        obtain ⟨r6, hr7, hf⟩ := gbind hf
        have hr7 := C_X7_done l E x  hr7
        refine g_callVi (rest := []) hC hI hr7 Y_X7_done V_X7_done w1409 (rcv_X7 hC hI) ⟨rfl, rfl⟩ ⟨Nat.le_of_ble_eq_true rfl, Nat.le_of_ble_eq_true rfl⟩ rfl hl.1 rfl (Nat.le_of_ble_eq_true rfl) dX7_weightOn_69 ⟨Nat.le_of_ble_eq_true rfl, Nat.le_of_ble_eq_true rfl⟩ (fun H locs hI => ?_)
        exact kr _ _ _ _ _ _ (grw hf) hI ⟨.int, rfl, rfl⟩ dX7_weightOn_72
      · replace hf := gifn h5 hf
        refine lv_iload_n hx hb dX7_weightOn_35 rfl (lv_at hl 1 rfl) ?_
        refine lv_aload_n hx hb dX7_weightOn_36 rfl (lv_at hl 3 rfl) ?_
        refine lv_iload hx hb dX7_weightOn_37 (lv_at hl 0 rfl) ?_
        obtain ⟨r8, hr9, hf⟩ := gbind hf
        have hr9 := C_X7_isFull l E x  hr9
        refine g_callVi (rest := [.int v3]) hC hI hr9 Y_X7_isFull V_X7_isFull w1602 (rcv_X7 hC hI) ⟨rfl, rfl⟩ ⟨Nat.le_of_ble_eq_true rfl, Nat.le_of_ble_eq_true rfl⟩ rfl hl.1 rfl (Nat.le_of_ble_eq_true rfl) dX7_weightOn_39 ⟨Nat.le_of_ble_eq_true rfl, Nat.le_of_ble_eq_true rfl⟩ (fun H locs hI => ?_)
        refine lv_if_eq (tgt := 58) hx hb dX7_weightOn_42 rfl (fun h10 => ?_) (fun h10 => ?_)
        · replace hf := gif h10 hf
          refine lv_iconst (v := 0) hx hb dX7_weightOn_58 (by decide) ?_
          refine lv_iadd hx hb dX7_weightOn_59 ?_
          obtain ⟨z11, ez11, hf⟩ := glet hf
          refine g_top ez11 ?_
          refine lv_istore_n (lv' := [(3, .int z11), (4, .int v4), (2, .int v2), (0, .ref (E.2.1 150)), (1, .int v1)]) hx hb dX7_weightOn_60 rfl hl (by decide) rfl (fun ls hl => ?_)
          refine lv_iinc (k := 1) (v := v4 + 1) (lv' := [(4, .int (v4 + 1)), (3, .int z11), (2, .int v2), (0, .ref (E.2.1 150)), (1, .int v1)]) hx hb dX7_weightOn_61 hl rfl rfl (by decide) rfl (fun ls hl => ?_)
          refine lv_goto (tgt := 24) hx hb dX7_weightOn_64 rfl ?_
          exact ih (v4 + 1) z11 M hf _ _ _ hI (lv_sub hl [0, 1, 2, 3, 4] rfl)
        · replace hf := gifn h10 hf
          refine lv_aload_n hx hb dX7_weightOn_45 rfl (lv_at hl 3 rfl) ?_
          refine gt_X7_X7_g hC hI dX7_weightOn_46 ?_
          refine lv_bipush (v := 94) hx hb dX7_weightOn_49 (by decide) ?_
          refine lv_iload hx hb dX7_weightOn_51 (lv_at hl 0 rfl) ?_
          refine lv_iadd hx hb dX7_weightOn_53 ?_
          obtain ⟨h12, hf⟩ := gifN hf
          refine g_iald hC hI (k := (94 + v4).toNatClampNeg) gIA_151 h12 rfl dX7_weightOn_54 ?_
          refine lv_goto (tgt := 59) hx hb dX7_weightOn_55 rfl ?_
          refine lv_iadd hx hb dX7_weightOn_59 ?_
          obtain ⟨z13, ez13, hf⟩ := glet hf
          refine g_top ez13 ?_
          refine lv_istore_n (lv' := [(3, .int z13), (4, .int v4), (2, .int v2), (0, .ref (E.2.1 150)), (1, .int v1)]) hx hb dX7_weightOn_60 rfl hl (by decide) rfl (fun ls hl => ?_)
          refine lv_iinc (k := 1) (v := v4 + 1) (lv' := [(4, .int (v4 + 1)), (3, .int z13), (2, .int v2), (0, .ref (E.2.1 150)), (1, .int v1)]) hx hb dX7_weightOn_61 hl rfl rfl (by decide) rfl (fun ls hl => ?_)
          refine lv_goto (tgt := 24) hx hb dX7_weightOn_64 rfl ?_
          exact ih (v4 + 1) z13 M hf _ _ _ hI (lv_sub hl [0, 1, 2, 3, 4] rfl)
  unfold f_X7_weightOn at hf
  refine lv_aload_n hx hb dX7_weightOn_0 rfl (lv_at hl 0 rfl) ?_
  refine lv_iload_n hx hb dX7_weightOn_1 rfl (lv_at hl 1 rfl) ?_
  obtain ⟨r1, hr2, hf⟩ := gbind hf
  have hr2 := C_X7_whyNoShip l E x  hr2
  refine g_callVi (rest := []) hC hI hr2 Y_X7_whyNoShip V_X7_whyNoShip w1537 (rcv_X7 hC hI) ⟨rfl, rfl⟩ ⟨Nat.le_of_ble_eq_true rfl, Nat.le_of_ble_eq_true rfl⟩ rfl hl.1 rfl (Nat.le_of_ble_eq_true rfl) dX7_weightOn_2 ⟨Nat.le_of_ble_eq_true rfl, Nat.le_of_ble_eq_true rfl⟩ (fun H locs hI => ?_)
  refine lv_istore_n (lv' := [(2, .int r1), (0, .ref (E.2.1 150)), (1, .int v1)]) hx hb dX7_weightOn_5 rfl hl (by decide) rfl (fun ls hl => ?_)
  refine lv_iload_n hx hb dX7_weightOn_6 rfl (lv_at hl 0 rfl) ?_
  refine lv_if_le (tgt := 16) hx hb dX7_weightOn_7 rfl (fun h3 => ?_) (fun h3 => ?_)
  · replace hf := gif h3 hf
    refine lv_iconst (v := 0) hx hb dX7_weightOn_16 (by decide) ?_
    refine lv_istore_n (lv' := [(3, .int 0), (2, .int r1), (0, .ref (E.2.1 150)), (1, .int v1)]) hx hb dX7_weightOn_17 rfl hl (by decide) rfl (fun ls hl => ?_)
    refine lv_bipush (v := 20) hx hb dX7_weightOn_18 (by decide) ?_
    refine lv_iload_n hx hb dX7_weightOn_20 rfl (lv_at hl 3 rfl) ?_
    refine lv_imul hx hb dX7_weightOn_21 ?_
    obtain ⟨z4, ez4, hf⟩ := glet hf
    refine g_top ez4 ?_
    refine lv_istore (lv' := [(4, .int z4), (3, .int 0), (2, .int r1), (0, .ref (E.2.1 150)), (1, .int v1)]) hx hb dX7_weightOn_22 hl (by decide) rfl (fun ls hl => ?_)
    exact L24 r1 v1 gF z4 0 M hf _ _ _ hI (lv_sub hl [0, 1, 2, 3, 4] rfl)
  · replace hf := gifn h3 hf
    refine lv_aload_n hx hb dX7_weightOn_10 rfl (lv_at hl 1 rfl) ?_
    refine lv_iload_n hx hb dX7_weightOn_11 rfl (lv_at hl 0 rfl) ?_
    obtain ⟨r14, hr15, hf⟩ := gbind hf
    have hr15 := C_X7_fails l E x  hr15
    refine g_callVi (rest := []) hC hI hr15 Y_X7_fails V_X7_fails w1401 (rcv_X7 hC hI) ⟨rfl, rfl⟩ ⟨Nat.le_of_ble_eq_true rfl, Nat.le_of_ble_eq_true rfl⟩ rfl hl.1 rfl (Nat.le_of_ble_eq_true rfl) dX7_weightOn_12 ⟨Nat.le_of_ble_eq_true rfl, Nat.le_of_ble_eq_true rfl⟩ (fun H locs hI => ?_)
    exact kr _ _ _ _ _ _ (grw hf) hI ⟨.int, rfl, rfl⟩ dX7_weightOn_15
theorem dX7_weightOnByContainers_0 : decode cX7_weightOnByContainers 0 = .ok (.aload_n 0, 1) := by decide +kernel
theorem dX7_weightOnByContainers_1 : decode cX7_weightOnByContainers 1 = .ok (.iload_n 1, 1) := by decide +kernel
theorem dX7_weightOnByContainers_2 : decode cX7_weightOnByContainers 2 = .ok (.invokevirtual 161, 3) := by decide +kernel
theorem dX7_weightOnByContainers_5 : decode cX7_weightOnByContainers 5 = .ok (.ireturn, 1) := by decide +kernel
set_option maxRecDepth 100000 in
set_option maxHeartbeats 4000000 in
theorem C_X7_weightOnByContainers (l : Launch) (E : gE) (x : gX) {v1 : Int32} {M : gM} {r : Int32} {M' : gM} (hf : f_X7_weightOnByContainers v1 M = some (r, M')) : gM0 l E yX7_weightOnByContainers (.code yX7_weightOnByContainers cX7_weightOnByContainers 2 (some .int)) (gR 4 87) M x [.ref (E.2.1 150), .int v1] (some (.int r)) M' := by
  refine gMet (by decide +kernel) (Nat.le_of_ble_eq_true rfl) ?_
  intro p e s m args below meth c H locs ls Q hC hl hI kr kv
  replace hC : gC p s m args c cX7_weightOnByContainers 2 RX7 E := hC
  replace hl : lv_has ls 2 [(0, .ref (E.2.1 150)), (1, .int v1)] := hl
  have hx := hC.1
  have hb := hC.2.1
  unfold f_X7_weightOnByContainers at hf
  refine lv_aload_n hx hb dX7_weightOnByContainers_0 rfl (lv_at hl 0 rfl) ?_
  refine lv_iload_n hx hb dX7_weightOnByContainers_1 rfl (lv_at hl 1 rfl) ?_
  obtain ⟨r1, hr2, hf⟩ := gbind hf
  have hr2 := C_X7_weightOn l E x  hr2
  refine g_callVi (rest := []) hC hI hr2 Y_X7_weightOn V_X7_weightOn w1610 (rcv_X7 hC hI) ⟨rfl, rfl⟩ ⟨Nat.le_of_ble_eq_true rfl, Nat.le_of_ble_eq_true rfl⟩ rfl hl.1 rfl (Nat.le_of_ble_eq_true rfl) dX7_weightOnByContainers_2 ⟨Nat.le_of_ble_eq_true rfl, Nat.le_of_ble_eq_true rfl⟩ (fun H locs hI => ?_)
  exact kr _ _ _ _ _ _ (grw hf) hI ⟨.int, rfl, rfl⟩ dX7_weightOnByContainers_5
theorem dX7_isOnShip_0 : decode cX7_isOnShip 0 = .ok (.aload_n 0, 1) := by decide +kernel
theorem dX7_isOnShip_1 : decode cX7_isOnShip 1 = .ok (.iconst 0, 1) := by decide +kernel
theorem dX7_isOnShip_2 : decode cX7_isOnShip 2 = .ok (.putfield 42, 3) := by decide +kernel
theorem dX7_isOnShip_5 : decode cX7_isOnShip 5 = .ok (.aload_n 0, 1) := by decide +kernel
theorem dX7_isOnShip_6 : decode cX7_isOnShip 6 = .ok (.iload_n 1, 1) := by decide +kernel
theorem dX7_isOnShip_7 : decode cX7_isOnShip 7 = .ok (.invokevirtual 164, 3) := by decide +kernel
theorem dX7_isOnShip_10 : decode cX7_isOnShip 10 = .ok (.iconst (-1), 1) := by decide +kernel
theorem dX7_isOnShip_11 : decode cX7_isOnShip 11 = .ok (.if_icmp .eq 7, 3) := by decide +kernel
theorem dX7_isOnShip_14 : decode cX7_isOnShip 14 = .ok (.iconst 1, 1) := by decide +kernel
theorem dX7_isOnShip_15 : decode cX7_isOnShip 15 = .ok (.goto 4, 3) := by decide +kernel
theorem dX7_isOnShip_18 : decode cX7_isOnShip 18 = .ok (.iconst 0, 1) := by decide +kernel
theorem dX7_isOnShip_19 : decode cX7_isOnShip 19 = .ok (.ireturn, 1) := by decide +kernel
set_option maxRecDepth 100000 in
set_option maxHeartbeats 4000000 in
theorem C_X7_isOnShip (l : Launch) (E : gE) (x : gX) {v1 : Int32} {M : gM} {r : Bool} {M' : gM} (hf : f_X7_isOnShip v1 M = some (r, M')) : gM0 l E yX7_isOnShip (.code yX7_isOnShip cX7_isOnShip 2 (some .boolean)) (gR 2 43) M x [.ref (E.2.1 150), .int v1] (some (.int (gb r))) M' := by
  refine gMet (by decide +kernel) (Nat.le_of_ble_eq_true rfl) ?_
  intro p e s m args below meth c H locs ls Q hC hl hI kr kv
  replace hC : gC p s m args c cX7_isOnShip 2 RX7 E := hC
  replace hl : lv_has ls 2 [(0, .ref (E.2.1 150)), (1, .int v1)] := hl
  have hx := hC.1
  have hb := hC.2.1
  unfold f_X7_isOnShip at hf
  refine lv_aload_n hx hb dX7_isOnShip_0 rfl (lv_at hl 0 rfl) ?_
  refine lv_iconst (v := 0) hx hb dX7_isOnShip_1 (by decide) ?_
  obtain ⟨M1, eM1, hf⟩ := glet hf
  refine pt_X7_X7_thrown hC hI dX7_isOnShip_2 (fun H locs hI => ?_)
  replace hI := g_mem eM1 hI
  refine lv_aload_n hx hb dX7_isOnShip_5 rfl (lv_at hl 0 rfl) ?_
  refine lv_iload_n hx hb dX7_isOnShip_6 rfl (lv_at hl 1 rfl) ?_
  obtain ⟨r2, hr3, hf⟩ := gbind hf
  have hr3 := C_X7_cellOf l E x  hr3
  refine g_callVi (rest := []) hC hI hr3 Y_X7_cellOf V_X7_cellOf w1615 (rcv_X7 hC hI) ⟨rfl, rfl⟩ ⟨Nat.le_of_ble_eq_true rfl, Nat.le_of_ble_eq_true rfl⟩ rfl hl.1 rfl (Nat.le_of_ble_eq_true rfl) dX7_isOnShip_7 ⟨Nat.le_of_ble_eq_true rfl, Nat.le_of_ble_eq_true rfl⟩ (fun H locs hI => ?_)
  refine lv_iconst (v := (-1)) hx hb dX7_isOnShip_10 (by decide) ?_
  refine lv_icmp_eq (tgt := 18) hx hb dX7_isOnShip_11 rfl (fun h4 => ?_) (fun h4 => ?_)
  · replace hf := gif h4 hf
    refine lv_iconst (v := 0) hx hb dX7_isOnShip_18 (by decide) ?_
    exact kr _ _ _ _ _ _ (grwb0 hf) hI ⟨.boolean, rfl, rfl⟩ dX7_isOnShip_19
  · replace hf := gifn h4 hf
    refine lv_iconst (v := 1) hx hb dX7_isOnShip_14 (by decide) ?_
    refine lv_goto (tgt := 19) hx hb dX7_isOnShip_15 rfl ?_
    exact kr _ _ _ _ _ _ (grwb1 hf) hI ⟨.boolean, rfl, rfl⟩ dX7_isOnShip_19
theorem dX7_isInYard_0 : decode cX7_isInYard 0 = .ok (.aload_n 0, 1) := by decide +kernel
theorem dX7_isInYard_1 : decode cX7_isInYard 1 = .ok (.iconst 0, 1) := by decide +kernel
theorem dX7_isInYard_2 : decode cX7_isInYard 2 = .ok (.putfield 42, 3) := by decide +kernel
theorem dX7_isInYard_5 : decode cX7_isInYard 5 = .ok (.aload_n 0, 1) := by decide +kernel
theorem dX7_isInYard_6 : decode cX7_isInYard 6 = .ok (.iload_n 1, 1) := by decide +kernel
theorem dX7_isInYard_7 : decode cX7_isInYard 7 = .ok (.invokevirtual 116, 3) := by decide +kernel
theorem dX7_isInYard_10 : decode cX7_isInYard 10 = .ok (.iconst (-1), 1) := by decide +kernel
theorem dX7_isInYard_11 : decode cX7_isInYard 11 = .ok (.if_icmp .eq 7, 3) := by decide +kernel
theorem dX7_isInYard_14 : decode cX7_isInYard 14 = .ok (.iconst 1, 1) := by decide +kernel
theorem dX7_isInYard_15 : decode cX7_isInYard 15 = .ok (.goto 4, 3) := by decide +kernel
theorem dX7_isInYard_18 : decode cX7_isInYard 18 = .ok (.iconst 0, 1) := by decide +kernel
theorem dX7_isInYard_19 : decode cX7_isInYard 19 = .ok (.ireturn, 1) := by decide +kernel
set_option maxRecDepth 100000 in
set_option maxHeartbeats 4000000 in
theorem C_X7_isInYard (l : Launch) (E : gE) (x : gX) {v1 : Int32} {M : gM} {r : Bool} {M' : gM} (hf : f_X7_isInYard v1 M = some (r, M')) : gM0 l E yX7_isInYard (.code yX7_isInYard cX7_isInYard 2 (some .boolean)) (gR 1 22) M x [.ref (E.2.1 150), .int v1] (some (.int (gb r))) M' := by
  refine gMet (by decide +kernel) (Nat.le_of_ble_eq_true rfl) ?_
  intro p e s m args below meth c H locs ls Q hC hl hI kr kv
  replace hC : gC p s m args c cX7_isInYard 2 RX7 E := hC
  replace hl : lv_has ls 2 [(0, .ref (E.2.1 150)), (1, .int v1)] := hl
  have hx := hC.1
  have hb := hC.2.1
  unfold f_X7_isInYard at hf
  refine lv_aload_n hx hb dX7_isInYard_0 rfl (lv_at hl 0 rfl) ?_
  refine lv_iconst (v := 0) hx hb dX7_isInYard_1 (by decide) ?_
  obtain ⟨M1, eM1, hf⟩ := glet hf
  refine pt_X7_X7_thrown hC hI dX7_isInYard_2 (fun H locs hI => ?_)
  replace hI := g_mem eM1 hI
  refine lv_aload_n hx hb dX7_isInYard_5 rfl (lv_at hl 0 rfl) ?_
  refine lv_iload_n hx hb dX7_isInYard_6 rfl (lv_at hl 1 rfl) ?_
  obtain ⟨r2, hr3, hf⟩ := gbind hf
  have hr3 := C_X7_placeOf l E x  hr3
  refine g_callVi (rest := []) hC hI hr3 Y_X7_placeOf V_X7_placeOf w1470 (rcv_X7 hC hI) ⟨rfl, rfl⟩ ⟨Nat.le_of_ble_eq_true rfl, Nat.le_of_ble_eq_true rfl⟩ rfl hl.1 rfl (Nat.le_of_ble_eq_true rfl) dX7_isInYard_7 ⟨Nat.le_of_ble_eq_true rfl, Nat.le_of_ble_eq_true rfl⟩ (fun H locs hI => ?_)
  refine lv_iconst (v := (-1)) hx hb dX7_isInYard_10 (by decide) ?_
  refine lv_icmp_eq (tgt := 18) hx hb dX7_isInYard_11 rfl (fun h4 => ?_) (fun h4 => ?_)
  · replace hf := gif h4 hf
    refine lv_iconst (v := 0) hx hb dX7_isInYard_18 (by decide) ?_
    exact kr _ _ _ _ _ _ (grwb0 hf) hI ⟨.boolean, rfl, rfl⟩ dX7_isInYard_19
  · replace hf := gifn h4 hf
    refine lv_iconst (v := 1) hx hb dX7_isInYard_14 (by decide) ?_
    refine lv_goto (tgt := 19) hx hb dX7_isInYard_15 rfl ?_
    exact kr _ _ _ _ _ _ (grwb1 hf) hI ⟨.boolean, rfl, rfl⟩ dX7_isInYard_19
theorem dX7_containerNumber_0 : decode cX7_containerNumber 0 = .ok (.aload_n 0, 1) := by decide +kernel
theorem dX7_containerNumber_1 : decode cX7_containerNumber 1 = .ok (.iload_n 3, 1) := by decide +kernel
theorem dX7_containerNumber_2 : decode cX7_containerNumber 2 = .ok (.invokevirtual 164, 3) := by decide +kernel
theorem dX7_containerNumber_5 : decode cX7_containerNumber 5 = .ok (.istore 4, 2) := by decide +kernel
theorem dX7_containerNumber_7 : decode cX7_containerNumber 7 = .ok (.aload_n 0, 1) := by decide +kernel
theorem dX7_containerNumber_8 : decode cX7_containerNumber 8 = .ok (.iload_n 3, 1) := by decide +kernel
theorem dX7_containerNumber_9 : decode cX7_containerNumber 9 = .ok (.invokevirtual 116, 3) := by decide +kernel
theorem dX7_containerNumber_12 : decode cX7_containerNumber 12 = .ok (.istore 5, 2) := by decide +kernel
theorem dX7_containerNumber_14 : decode cX7_containerNumber 14 = .ok (.iload 4, 2) := by decide +kernel
theorem dX7_containerNumber_16 : decode cX7_containerNumber 16 = .ok (.iconst (-1), 1) := by decide +kernel
theorem dX7_containerNumber_17 : decode cX7_containerNumber 17 = .ok (.if_icmp .ne 15, 3) := by decide +kernel
theorem dX7_containerNumber_20 : decode cX7_containerNumber 20 = .ok (.iload 5, 2) := by decide +kernel
theorem dX7_containerNumber_22 : decode cX7_containerNumber 22 = .ok (.iconst (-1), 1) := by decide +kernel
theorem dX7_containerNumber_23 : decode cX7_containerNumber 23 = .ok (.if_icmp .ne 9, 3) := by decide +kernel
theorem dX7_containerNumber_26 : decode cX7_containerNumber 26 = .ok (.aload_n 0, 1) := by decide +kernel
theorem dX7_containerNumber_27 : decode cX7_containerNumber 27 = .ok (.iconst 1, 1) := by decide +kernel
theorem dX7_containerNumber_28 : decode cX7_containerNumber 28 = .ok (.invokevirtual 67, 3) := by decide +kernel
theorem dX7_containerNumber_31 : decode cX7_containerNumber 31 = .ok (.ireturn, 1) := by decide +kernel
theorem dX7_containerNumber_32 : decode cX7_containerNumber 32 = .ok (.aload_n 0, 1) := by decide +kernel
theorem dX7_containerNumber_33 : decode cX7_containerNumber 33 = .ok (.iload 4, 2) := by decide +kernel
theorem dX7_containerNumber_35 : decode cX7_containerNumber 35 = .ok (.iconst (-1), 1) := by decide +kernel
theorem dX7_containerNumber_36 : decode cX7_containerNumber 36 = .ok (.if_icmp .eq 15, 3) := by decide +kernel
theorem dX7_containerNumber_39 : decode cX7_containerNumber 39 = .ok (.aload_n 0, 1) := by decide +kernel
theorem dX7_containerNumber_40 : decode cX7_containerNumber 40 = .ok (.getfield 7, 3) := by decide +kernel
theorem dX7_containerNumber_43 : decode cX7_containerNumber 43 = .ok (.iload_n 1, 1) := by decide +kernel
theorem dX7_containerNumber_44 : decode cX7_containerNumber 44 = .ok (.iload 4, 2) := by decide +kernel
theorem dX7_containerNumber_46 : decode cX7_containerNumber 46 = .ok (.iadd, 1) := by decide +kernel
theorem dX7_containerNumber_47 : decode cX7_containerNumber 47 = .ok (.iaload, 1) := by decide +kernel
theorem dX7_containerNumber_48 : decode cX7_containerNumber 48 = .ok (.goto 12, 3) := by decide +kernel
theorem dX7_containerNumber_51 : decode cX7_containerNumber 51 = .ok (.aload_n 0, 1) := by decide +kernel
theorem dX7_containerNumber_52 : decode cX7_containerNumber 52 = .ok (.getfield 7, 3) := by decide +kernel
theorem dX7_containerNumber_55 : decode cX7_containerNumber 55 = .ok (.iload_n 2, 1) := by decide +kernel
theorem dX7_containerNumber_56 : decode cX7_containerNumber 56 = .ok (.iload 5, 2) := by decide +kernel
theorem dX7_containerNumber_58 : decode cX7_containerNumber 58 = .ok (.iadd, 1) := by decide +kernel
theorem dX7_containerNumber_59 : decode cX7_containerNumber 59 = .ok (.iaload, 1) := by decide +kernel
theorem dX7_containerNumber_60 : decode cX7_containerNumber 60 = .ok (.invokevirtual 75, 3) := by decide +kernel
theorem dX7_containerNumber_63 : decode cX7_containerNumber 63 = .ok (.ireturn, 1) := by decide +kernel
set_option maxRecDepth 100000 in
set_option maxHeartbeats 4000000 in
theorem C_X7_containerNumber (l : Launch) (E : gE) (x : gX) {v1 v2 v3 : Int32} {M : gM} {r : Int32} {M' : gM} (hf : f_X7_containerNumber v1 v2 v3 M = some (r, M')) : gM0 l E yX7_containerNumber (.code yX7_containerNumber cX7_containerNumber 6 (some .int)) (gR 2 43) M x [.ref (E.2.1 150), .int v1, .int v2, .int v3] (some (.int r)) M' := by
  refine gMet (by decide +kernel) (Nat.le_of_ble_eq_true rfl) ?_
  intro p e s m args below meth c H locs ls Q hC hl hI kr kv
  replace hC : gC p s m args c cX7_containerNumber 6 RX7 E := hC
  replace hl : lv_has ls 6 [(0, .ref (E.2.1 150)), (1, .int v1), (2, .int v2), (3, .int v3)] := hl
  have hx := hC.1
  have hb := hC.2.1
  unfold f_X7_containerNumber at hf
  refine lv_aload_n hx hb dX7_containerNumber_0 rfl (lv_at hl 0 rfl) ?_
  refine lv_iload_n hx hb dX7_containerNumber_1 rfl (lv_at hl 3 rfl) ?_
  obtain ⟨r1, hr2, hf⟩ := gbind hf
  have hr2 := C_X7_cellOf l E x  hr2
  refine g_callVi (rest := []) hC hI hr2 Y_X7_cellOf V_X7_cellOf w1615 (rcv_X7 hC hI) ⟨rfl, rfl⟩ ⟨Nat.le_of_ble_eq_true rfl, Nat.le_of_ble_eq_true rfl⟩ rfl hl.1 rfl (Nat.le_of_ble_eq_true rfl) dX7_containerNumber_2 ⟨Nat.le_of_ble_eq_true rfl, Nat.le_of_ble_eq_true rfl⟩ (fun H locs hI => ?_)
  refine lv_istore (lv' := [(4, .int r1), (0, .ref (E.2.1 150)), (1, .int v1), (2, .int v2), (3, .int v3)]) hx hb dX7_containerNumber_5 hl (by decide) rfl (fun ls hl => ?_)
  refine lv_aload_n hx hb dX7_containerNumber_7 rfl (lv_at hl 1 rfl) ?_
  refine lv_iload_n hx hb dX7_containerNumber_8 rfl (lv_at hl 4 rfl) ?_
  obtain ⟨r3, hr4, hf⟩ := gbind hf
  have hr4 := C_X7_placeOf l E x  hr4
  refine g_callVi (rest := []) hC hI hr4 Y_X7_placeOf V_X7_placeOf w1470 (rcv_X7 hC hI) ⟨rfl, rfl⟩ ⟨Nat.le_of_ble_eq_true rfl, Nat.le_of_ble_eq_true rfl⟩ rfl hl.1 rfl (Nat.le_of_ble_eq_true rfl) dX7_containerNumber_9 ⟨Nat.le_of_ble_eq_true rfl, Nat.le_of_ble_eq_true rfl⟩ (fun H locs hI => ?_)
  refine lv_istore (lv' := [(5, .int r3), (4, .int r1), (0, .ref (E.2.1 150)), (1, .int v1), (2, .int v2), (3, .int v3)]) hx hb dX7_containerNumber_12 hl (by decide) rfl (fun ls hl => ?_)
  refine lv_iload hx hb dX7_containerNumber_14 (lv_at hl 1 rfl) ?_
  refine lv_iconst (v := (-1)) hx hb dX7_containerNumber_16 (by decide) ?_
  refine lv_icmp_ne (tgt := 32) hx hb dX7_containerNumber_17 rfl (fun h5 => ?_) (fun h5 => ?_)
  · replace hf := gifn h5 hf
    refine lv_aload_n hx hb dX7_containerNumber_32 rfl (lv_at hl 2 rfl) ?_
    refine lv_iload hx hb dX7_containerNumber_33 (lv_at hl 1 rfl) ?_
    refine lv_iconst (v := (-1)) hx hb dX7_containerNumber_35 (by decide) ?_
    refine lv_icmp_eq (tgt := 51) hx hb dX7_containerNumber_36 rfl (fun h6 => ?_) (fun h6 => ?_)
    · replace hf := gif h6 hf
      refine lv_aload_n hx hb dX7_containerNumber_51 rfl (lv_at hl 2 rfl) ?_
      refine gt_X7_X7_g hC hI dX7_containerNumber_52 ?_
      refine lv_iload_n hx hb dX7_containerNumber_55 rfl (lv_at hl 4 rfl) ?_
      refine lv_iload hx hb dX7_containerNumber_56 (lv_at hl 0 rfl) ?_
      refine lv_iadd hx hb dX7_containerNumber_58 ?_
      obtain ⟨h7, hf⟩ := gifN hf
      refine g_iald hC hI (k := (v2 + r3).toNatClampNeg) gIA_151 h7 rfl dX7_containerNumber_59 ?_
      obtain ⟨r8, hr9, hf⟩ := gbind hf
      have hr9 := C_X7_done l E x  hr9
      refine g_callVi (rest := []) hC hI hr9 Y_X7_done V_X7_done w1409 (rcv_X7 hC hI) ⟨rfl, rfl⟩ ⟨Nat.le_of_ble_eq_true rfl, Nat.le_of_ble_eq_true rfl⟩ rfl hl.1 rfl (Nat.le_of_ble_eq_true rfl) dX7_containerNumber_60 ⟨Nat.le_of_ble_eq_true rfl, Nat.le_of_ble_eq_true rfl⟩ (fun H locs hI => ?_)
      exact kr _ _ _ _ _ _ (grw hf) hI ⟨.int, rfl, rfl⟩ dX7_containerNumber_63
    · replace hf := gifn h6 hf
      refine lv_aload_n hx hb dX7_containerNumber_39 rfl (lv_at hl 2 rfl) ?_
      refine gt_X7_X7_g hC hI dX7_containerNumber_40 ?_
      refine lv_iload_n hx hb dX7_containerNumber_43 rfl (lv_at hl 3 rfl) ?_
      refine lv_iload hx hb dX7_containerNumber_44 (lv_at hl 1 rfl) ?_
      refine lv_iadd hx hb dX7_containerNumber_46 ?_
      obtain ⟨h10, hf⟩ := gifN hf
      refine g_iald hC hI (k := (v1 + r1).toNatClampNeg) gIA_151 h10 rfl dX7_containerNumber_47 ?_
      refine lv_goto (tgt := 60) hx hb dX7_containerNumber_48 rfl ?_
      obtain ⟨r11, hr12, hf⟩ := gbind hf
      have hr12 := C_X7_done l E x  hr12
      refine g_callVi (rest := []) hC hI hr12 Y_X7_done V_X7_done w1409 (rcv_X7 hC hI) ⟨rfl, rfl⟩ ⟨Nat.le_of_ble_eq_true rfl, Nat.le_of_ble_eq_true rfl⟩ rfl hl.1 rfl (Nat.le_of_ble_eq_true rfl) dX7_containerNumber_60 ⟨Nat.le_of_ble_eq_true rfl, Nat.le_of_ble_eq_true rfl⟩ (fun H locs hI => ?_)
      exact kr _ _ _ _ _ _ (grw hf) hI ⟨.int, rfl, rfl⟩ dX7_containerNumber_63
  · replace hf := gif h5 hf
    refine lv_iload hx hb dX7_containerNumber_20 (lv_at hl 0 rfl) ?_
    refine lv_iconst (v := (-1)) hx hb dX7_containerNumber_22 (by decide) ?_
    refine lv_icmp_ne (tgt := 32) hx hb dX7_containerNumber_23 rfl (fun h13 => ?_) (fun h13 => ?_)
    · replace hf := gifn h13 hf
      refine lv_aload_n hx hb dX7_containerNumber_32 rfl (lv_at hl 2 rfl) ?_
      refine lv_iload hx hb dX7_containerNumber_33 (lv_at hl 1 rfl) ?_
      refine lv_iconst (v := (-1)) hx hb dX7_containerNumber_35 (by decide) ?_
      refine lv_icmp_eq (tgt := 51) hx hb dX7_containerNumber_36 rfl (fun h14 => ?_) (fun h14 => ?_)
      · replace hf := gif h14 hf
        refine lv_aload_n hx hb dX7_containerNumber_51 rfl (lv_at hl 2 rfl) ?_
        refine gt_X7_X7_g hC hI dX7_containerNumber_52 ?_
        refine lv_iload_n hx hb dX7_containerNumber_55 rfl (lv_at hl 4 rfl) ?_
        refine lv_iload hx hb dX7_containerNumber_56 (lv_at hl 0 rfl) ?_
        refine lv_iadd hx hb dX7_containerNumber_58 ?_
        obtain ⟨h15, hf⟩ := gifN hf
        refine g_iald hC hI (k := (v2 + r3).toNatClampNeg) gIA_151 h15 rfl dX7_containerNumber_59 ?_
        obtain ⟨r16, hr17, hf⟩ := gbind hf
        have hr17 := C_X7_done l E x  hr17
        refine g_callVi (rest := []) hC hI hr17 Y_X7_done V_X7_done w1409 (rcv_X7 hC hI) ⟨rfl, rfl⟩ ⟨Nat.le_of_ble_eq_true rfl, Nat.le_of_ble_eq_true rfl⟩ rfl hl.1 rfl (Nat.le_of_ble_eq_true rfl) dX7_containerNumber_60 ⟨Nat.le_of_ble_eq_true rfl, Nat.le_of_ble_eq_true rfl⟩ (fun H locs hI => ?_)
        exact kr _ _ _ _ _ _ (grw hf) hI ⟨.int, rfl, rfl⟩ dX7_containerNumber_63
      · replace hf := gifn h14 hf
        refine lv_aload_n hx hb dX7_containerNumber_39 rfl (lv_at hl 2 rfl) ?_
        refine gt_X7_X7_g hC hI dX7_containerNumber_40 ?_
        refine lv_iload_n hx hb dX7_containerNumber_43 rfl (lv_at hl 3 rfl) ?_
        refine lv_iload hx hb dX7_containerNumber_44 (lv_at hl 1 rfl) ?_
        refine lv_iadd hx hb dX7_containerNumber_46 ?_
        obtain ⟨h18, hf⟩ := gifN hf
        refine g_iald hC hI (k := (v1 + r1).toNatClampNeg) gIA_151 h18 rfl dX7_containerNumber_47 ?_
        refine lv_goto (tgt := 60) hx hb dX7_containerNumber_48 rfl ?_
        obtain ⟨r19, hr20, hf⟩ := gbind hf
        have hr20 := C_X7_done l E x  hr20
        refine g_callVi (rest := []) hC hI hr20 Y_X7_done V_X7_done w1409 (rcv_X7 hC hI) ⟨rfl, rfl⟩ ⟨Nat.le_of_ble_eq_true rfl, Nat.le_of_ble_eq_true rfl⟩ rfl hl.1 rfl (Nat.le_of_ble_eq_true rfl) dX7_containerNumber_60 ⟨Nat.le_of_ble_eq_true rfl, Nat.le_of_ble_eq_true rfl⟩ (fun H locs hI => ?_)
        exact kr _ _ _ _ _ _ (grw hf) hI ⟨.int, rfl, rfl⟩ dX7_containerNumber_63
    · replace hf := gif h13 hf
      refine lv_aload_n hx hb dX7_containerNumber_26 rfl (lv_at hl 2 rfl) ?_
      refine lv_iconst (v := 1) hx hb dX7_containerNumber_27 (by decide) ?_
      obtain ⟨r21, hr22, hf⟩ := gbind hf
      have hr22 := C_X7_fails l E x  hr22
      refine g_callVi (rest := []) hC hI hr22 Y_X7_fails V_X7_fails w1401 (rcv_X7 hC hI) ⟨rfl, rfl⟩ ⟨Nat.le_of_ble_eq_true rfl, Nat.le_of_ble_eq_true rfl⟩ rfl hl.1 rfl (Nat.le_of_ble_eq_true rfl) dX7_containerNumber_28 ⟨Nat.le_of_ble_eq_true rfl, Nat.le_of_ble_eq_true rfl⟩ (fun H locs hI => ?_)
      exact kr _ _ _ _ _ _ (grw hf) hI ⟨.int, rfl, rfl⟩ dX7_containerNumber_31
theorem dX7_weightOf_0 : decode cX7_weightOf 0 = .ok (.aload_n 0, 1) := by decide +kernel
theorem dX7_weightOf_1 : decode cX7_weightOf 1 = .ok (.bipush 94, 2) := by decide +kernel
theorem dX7_weightOf_3 : decode cX7_weightOf 3 = .ok (.sipush 229, 3) := by decide +kernel
theorem dX7_weightOf_6 : decode cX7_weightOf 6 = .ok (.iload_n 1, 1) := by decide +kernel
theorem dX7_weightOf_7 : decode cX7_weightOf 7 = .ok (.invokevirtual 167, 3) := by decide +kernel
theorem dX7_weightOf_10 : decode cX7_weightOf 10 = .ok (.ireturn, 1) := by decide +kernel
set_option maxRecDepth 100000 in
set_option maxHeartbeats 4000000 in
theorem C_X7_weightOf (l : Launch) (E : gE) (x : gX) {v1 : Int32} {M : gM} {r : Int32} {M' : gM} (hf : f_X7_weightOf v1 M = some (r, M')) : gM0 l E yX7_weightOf (.code yX7_weightOf cX7_weightOf 2 (some .int)) (gR 3 68) M x [.ref (E.2.1 150), .int v1] (some (.int r)) M' := by
  refine gMet (by decide +kernel) (Nat.le_of_ble_eq_true rfl) ?_
  intro p e s m args below meth c H locs ls Q hC hl hI kr kv
  replace hC : gC p s m args c cX7_weightOf 2 RX7 E := hC
  replace hl : lv_has ls 2 [(0, .ref (E.2.1 150)), (1, .int v1)] := hl
  have hx := hC.1
  have hb := hC.2.1
  unfold f_X7_weightOf at hf
  refine lv_aload_n hx hb dX7_weightOf_0 rfl (lv_at hl 0 rfl) ?_
  refine lv_bipush (v := 94) hx hb dX7_weightOf_1 (by decide) ?_
  refine lv_sipush (v := 229) hx hb dX7_weightOf_3 (by decide) ?_
  refine lv_iload_n hx hb dX7_weightOf_6 rfl (lv_at hl 1 rfl) ?_
  obtain ⟨r1, hr2, hf⟩ := gbind hf
  have hr2 := C_X7_containerNumber l E x  hr2
  refine g_callVi (rest := []) hC hI hr2 Y_X7_containerNumber V_X7_containerNumber w1627 (rcv_X7 hC hI) ⟨rfl, rfl⟩ ⟨Nat.le_of_ble_eq_true rfl, Nat.le_of_ble_eq_true rfl⟩ rfl hl.1 rfl (Nat.le_of_ble_eq_true rfl) dX7_weightOf_7 ⟨Nat.le_of_ble_eq_true rfl, Nat.le_of_ble_eq_true rfl⟩ (fun H locs hI => ?_)
  exact kr _ _ _ _ _ _ (grw hf) hI ⟨.int, rfl, rfl⟩ dX7_weightOf_10
theorem dX7_keyOf_0 : decode cX7_keyOf 0 = .ok (.aload_n 0, 1) := by decide +kernel
theorem dX7_keyOf_1 : decode cX7_keyOf 1 = .ok (.sipush 154, 3) := by decide +kernel
theorem dX7_keyOf_4 : decode cX7_keyOf 4 = .ok (.sipush 244, 3) := by decide +kernel
theorem dX7_keyOf_7 : decode cX7_keyOf 7 = .ok (.iload_n 1, 1) := by decide +kernel
theorem dX7_keyOf_8 : decode cX7_keyOf 8 = .ok (.invokevirtual 167, 3) := by decide +kernel
theorem dX7_keyOf_11 : decode cX7_keyOf 11 = .ok (.ireturn, 1) := by decide +kernel
set_option maxRecDepth 100000 in
set_option maxHeartbeats 4000000 in
theorem C_X7_keyOf (l : Launch) (E : gE) (x : gX) {v1 : Int32} {M : gM} {r : Int32} {M' : gM} (hf : f_X7_keyOf v1 M = some (r, M')) : gM0 l E yX7_keyOf (.code yX7_keyOf cX7_keyOf 2 (some .int)) (gR 3 68) M x [.ref (E.2.1 150), .int v1] (some (.int r)) M' := by
  refine gMet (by decide +kernel) (Nat.le_of_ble_eq_true rfl) ?_
  intro p e s m args below meth c H locs ls Q hC hl hI kr kv
  replace hC : gC p s m args c cX7_keyOf 2 RX7 E := hC
  replace hl : lv_has ls 2 [(0, .ref (E.2.1 150)), (1, .int v1)] := hl
  have hx := hC.1
  have hb := hC.2.1
  unfold f_X7_keyOf at hf
  refine lv_aload_n hx hb dX7_keyOf_0 rfl (lv_at hl 0 rfl) ?_
  refine lv_sipush (v := 154) hx hb dX7_keyOf_1 (by decide) ?_
  refine lv_sipush (v := 244) hx hb dX7_keyOf_4 (by decide) ?_
  refine lv_iload_n hx hb dX7_keyOf_7 rfl (lv_at hl 1 rfl) ?_
  obtain ⟨r1, hr2, hf⟩ := gbind hf
  have hr2 := C_X7_containerNumber l E x  hr2
  refine g_callVi (rest := []) hC hI hr2 Y_X7_containerNumber V_X7_containerNumber w1627 (rcv_X7 hC hI) ⟨rfl, rfl⟩ ⟨Nat.le_of_ble_eq_true rfl, Nat.le_of_ble_eq_true rfl⟩ rfl hl.1 rfl (Nat.le_of_ble_eq_true rfl) dX7_keyOf_8 ⟨Nat.le_of_ble_eq_true rfl, Nat.le_of_ble_eq_true rfl⟩ (fun H locs hI => ?_)
  exact kr _ _ _ _ _ _ (grw hf) hI ⟨.int, rfl, rfl⟩ dX7_keyOf_11
theorem dX7_answerOf_0 : decode cX7_answerOf 0 = .ok (.aload_n 0, 1) := by decide +kernel
theorem dX7_answerOf_1 : decode cX7_answerOf 1 = .ok (.iload_n 1, 1) := by decide +kernel
theorem dX7_answerOf_2 : decode cX7_answerOf 2 = .ok (.invokevirtual 170, 3) := by decide +kernel
theorem dX7_answerOf_5 : decode cX7_answerOf 5 = .ok (.istore_n 2, 1) := by decide +kernel
theorem dX7_answerOf_6 : decode cX7_answerOf 6 = .ok (.aload_n 0, 1) := by decide +kernel
theorem dX7_answerOf_7 : decode cX7_answerOf 7 = .ok (.iload_n 1, 1) := by decide +kernel
theorem dX7_answerOf_8 : decode cX7_answerOf 8 = .ok (.invokevirtual 173, 3) := by decide +kernel
theorem dX7_answerOf_11 : decode cX7_answerOf 11 = .ok (.istore_n 3, 1) := by decide +kernel
theorem dX7_answerOf_12 : decode cX7_answerOf 12 = .ok (.aload_n 0, 1) := by decide +kernel
theorem dX7_answerOf_13 : decode cX7_answerOf 13 = .ok (.getfield 42, 3) := by decide +kernel
theorem dX7_answerOf_16 : decode cX7_answerOf 16 = .ok (.ifCond .le 7, 3) := by decide +kernel
theorem dX7_answerOf_19 : decode cX7_answerOf 19 = .ok (.iconst 0, 1) := by decide +kernel
theorem dX7_answerOf_20 : decode cX7_answerOf 20 = .ok (.goto 8, 3) := by decide +kernel
theorem dX7_answerOf_23 : decode cX7_answerOf 23 = .ok (.iload_n 3, 1) := by decide +kernel
theorem dX7_answerOf_24 : decode cX7_answerOf 24 = .ok (.iload_n 2, 1) := by decide +kernel
theorem dX7_answerOf_25 : decode cX7_answerOf 25 = .ok (.invokestatic 103, 3) := by decide +kernel
theorem dX7_answerOf_28 : decode cX7_answerOf 28 = .ok (.ireturn, 1) := by decide +kernel
set_option maxRecDepth 100000 in
set_option maxHeartbeats 4000000 in
theorem C_X7_answerOf (l : Launch) (E : gE) (x : gX) {v1 : Int32} {M : gM} {r : Int32} {M' : gM} (hf : f_X7_answerOf v1 M = some (r, M')) : gM0 l E yX7_answerOf (.code yX7_answerOf cX7_answerOf 4 (some .int)) (gR 4 89) M x [.ref (E.2.1 150), .int v1] (some (.int r)) M' := by
  refine gMet (by decide +kernel) (Nat.le_of_ble_eq_true rfl) ?_
  intro p e s m args below meth c H locs ls Q hC hl hI kr kv
  replace hC : gC p s m args c cX7_answerOf 4 RX7 E := hC
  replace hl : lv_has ls 4 [(0, .ref (E.2.1 150)), (1, .int v1)] := hl
  have hx := hC.1
  have hb := hC.2.1
  unfold f_X7_answerOf at hf
  refine lv_aload_n hx hb dX7_answerOf_0 rfl (lv_at hl 0 rfl) ?_
  refine lv_iload_n hx hb dX7_answerOf_1 rfl (lv_at hl 1 rfl) ?_
  obtain ⟨r1, hr2, hf⟩ := gbind hf
  have hr2 := C_X7_keyOf l E x  hr2
  refine g_callVi (rest := []) hC hI hr2 Y_X7_keyOf V_X7_keyOf w1639 (rcv_X7 hC hI) ⟨rfl, rfl⟩ ⟨Nat.le_of_ble_eq_true rfl, Nat.le_of_ble_eq_true rfl⟩ rfl hl.1 rfl (Nat.le_of_ble_eq_true rfl) dX7_answerOf_2 ⟨Nat.le_of_ble_eq_true rfl, Nat.le_of_ble_eq_true rfl⟩ (fun H locs hI => ?_)
  refine lv_istore_n (lv' := [(2, .int r1.1), (0, .ref (E.2.1 150)), (1, .int v1)]) hx hb dX7_answerOf_5 rfl hl (by decide) rfl (fun ls hl => ?_)
  refine lv_aload_n hx hb dX7_answerOf_6 rfl (lv_at hl 1 rfl) ?_
  refine lv_iload_n hx hb dX7_answerOf_7 rfl (lv_at hl 2 rfl) ?_
  obtain ⟨r3, hr4, hf⟩ := gbind hf
  have hr4 := C_X7_weightOf l E x  hr4
  refine g_callVi (rest := []) hC hI hr4 Y_X7_weightOf V_X7_weightOf w1640 (rcv_X7 hC hI) ⟨rfl, rfl⟩ ⟨Nat.le_of_ble_eq_true rfl, Nat.le_of_ble_eq_true rfl⟩ rfl hl.1 rfl (Nat.le_of_ble_eq_true rfl) dX7_answerOf_8 ⟨Nat.le_of_ble_eq_true rfl, Nat.le_of_ble_eq_true rfl⟩ (fun H locs hI => ?_)
  refine lv_istore_n (lv' := [(3, .int r3.1), (2, .int r1.1), (0, .ref (E.2.1 150)), (1, .int v1)]) hx hb dX7_answerOf_11 rfl hl (by decide) rfl (fun ls hl => ?_)
  refine lv_aload_n hx hb dX7_answerOf_12 rfl (lv_at hl 2 rfl) ?_
  refine gt_X7_X7_thrown hC hI dX7_answerOf_13 ?_
  refine lv_if_le (tgt := 23) hx hb dX7_answerOf_16 rfl (fun h5 => ?_) (fun h5 => ?_)
  · replace hf := gif h5 hf
    refine lv_iload_n hx hb dX7_answerOf_23 rfl (lv_at hl 0 rfl) ?_
    refine lv_iload_n hx hb dX7_answerOf_24 rfl (lv_at hl 1 rfl) ?_
    obtain ⟨r6, hr7, hf⟩ := gbind hf
    have hr7 := C_X7_answer l E x  hr7
    refine g_callSi (rest := []) hC hI hr7 Y_X7_answer S_X7_answer w1447 ⟨rfl, rfl⟩ ⟨Nat.le_of_ble_eq_true rfl, Nat.le_of_ble_eq_true rfl⟩ rfl hl.1 rfl (Nat.le_of_ble_eq_true rfl) dX7_answerOf_25 ⟨Nat.le_of_ble_eq_true rfl, Nat.le_of_ble_eq_true rfl⟩ (fun H locs hI => ?_)
    exact kr _ _ _ _ _ _ (grw hf) hI ⟨.int, rfl, rfl⟩ dX7_answerOf_28
  · replace hf := gifn h5 hf
    refine lv_iconst (v := 0) hx hb dX7_answerOf_19 (by decide) ?_
    refine lv_goto (tgt := 28) hx hb dX7_answerOf_20 rfl ?_
    exact kr _ _ _ _ _ _ (grw hf) hI ⟨.int, rfl, rfl⟩ dX7_answerOf_28
theorem dX7_berthOf_0 : decode cX7_berthOf 0 = .ok (.aload_n 0, 1) := by decide +kernel
theorem dX7_berthOf_1 : decode cX7_berthOf 1 = .ok (.iload_n 1, 1) := by decide +kernel
theorem dX7_berthOf_2 : decode cX7_berthOf 2 = .ok (.invokevirtual 164, 3) := by decide +kernel
theorem dX7_berthOf_5 : decode cX7_berthOf 5 = .ok (.istore_n 2, 1) := by decide +kernel
theorem dX7_berthOf_6 : decode cX7_berthOf 6 = .ok (.iload_n 2, 1) := by decide +kernel
theorem dX7_berthOf_7 : decode cX7_berthOf 7 = .ok (.iconst (-1), 1) := by decide +kernel
theorem dX7_berthOf_8 : decode cX7_berthOf 8 = .ok (.if_icmp .ne 11, 3) := by decide +kernel
theorem dX7_berthOf_11 : decode cX7_berthOf 11 = .ok (.aload_n 0, 1) := by decide +kernel
theorem dX7_berthOf_12 : decode cX7_berthOf 12 = .ok (.iconst 1, 1) := by decide +kernel
theorem dX7_berthOf_13 : decode cX7_berthOf 13 = .ok (.invokevirtual 67, 3) := by decide +kernel
theorem dX7_berthOf_16 : decode cX7_berthOf 16 = .ok (.goto 11, 3) := by decide +kernel
theorem dX7_berthOf_19 : decode cX7_berthOf 19 = .ok (.aload_n 0, 1) := by decide +kernel
theorem dX7_berthOf_20 : decode cX7_berthOf 20 = .ok (.iload_n 2, 1) := by decide +kernel
theorem dX7_berthOf_21 : decode cX7_berthOf 21 = .ok (.bipush 20, 2) := by decide +kernel
theorem dX7_berthOf_23 : decode cX7_berthOf 23 = .ok (.idiv, 1) := by decide +kernel
theorem dX7_berthOf_24 : decode cX7_berthOf 24 = .ok (.invokevirtual 75, 3) := by decide +kernel
theorem dX7_berthOf_27 : decode cX7_berthOf 27 = .ok (.ireturn, 1) := by decide +kernel
set_option maxRecDepth 100000 in
set_option maxHeartbeats 4000000 in
theorem C_X7_berthOf (l : Launch) (E : gE) (x : gX) {v1 : Int32} {M : gM} {r : Int32} {M' : gM} (hf : f_X7_berthOf v1 M = some (r, M')) : gM0 l E yX7_berthOf (.code yX7_berthOf cX7_berthOf 3 (some .int)) (gR 2 43) M x [.ref (E.2.1 150), .int v1] (some (.int r)) M' := by
  refine gMet (by decide +kernel) (Nat.le_of_ble_eq_true rfl) ?_
  intro p e s m args below meth c H locs ls Q hC hl hI kr kv
  replace hC : gC p s m args c cX7_berthOf 3 RX7 E := hC
  replace hl : lv_has ls 3 [(0, .ref (E.2.1 150)), (1, .int v1)] := hl
  have hx := hC.1
  have hb := hC.2.1
  unfold f_X7_berthOf at hf
  refine lv_aload_n hx hb dX7_berthOf_0 rfl (lv_at hl 0 rfl) ?_
  refine lv_iload_n hx hb dX7_berthOf_1 rfl (lv_at hl 1 rfl) ?_
  obtain ⟨r1, hr2, hf⟩ := gbind hf
  have hr2 := C_X7_cellOf l E x  hr2
  refine g_callVi (rest := []) hC hI hr2 Y_X7_cellOf V_X7_cellOf w1615 (rcv_X7 hC hI) ⟨rfl, rfl⟩ ⟨Nat.le_of_ble_eq_true rfl, Nat.le_of_ble_eq_true rfl⟩ rfl hl.1 rfl (Nat.le_of_ble_eq_true rfl) dX7_berthOf_2 ⟨Nat.le_of_ble_eq_true rfl, Nat.le_of_ble_eq_true rfl⟩ (fun H locs hI => ?_)
  refine lv_istore_n (lv' := [(2, .int r1), (0, .ref (E.2.1 150)), (1, .int v1)]) hx hb dX7_berthOf_5 rfl hl (by decide) rfl (fun ls hl => ?_)
  refine lv_iload_n hx hb dX7_berthOf_6 rfl (lv_at hl 0 rfl) ?_
  refine lv_iconst (v := (-1)) hx hb dX7_berthOf_7 (by decide) ?_
  refine lv_icmp_ne (tgt := 19) hx hb dX7_berthOf_8 rfl (fun h3 => ?_) (fun h3 => ?_)
  · replace hf := gifn h3 hf
    refine lv_aload_n hx hb dX7_berthOf_19 rfl (lv_at hl 1 rfl) ?_
    refine lv_iload_n hx hb dX7_berthOf_20 rfl (lv_at hl 0 rfl) ?_
    refine lv_bipush (v := 20) hx hb dX7_berthOf_21 (by decide) ?_
    refine lv_idiv hx hb dX7_berthOf_23 (by decide) ?_
    obtain ⟨r4, hr5, hf⟩ := gbind hf
    have hr5 := C_X7_done l E x  hr5
    refine g_callVi (rest := []) hC hI hr5 Y_X7_done V_X7_done w1409 (rcv_X7 hC hI) ⟨rfl, rfl⟩ ⟨Nat.le_of_ble_eq_true rfl, Nat.le_of_ble_eq_true rfl⟩ rfl hl.1 rfl (Nat.le_of_ble_eq_true rfl) dX7_berthOf_24 ⟨Nat.le_of_ble_eq_true rfl, Nat.le_of_ble_eq_true rfl⟩ (fun H locs hI => ?_)
    exact kr _ _ _ _ _ _ (grw hf) hI ⟨.int, rfl, rfl⟩ dX7_berthOf_27
  · replace hf := gif h3 hf
    refine lv_aload_n hx hb dX7_berthOf_11 rfl (lv_at hl 1 rfl) ?_
    refine lv_iconst (v := 1) hx hb dX7_berthOf_12 (by decide) ?_
    obtain ⟨r6, hr7, hf⟩ := gbind hf
    have hr7 := C_X7_fails l E x  hr7
    refine g_callVi (rest := []) hC hI hr7 Y_X7_fails V_X7_fails w1401 (rcv_X7 hC hI) ⟨rfl, rfl⟩ ⟨Nat.le_of_ble_eq_true rfl, Nat.le_of_ble_eq_true rfl⟩ rfl hl.1 rfl (Nat.le_of_ble_eq_true rfl) dX7_berthOf_13 ⟨Nat.le_of_ble_eq_true rfl, Nat.le_of_ble_eq_true rfl⟩ (fun H locs hI => ?_)
    refine lv_goto (tgt := 27) hx hb dX7_berthOf_16 rfl ?_
    exact kr _ _ _ _ _ _ (grw hf) hI ⟨.int, rfl, rfl⟩ dX7_berthOf_27
theorem dX7_stackOf_0 : decode cX7_stackOf 0 = .ok (.aload_n 0, 1) := by decide +kernel
theorem dX7_stackOf_1 : decode cX7_stackOf 1 = .ok (.iload_n 1, 1) := by decide +kernel
theorem dX7_stackOf_2 : decode cX7_stackOf 2 = .ok (.invokevirtual 164, 3) := by decide +kernel
theorem dX7_stackOf_5 : decode cX7_stackOf 5 = .ok (.istore_n 2, 1) := by decide +kernel
theorem dX7_stackOf_6 : decode cX7_stackOf 6 = .ok (.iload_n 2, 1) := by decide +kernel
theorem dX7_stackOf_7 : decode cX7_stackOf 7 = .ok (.iconst (-1), 1) := by decide +kernel
theorem dX7_stackOf_8 : decode cX7_stackOf 8 = .ok (.if_icmp .ne 11, 3) := by decide +kernel
theorem dX7_stackOf_11 : decode cX7_stackOf 11 = .ok (.aload_n 0, 1) := by decide +kernel
theorem dX7_stackOf_12 : decode cX7_stackOf 12 = .ok (.iconst 1, 1) := by decide +kernel
theorem dX7_stackOf_13 : decode cX7_stackOf 13 = .ok (.invokevirtual 67, 3) := by decide +kernel
theorem dX7_stackOf_16 : decode cX7_stackOf 16 = .ok (.goto 13, 3) := by decide +kernel
theorem dX7_stackOf_19 : decode cX7_stackOf 19 = .ok (.aload_n 0, 1) := by decide +kernel
theorem dX7_stackOf_20 : decode cX7_stackOf 20 = .ok (.iload_n 2, 1) := by decide +kernel
theorem dX7_stackOf_21 : decode cX7_stackOf 21 = .ok (.bipush 20, 2) := by decide +kernel
theorem dX7_stackOf_23 : decode cX7_stackOf 23 = .ok (.irem, 1) := by decide +kernel
theorem dX7_stackOf_24 : decode cX7_stackOf 24 = .ok (.iconst 5, 1) := by decide +kernel
theorem dX7_stackOf_25 : decode cX7_stackOf 25 = .ok (.idiv, 1) := by decide +kernel
theorem dX7_stackOf_26 : decode cX7_stackOf 26 = .ok (.invokevirtual 75, 3) := by decide +kernel
theorem dX7_stackOf_29 : decode cX7_stackOf 29 = .ok (.ireturn, 1) := by decide +kernel
set_option maxRecDepth 100000 in
set_option maxHeartbeats 4000000 in
theorem C_X7_stackOf (l : Launch) (E : gE) (x : gX) {v1 : Int32} {M : gM} {r : Int32} {M' : gM} (hf : f_X7_stackOf v1 M = some (r, M')) : gM0 l E yX7_stackOf (.code yX7_stackOf cX7_stackOf 3 (some .int)) (gR 2 43) M x [.ref (E.2.1 150), .int v1] (some (.int r)) M' := by
  refine gMet (by decide +kernel) (Nat.le_of_ble_eq_true rfl) ?_
  intro p e s m args below meth c H locs ls Q hC hl hI kr kv
  replace hC : gC p s m args c cX7_stackOf 3 RX7 E := hC
  replace hl : lv_has ls 3 [(0, .ref (E.2.1 150)), (1, .int v1)] := hl
  have hx := hC.1
  have hb := hC.2.1
  unfold f_X7_stackOf at hf
  refine lv_aload_n hx hb dX7_stackOf_0 rfl (lv_at hl 0 rfl) ?_
  refine lv_iload_n hx hb dX7_stackOf_1 rfl (lv_at hl 1 rfl) ?_
  obtain ⟨r1, hr2, hf⟩ := gbind hf
  have hr2 := C_X7_cellOf l E x  hr2
  refine g_callVi (rest := []) hC hI hr2 Y_X7_cellOf V_X7_cellOf w1615 (rcv_X7 hC hI) ⟨rfl, rfl⟩ ⟨Nat.le_of_ble_eq_true rfl, Nat.le_of_ble_eq_true rfl⟩ rfl hl.1 rfl (Nat.le_of_ble_eq_true rfl) dX7_stackOf_2 ⟨Nat.le_of_ble_eq_true rfl, Nat.le_of_ble_eq_true rfl⟩ (fun H locs hI => ?_)
  refine lv_istore_n (lv' := [(2, .int r1), (0, .ref (E.2.1 150)), (1, .int v1)]) hx hb dX7_stackOf_5 rfl hl (by decide) rfl (fun ls hl => ?_)
  refine lv_iload_n hx hb dX7_stackOf_6 rfl (lv_at hl 0 rfl) ?_
  refine lv_iconst (v := (-1)) hx hb dX7_stackOf_7 (by decide) ?_
  refine lv_icmp_ne (tgt := 19) hx hb dX7_stackOf_8 rfl (fun h3 => ?_) (fun h3 => ?_)
  · replace hf := gifn h3 hf
    refine lv_aload_n hx hb dX7_stackOf_19 rfl (lv_at hl 1 rfl) ?_
    refine lv_iload_n hx hb dX7_stackOf_20 rfl (lv_at hl 0 rfl) ?_
    refine lv_bipush (v := 20) hx hb dX7_stackOf_21 (by decide) ?_
    refine lv_irem hx hb dX7_stackOf_23 (by decide) ?_
    refine lv_iconst (v := 5) hx hb dX7_stackOf_24 (by decide) ?_
    refine lv_idiv hx hb dX7_stackOf_25 (by decide) ?_
    obtain ⟨r4, hr5, hf⟩ := gbind hf
    have hr5 := C_X7_done l E x  hr5
    refine g_callVi (rest := []) hC hI hr5 Y_X7_done V_X7_done w1409 (rcv_X7 hC hI) ⟨rfl, rfl⟩ ⟨Nat.le_of_ble_eq_true rfl, Nat.le_of_ble_eq_true rfl⟩ rfl hl.1 rfl (Nat.le_of_ble_eq_true rfl) dX7_stackOf_26 ⟨Nat.le_of_ble_eq_true rfl, Nat.le_of_ble_eq_true rfl⟩ (fun H locs hI => ?_)
    exact kr _ _ _ _ _ _ (grw hf) hI ⟨.int, rfl, rfl⟩ dX7_stackOf_29
  · replace hf := gif h3 hf
    refine lv_aload_n hx hb dX7_stackOf_11 rfl (lv_at hl 1 rfl) ?_
    refine lv_iconst (v := 1) hx hb dX7_stackOf_12 (by decide) ?_
    obtain ⟨r6, hr7, hf⟩ := gbind hf
    have hr7 := C_X7_fails l E x  hr7
    refine g_callVi (rest := []) hC hI hr7 Y_X7_fails V_X7_fails w1401 (rcv_X7 hC hI) ⟨rfl, rfl⟩ ⟨Nat.le_of_ble_eq_true rfl, Nat.le_of_ble_eq_true rfl⟩ rfl hl.1 rfl (Nat.le_of_ble_eq_true rfl) dX7_stackOf_13 ⟨Nat.le_of_ble_eq_true rfl, Nat.le_of_ble_eq_true rfl⟩ (fun H locs hI => ?_)
    refine lv_goto (tgt := 29) hx hb dX7_stackOf_16 rfl ?_
    exact kr _ _ _ _ _ _ (grw hf) hI ⟨.int, rfl, rfl⟩ dX7_stackOf_29
theorem dX7_levelOf_0 : decode cX7_levelOf 0 = .ok (.aload_n 0, 1) := by decide +kernel
theorem dX7_levelOf_1 : decode cX7_levelOf 1 = .ok (.iload_n 1, 1) := by decide +kernel
theorem dX7_levelOf_2 : decode cX7_levelOf 2 = .ok (.invokevirtual 164, 3) := by decide +kernel
theorem dX7_levelOf_5 : decode cX7_levelOf 5 = .ok (.istore_n 2, 1) := by decide +kernel
theorem dX7_levelOf_6 : decode cX7_levelOf 6 = .ok (.iload_n 2, 1) := by decide +kernel
theorem dX7_levelOf_7 : decode cX7_levelOf 7 = .ok (.iconst (-1), 1) := by decide +kernel
theorem dX7_levelOf_8 : decode cX7_levelOf 8 = .ok (.if_icmp .ne 11, 3) := by decide +kernel
theorem dX7_levelOf_11 : decode cX7_levelOf 11 = .ok (.aload_n 0, 1) := by decide +kernel
theorem dX7_levelOf_12 : decode cX7_levelOf 12 = .ok (.iconst 1, 1) := by decide +kernel
theorem dX7_levelOf_13 : decode cX7_levelOf 13 = .ok (.invokevirtual 67, 3) := by decide +kernel
theorem dX7_levelOf_16 : decode cX7_levelOf 16 = .ok (.goto 10, 3) := by decide +kernel
theorem dX7_levelOf_19 : decode cX7_levelOf 19 = .ok (.aload_n 0, 1) := by decide +kernel
theorem dX7_levelOf_20 : decode cX7_levelOf 20 = .ok (.iload_n 2, 1) := by decide +kernel
theorem dX7_levelOf_21 : decode cX7_levelOf 21 = .ok (.iconst 5, 1) := by decide +kernel
theorem dX7_levelOf_22 : decode cX7_levelOf 22 = .ok (.irem, 1) := by decide +kernel
theorem dX7_levelOf_23 : decode cX7_levelOf 23 = .ok (.invokevirtual 75, 3) := by decide +kernel
theorem dX7_levelOf_26 : decode cX7_levelOf 26 = .ok (.ireturn, 1) := by decide +kernel
set_option maxRecDepth 100000 in
set_option maxHeartbeats 4000000 in
theorem C_X7_levelOf (l : Launch) (E : gE) (x : gX) {v1 : Int32} {M : gM} {r : Int32} {M' : gM} (hf : f_X7_levelOf v1 M = some (r, M')) : gM0 l E yX7_levelOf (.code yX7_levelOf cX7_levelOf 3 (some .int)) (gR 2 43) M x [.ref (E.2.1 150), .int v1] (some (.int r)) M' := by
  refine gMet (by decide +kernel) (Nat.le_of_ble_eq_true rfl) ?_
  intro p e s m args below meth c H locs ls Q hC hl hI kr kv
  replace hC : gC p s m args c cX7_levelOf 3 RX7 E := hC
  replace hl : lv_has ls 3 [(0, .ref (E.2.1 150)), (1, .int v1)] := hl
  have hx := hC.1
  have hb := hC.2.1
  unfold f_X7_levelOf at hf
  refine lv_aload_n hx hb dX7_levelOf_0 rfl (lv_at hl 0 rfl) ?_
  refine lv_iload_n hx hb dX7_levelOf_1 rfl (lv_at hl 1 rfl) ?_
  obtain ⟨r1, hr2, hf⟩ := gbind hf
  have hr2 := C_X7_cellOf l E x  hr2
  refine g_callVi (rest := []) hC hI hr2 Y_X7_cellOf V_X7_cellOf w1615 (rcv_X7 hC hI) ⟨rfl, rfl⟩ ⟨Nat.le_of_ble_eq_true rfl, Nat.le_of_ble_eq_true rfl⟩ rfl hl.1 rfl (Nat.le_of_ble_eq_true rfl) dX7_levelOf_2 ⟨Nat.le_of_ble_eq_true rfl, Nat.le_of_ble_eq_true rfl⟩ (fun H locs hI => ?_)
  refine lv_istore_n (lv' := [(2, .int r1), (0, .ref (E.2.1 150)), (1, .int v1)]) hx hb dX7_levelOf_5 rfl hl (by decide) rfl (fun ls hl => ?_)
  refine lv_iload_n hx hb dX7_levelOf_6 rfl (lv_at hl 0 rfl) ?_
  refine lv_iconst (v := (-1)) hx hb dX7_levelOf_7 (by decide) ?_
  refine lv_icmp_ne (tgt := 19) hx hb dX7_levelOf_8 rfl (fun h3 => ?_) (fun h3 => ?_)
  · replace hf := gifn h3 hf
    refine lv_aload_n hx hb dX7_levelOf_19 rfl (lv_at hl 1 rfl) ?_
    refine lv_iload_n hx hb dX7_levelOf_20 rfl (lv_at hl 0 rfl) ?_
    refine lv_iconst (v := 5) hx hb dX7_levelOf_21 (by decide) ?_
    refine lv_irem hx hb dX7_levelOf_22 (by decide) ?_
    obtain ⟨r4, hr5, hf⟩ := gbind hf
    have hr5 := C_X7_done l E x  hr5
    refine g_callVi (rest := []) hC hI hr5 Y_X7_done V_X7_done w1409 (rcv_X7 hC hI) ⟨rfl, rfl⟩ ⟨Nat.le_of_ble_eq_true rfl, Nat.le_of_ble_eq_true rfl⟩ rfl hl.1 rfl (Nat.le_of_ble_eq_true rfl) dX7_levelOf_23 ⟨Nat.le_of_ble_eq_true rfl, Nat.le_of_ble_eq_true rfl⟩ (fun H locs hI => ?_)
    exact kr _ _ _ _ _ _ (grw hf) hI ⟨.int, rfl, rfl⟩ dX7_levelOf_26
  · replace hf := gif h3 hf
    refine lv_aload_n hx hb dX7_levelOf_11 rfl (lv_at hl 1 rfl) ?_
    refine lv_iconst (v := 1) hx hb dX7_levelOf_12 (by decide) ?_
    obtain ⟨r6, hr7, hf⟩ := gbind hf
    have hr7 := C_X7_fails l E x  hr7
    refine g_callVi (rest := []) hC hI hr7 Y_X7_fails V_X7_fails w1401 (rcv_X7 hC hI) ⟨rfl, rfl⟩ ⟨Nat.le_of_ble_eq_true rfl, Nat.le_of_ble_eq_true rfl⟩ rfl hl.1 rfl (Nat.le_of_ble_eq_true rfl) dX7_levelOf_13 ⟨Nat.le_of_ble_eq_true rfl, Nat.le_of_ble_eq_true rfl⟩ (fun H locs hI => ?_)
    refine lv_goto (tgt := 26) hx hb dX7_levelOf_16 rfl ?_
    exact kr _ _ _ _ _ _ (grw hf) hI ⟨.int, rfl, rfl⟩ dX7_levelOf_26
theorem dX7_above_0 : decode cX7_above 0 = .ok (.aload_n 0, 1) := by decide +kernel
theorem dX7_above_1 : decode cX7_above 1 = .ok (.getfield 7, 3) := by decide +kernel
theorem dX7_above_4 : decode cX7_above 4 = .ok (.bipush 22, 2) := by decide +kernel
theorem dX7_above_6 : decode cX7_above 6 = .ok (.iload_n 1, 1) := by decide +kernel
theorem dX7_above_7 : decode cX7_above 7 = .ok (.iconst 5, 1) := by decide +kernel
theorem dX7_above_8 : decode cX7_above 8 = .ok (.idiv, 1) := by decide +kernel
theorem dX7_above_9 : decode cX7_above 9 = .ok (.iadd, 1) := by decide +kernel
theorem dX7_above_10 : decode cX7_above 10 = .ok (.iaload, 1) := by decide +kernel
theorem dX7_above_11 : decode cX7_above 11 = .ok (.iconst 1, 1) := by decide +kernel
theorem dX7_above_12 : decode cX7_above 12 = .ok (.isub, 1) := by decide +kernel
theorem dX7_above_13 : decode cX7_above 13 = .ok (.iload_n 1, 1) := by decide +kernel
theorem dX7_above_14 : decode cX7_above 14 = .ok (.iconst 5, 1) := by decide +kernel
theorem dX7_above_15 : decode cX7_above 15 = .ok (.irem, 1) := by decide +kernel
theorem dX7_above_16 : decode cX7_above 16 = .ok (.isub, 1) := by decide +kernel
theorem dX7_above_17 : decode cX7_above 17 = .ok (.ireturn, 1) := by decide +kernel
set_option maxRecDepth 100000 in
set_option maxHeartbeats 4000000 in
theorem C_X7_above (l : Launch) (E : gE) (x : gX) {v1 : Int32} {M : gM} {r : Int32} (hf : f_X7_above v1 M = some r) : gM0 l E yX7_above (.code yX7_above cX7_above 2 (some .int)) (gR 0 0) M x [.ref (E.2.1 150), .int v1] (some (.int r)) M := by
  refine gMet (by decide +kernel) (Nat.le_of_ble_eq_true rfl) ?_
  intro p e s m args below meth c H locs ls Q hC hl hI kr kv
  replace hC : gC p s m args c cX7_above 2 RX7 E := hC
  replace hl : lv_has ls 2 [(0, .ref (E.2.1 150)), (1, .int v1)] := hl
  have hx := hC.1
  have hb := hC.2.1
  unfold f_X7_above at hf
  refine lv_aload_n hx hb dX7_above_0 rfl (lv_at hl 0 rfl) ?_
  refine gt_X7_X7_g hC hI dX7_above_1 ?_
  refine lv_bipush (v := 22) hx hb dX7_above_4 (by decide) ?_
  refine lv_iload_n hx hb dX7_above_6 rfl (lv_at hl 1 rfl) ?_
  refine lv_iconst (v := 5) hx hb dX7_above_7 (by decide) ?_
  refine lv_idiv hx hb dX7_above_8 (by decide) ?_
  refine lv_iadd hx hb dX7_above_9 ?_
  obtain ⟨h1, hf⟩ := gifN hf
  refine g_iald hC hI (k := (22 + (v1 / 5)).toNatClampNeg) gIA_151 h1 rfl dX7_above_10 ?_
  refine lv_iconst (v := 1) hx hb dX7_above_11 (by decide) ?_
  refine lv_isub hx hb dX7_above_12 ?_
  refine lv_iload_n hx hb dX7_above_13 rfl (lv_at hl 1 rfl) ?_
  refine lv_iconst (v := 5) hx hb dX7_above_14 (by decide) ?_
  refine lv_irem hx hb dX7_above_15 (by decide) ?_
  refine lv_isub hx hb dX7_above_16 ?_
  exact kr _ _ _ _ _ _ (gri hf) hI ⟨.int, rfl, rfl⟩ dX7_above_17
theorem dX7_movesToReach_0 : decode cX7_movesToReach 0 = .ok (.aload_n 0, 1) := by decide +kernel
theorem dX7_movesToReach_1 : decode cX7_movesToReach 1 = .ok (.iload_n 1, 1) := by decide +kernel
theorem dX7_movesToReach_2 : decode cX7_movesToReach 2 = .ok (.invokevirtual 164, 3) := by decide +kernel
theorem dX7_movesToReach_5 : decode cX7_movesToReach 5 = .ok (.istore_n 2, 1) := by decide +kernel
theorem dX7_movesToReach_6 : decode cX7_movesToReach 6 = .ok (.iload_n 2, 1) := by decide +kernel
theorem dX7_movesToReach_7 : decode cX7_movesToReach 7 = .ok (.iconst (-1), 1) := by decide +kernel
theorem dX7_movesToReach_8 : decode cX7_movesToReach 8 = .ok (.if_icmp .ne 11, 3) := by decide +kernel
theorem dX7_movesToReach_11 : decode cX7_movesToReach 11 = .ok (.aload_n 0, 1) := by decide +kernel
theorem dX7_movesToReach_12 : decode cX7_movesToReach 12 = .ok (.iconst 1, 1) := by decide +kernel
theorem dX7_movesToReach_13 : decode cX7_movesToReach 13 = .ok (.invokevirtual 67, 3) := by decide +kernel
theorem dX7_movesToReach_16 : decode cX7_movesToReach 16 = .ok (.goto 12, 3) := by decide +kernel
theorem dX7_movesToReach_19 : decode cX7_movesToReach 19 = .ok (.aload_n 0, 1) := by decide +kernel
theorem dX7_movesToReach_20 : decode cX7_movesToReach 20 = .ok (.aload_n 0, 1) := by decide +kernel
theorem dX7_movesToReach_21 : decode cX7_movesToReach 21 = .ok (.iload_n 2, 1) := by decide +kernel
theorem dX7_movesToReach_22 : decode cX7_movesToReach 22 = .ok (.invokevirtual 176, 3) := by decide +kernel
theorem dX7_movesToReach_25 : decode cX7_movesToReach 25 = .ok (.invokevirtual 75, 3) := by decide +kernel
theorem dX7_movesToReach_28 : decode cX7_movesToReach 28 = .ok (.ireturn, 1) := by decide +kernel
set_option maxRecDepth 100000 in
set_option maxHeartbeats 4000000 in
theorem C_X7_movesToReach (l : Launch) (E : gE) (x : gX) {v1 : Int32} {M : gM} {r : Int32} {M' : gM} (hf : f_X7_movesToReach v1 M = some (r, M')) : gM0 l E yX7_movesToReach (.code yX7_movesToReach cX7_movesToReach 3 (some .int)) (gR 2 43) M x [.ref (E.2.1 150), .int v1] (some (.int r)) M' := by
  refine gMet (by decide +kernel) (Nat.le_of_ble_eq_true rfl) ?_
  intro p e s m args below meth c H locs ls Q hC hl hI kr kv
  replace hC : gC p s m args c cX7_movesToReach 3 RX7 E := hC
  replace hl : lv_has ls 3 [(0, .ref (E.2.1 150)), (1, .int v1)] := hl
  have hx := hC.1
  have hb := hC.2.1
  unfold f_X7_movesToReach at hf
  refine lv_aload_n hx hb dX7_movesToReach_0 rfl (lv_at hl 0 rfl) ?_
  refine lv_iload_n hx hb dX7_movesToReach_1 rfl (lv_at hl 1 rfl) ?_
  obtain ⟨r1, hr2, hf⟩ := gbind hf
  have hr2 := C_X7_cellOf l E x  hr2
  refine g_callVi (rest := []) hC hI hr2 Y_X7_cellOf V_X7_cellOf w1615 (rcv_X7 hC hI) ⟨rfl, rfl⟩ ⟨Nat.le_of_ble_eq_true rfl, Nat.le_of_ble_eq_true rfl⟩ rfl hl.1 rfl (Nat.le_of_ble_eq_true rfl) dX7_movesToReach_2 ⟨Nat.le_of_ble_eq_true rfl, Nat.le_of_ble_eq_true rfl⟩ (fun H locs hI => ?_)
  refine lv_istore_n (lv' := [(2, .int r1), (0, .ref (E.2.1 150)), (1, .int v1)]) hx hb dX7_movesToReach_5 rfl hl (by decide) rfl (fun ls hl => ?_)
  refine lv_iload_n hx hb dX7_movesToReach_6 rfl (lv_at hl 0 rfl) ?_
  refine lv_iconst (v := (-1)) hx hb dX7_movesToReach_7 (by decide) ?_
  refine lv_icmp_ne (tgt := 19) hx hb dX7_movesToReach_8 rfl (fun h3 => ?_) (fun h3 => ?_)
  · replace hf := gifn h3 hf
    refine lv_aload_n hx hb dX7_movesToReach_19 rfl (lv_at hl 1 rfl) ?_
    refine lv_aload_n hx hb dX7_movesToReach_20 rfl (lv_at hl 1 rfl) ?_
    refine lv_iload_n hx hb dX7_movesToReach_21 rfl (lv_at hl 0 rfl) ?_
    obtain ⟨r4, hr5, hf⟩ := gbind hf
    have hr5 := C_X7_above l E x  hr5
    refine g_callVi (rest := [.ref (E.2.1 150)]) hC hI hr5 Y_X7_above V_X7_above w1657 (rcv_X7 hC hI) ⟨rfl, rfl⟩ ⟨Nat.le_of_ble_eq_true rfl, Nat.le_of_ble_eq_true rfl⟩ rfl hl.1 rfl (Nat.le_of_ble_eq_true rfl) dX7_movesToReach_22 ⟨Nat.le_of_ble_eq_true rfl, Nat.le_of_ble_eq_true rfl⟩ (fun H locs hI => ?_)
    obtain ⟨r6, hr7, hf⟩ := gbind hf
    have hr7 := C_X7_done l E x  hr7
    refine g_callVi (rest := []) hC hI hr7 Y_X7_done V_X7_done w1409 (rcv_X7 hC hI) ⟨rfl, rfl⟩ ⟨Nat.le_of_ble_eq_true rfl, Nat.le_of_ble_eq_true rfl⟩ rfl hl.1 rfl (Nat.le_of_ble_eq_true rfl) dX7_movesToReach_25 ⟨Nat.le_of_ble_eq_true rfl, Nat.le_of_ble_eq_true rfl⟩ (fun H locs hI => ?_)
    exact kr _ _ _ _ _ _ (grw hf) hI ⟨.int, rfl, rfl⟩ dX7_movesToReach_28
  · replace hf := gif h3 hf
    refine lv_aload_n hx hb dX7_movesToReach_11 rfl (lv_at hl 1 rfl) ?_
    refine lv_iconst (v := 1) hx hb dX7_movesToReach_12 (by decide) ?_
    obtain ⟨r8, hr9, hf⟩ := gbind hf
    have hr9 := C_X7_fails l E x  hr9
    refine g_callVi (rest := []) hC hI hr9 Y_X7_fails V_X7_fails w1401 (rcv_X7 hC hI) ⟨rfl, rfl⟩ ⟨Nat.le_of_ble_eq_true rfl, Nat.le_of_ble_eq_true rfl⟩ rfl hl.1 rfl (Nat.le_of_ble_eq_true rfl) dX7_movesToReach_13 ⟨Nat.le_of_ble_eq_true rfl, Nat.le_of_ble_eq_true rfl⟩ (fun H locs hI => ?_)
    refine lv_goto (tgt := 28) hx hb dX7_movesToReach_16 rfl ?_
    exact kr _ _ _ _ _ _ (grw hf) hI ⟨.int, rfl, rfl⟩ dX7_movesToReach_28
theorem dX7_movesToReachByCopy_0 : decode cX7_movesToReachByCopy 0 = .ok (.aload_n 0, 1) := by decide +kernel
theorem dX7_movesToReachByCopy_1 : decode cX7_movesToReachByCopy 1 = .ok (.iload_n 1, 1) := by decide +kernel
theorem dX7_movesToReachByCopy_2 : decode cX7_movesToReachByCopy 2 = .ok (.invokevirtual 179, 3) := by decide +kernel
theorem dX7_movesToReachByCopy_5 : decode cX7_movesToReachByCopy 5 = .ok (.ireturn, 1) := by decide +kernel
set_option maxRecDepth 100000 in
set_option maxHeartbeats 4000000 in
theorem C_X7_movesToReachByCopy (l : Launch) (E : gE) (x : gX) {v1 : Int32} {M : gM} {r : Int32} {M' : gM} (hf : f_X7_movesToReachByCopy v1 M = some (r, M')) : gM0 l E yX7_movesToReachByCopy (.code yX7_movesToReachByCopy cX7_movesToReachByCopy 2 (some .int)) (gR 3 65) M x [.ref (E.2.1 150), .int v1] (some (.int r)) M' := by
  refine gMet (by decide +kernel) (Nat.le_of_ble_eq_true rfl) ?_
  intro p e s m args below meth c H locs ls Q hC hl hI kr kv
  replace hC : gC p s m args c cX7_movesToReachByCopy 2 RX7 E := hC
  replace hl : lv_has ls 2 [(0, .ref (E.2.1 150)), (1, .int v1)] := hl
  have hx := hC.1
  have hb := hC.2.1
  unfold f_X7_movesToReachByCopy at hf
  refine lv_aload_n hx hb dX7_movesToReachByCopy_0 rfl (lv_at hl 0 rfl) ?_
  refine lv_iload_n hx hb dX7_movesToReachByCopy_1 rfl (lv_at hl 1 rfl) ?_
  obtain ⟨r1, hr2, hf⟩ := gbind hf
  have hr2 := C_X7_movesToReach l E x  hr2
  refine g_callVi (rest := []) hC hI hr2 Y_X7_movesToReach V_X7_movesToReach w1665 (rcv_X7 hC hI) ⟨rfl, rfl⟩ ⟨Nat.le_of_ble_eq_true rfl, Nat.le_of_ble_eq_true rfl⟩ rfl hl.1 rfl (Nat.le_of_ble_eq_true rfl) dX7_movesToReachByCopy_2 ⟨Nat.le_of_ble_eq_true rfl, Nat.le_of_ble_eq_true rfl⟩ (fun H locs hI => ?_)
  exact kr _ _ _ _ _ _ (grw hf) hI ⟨.int, rfl, rfl⟩ dX7_movesToReachByCopy_5
theorem dX7_isHeavier_0 : decode cX7_isHeavier 0 = .ok (.aload_n 0, 1) := by decide +kernel
theorem dX7_isHeavier_1 : decode cX7_isHeavier 1 = .ok (.getfield 7, 3) := by decide +kernel
theorem dX7_isHeavier_4 : decode cX7_isHeavier 4 = .ok (.bipush 94, 2) := by decide +kernel
theorem dX7_isHeavier_6 : decode cX7_isHeavier 6 = .ok (.iload_n 1, 1) := by decide +kernel
theorem dX7_isHeavier_7 : decode cX7_isHeavier 7 = .ok (.iadd, 1) := by decide +kernel
theorem dX7_isHeavier_8 : decode cX7_isHeavier 8 = .ok (.iaload, 1) := by decide +kernel
theorem dX7_isHeavier_9 : decode cX7_isHeavier 9 = .ok (.aload_n 0, 1) := by decide +kernel
theorem dX7_isHeavier_10 : decode cX7_isHeavier 10 = .ok (.getfield 7, 3) := by decide +kernel
theorem dX7_isHeavier_13 : decode cX7_isHeavier 13 = .ok (.bipush 94, 2) := by decide +kernel
theorem dX7_isHeavier_15 : decode cX7_isHeavier 15 = .ok (.iload_n 2, 1) := by decide +kernel
theorem dX7_isHeavier_16 : decode cX7_isHeavier 16 = .ok (.iadd, 1) := by decide +kernel
theorem dX7_isHeavier_17 : decode cX7_isHeavier 17 = .ok (.iaload, 1) := by decide +kernel
theorem dX7_isHeavier_18 : decode cX7_isHeavier 18 = .ok (.isub, 1) := by decide +kernel
theorem dX7_isHeavier_19 : decode cX7_isHeavier 19 = .ok (.istore_n 3, 1) := by decide +kernel
theorem dX7_isHeavier_20 : decode cX7_isHeavier 20 = .ok (.iload_n 3, 1) := by decide +kernel
theorem dX7_isHeavier_21 : decode cX7_isHeavier 21 = .ok (.ifCond .gt 28, 3) := by decide +kernel
theorem dX7_isHeavier_24 : decode cX7_isHeavier 24 = .ok (.iload_n 3, 1) := by decide +kernel
theorem dX7_isHeavier_25 : decode cX7_isHeavier 25 = .ok (.ifCond .ne 28, 3) := by decide +kernel
theorem dX7_isHeavier_28 : decode cX7_isHeavier 28 = .ok (.aload_n 0, 1) := by decide +kernel
theorem dX7_isHeavier_29 : decode cX7_isHeavier 29 = .ok (.getfield 7, 3) := by decide +kernel
theorem dX7_isHeavier_32 : decode cX7_isHeavier 32 = .ok (.bipush 34, 2) := by decide +kernel
theorem dX7_isHeavier_34 : decode cX7_isHeavier 34 = .ok (.iload_n 1, 1) := by decide +kernel
theorem dX7_isHeavier_35 : decode cX7_isHeavier 35 = .ok (.iadd, 1) := by decide +kernel
theorem dX7_isHeavier_36 : decode cX7_isHeavier 36 = .ok (.iaload, 1) := by decide +kernel
theorem dX7_isHeavier_37 : decode cX7_isHeavier 37 = .ok (.aload_n 0, 1) := by decide +kernel
theorem dX7_isHeavier_38 : decode cX7_isHeavier 38 = .ok (.getfield 7, 3) := by decide +kernel
theorem dX7_isHeavier_41 : decode cX7_isHeavier 41 = .ok (.bipush 34, 2) := by decide +kernel
theorem dX7_isHeavier_43 : decode cX7_isHeavier 43 = .ok (.iload_n 2, 1) := by decide +kernel
theorem dX7_isHeavier_44 : decode cX7_isHeavier 44 = .ok (.iadd, 1) := by decide +kernel
theorem dX7_isHeavier_45 : decode cX7_isHeavier 45 = .ok (.iaload, 1) := by decide +kernel
theorem dX7_isHeavier_46 : decode cX7_isHeavier 46 = .ok (.if_icmp .ge 7, 3) := by decide +kernel
theorem dX7_isHeavier_49 : decode cX7_isHeavier 49 = .ok (.iconst 1, 1) := by decide +kernel
theorem dX7_isHeavier_50 : decode cX7_isHeavier 50 = .ok (.goto 4, 3) := by decide +kernel
theorem dX7_isHeavier_53 : decode cX7_isHeavier 53 = .ok (.iconst 0, 1) := by decide +kernel
theorem dX7_isHeavier_54 : decode cX7_isHeavier 54 = .ok (.ireturn, 1) := by decide +kernel
set_option maxRecDepth 100000 in
set_option maxHeartbeats 4000000 in
theorem C_X7_isHeavier (l : Launch) (E : gE) (x : gX) {v1 v2 : Int32} {M : gM} {r : Bool} (hf : f_X7_isHeavier v1 v2 M = some r) : gM0 l E yX7_isHeavier (.code yX7_isHeavier cX7_isHeavier 4 (some .boolean)) (gR 0 0) M x [.ref (E.2.1 150), .int v1, .int v2] (some (.int (gb r))) M := by
  refine gMet (by decide +kernel) (Nat.le_of_ble_eq_true rfl) ?_
  intro p e s m args below meth c H locs ls Q hC hl hI kr kv
  replace hC : gC p s m args c cX7_isHeavier 4 RX7 E := hC
  replace hl : lv_has ls 4 [(0, .ref (E.2.1 150)), (1, .int v1), (2, .int v2)] := hl
  have hx := hC.1
  have hb := hC.2.1
  unfold f_X7_isHeavier at hf
  refine lv_aload_n hx hb dX7_isHeavier_0 rfl (lv_at hl 0 rfl) ?_
  refine gt_X7_X7_g hC hI dX7_isHeavier_1 ?_
  refine lv_bipush (v := 94) hx hb dX7_isHeavier_4 (by decide) ?_
  refine lv_iload_n hx hb dX7_isHeavier_6 rfl (lv_at hl 1 rfl) ?_
  refine lv_iadd hx hb dX7_isHeavier_7 ?_
  obtain ⟨h1, hf⟩ := gifN hf
  refine g_iald hC hI (k := (94 + v1).toNatClampNeg) gIA_151 h1 rfl dX7_isHeavier_8 ?_
  refine lv_aload_n hx hb dX7_isHeavier_9 rfl (lv_at hl 0 rfl) ?_
  refine gt_X7_X7_g hC hI dX7_isHeavier_10 ?_
  refine lv_bipush (v := 94) hx hb dX7_isHeavier_13 (by decide) ?_
  refine lv_iload_n hx hb dX7_isHeavier_15 rfl (lv_at hl 2 rfl) ?_
  refine lv_iadd hx hb dX7_isHeavier_16 ?_
  obtain ⟨h2, hf⟩ := gifN hf
  refine g_iald hC hI (k := (94 + v2).toNatClampNeg) gIA_151 h2 rfl dX7_isHeavier_17 ?_
  refine lv_isub hx hb dX7_isHeavier_18 ?_
  obtain ⟨z3, ez3, hf⟩ := glet hf
  refine g_top ez3 ?_
  refine lv_istore_n (lv' := [(3, .int z3), (0, .ref (E.2.1 150)), (1, .int v1), (2, .int v2)]) hx hb dX7_isHeavier_19 rfl hl (by decide) rfl (fun ls hl => ?_)
  refine lv_iload_n hx hb dX7_isHeavier_20 rfl (lv_at hl 0 rfl) ?_
  refine lv_if_gt (tgt := 49) hx hb dX7_isHeavier_21 rfl (fun h4 => ?_) (fun h4 => ?_)
  · replace hf := gif h4 hf
    refine lv_iconst (v := 1) hx hb dX7_isHeavier_49 (by decide) ?_
    refine lv_goto (tgt := 54) hx hb dX7_isHeavier_50 rfl ?_
    exact kr _ _ _ _ _ _ (grb1 hf) hI ⟨.boolean, rfl, rfl⟩ dX7_isHeavier_54
  · replace hf := gifn h4 hf
    refine lv_iload_n hx hb dX7_isHeavier_24 rfl (lv_at hl 0 rfl) ?_
    refine lv_if_ne (tgt := 53) hx hb dX7_isHeavier_25 rfl (fun h5 => ?_) (fun h5 => ?_)
    · replace hf := gifn h5 hf
      refine lv_iconst (v := 0) hx hb dX7_isHeavier_53 (by decide) ?_
      exact kr _ _ _ _ _ _ (grb0 hf) hI ⟨.boolean, rfl, rfl⟩ dX7_isHeavier_54
    · replace hf := gif h5 hf
      refine lv_aload_n hx hb dX7_isHeavier_28 rfl (lv_at hl 1 rfl) ?_
      refine gt_X7_X7_g hC hI dX7_isHeavier_29 ?_
      refine lv_bipush (v := 34) hx hb dX7_isHeavier_32 (by decide) ?_
      refine lv_iload_n hx hb dX7_isHeavier_34 rfl (lv_at hl 2 rfl) ?_
      refine lv_iadd hx hb dX7_isHeavier_35 ?_
      obtain ⟨h6, hf⟩ := gifN hf
      refine g_iald hC hI (k := (34 + v1).toNatClampNeg) gIA_151 h6 rfl dX7_isHeavier_36 ?_
      refine lv_aload_n hx hb dX7_isHeavier_37 rfl (lv_at hl 1 rfl) ?_
      refine gt_X7_X7_g hC hI dX7_isHeavier_38 ?_
      refine lv_bipush (v := 34) hx hb dX7_isHeavier_41 (by decide) ?_
      refine lv_iload_n hx hb dX7_isHeavier_43 rfl (lv_at hl 3 rfl) ?_
      refine lv_iadd hx hb dX7_isHeavier_44 ?_
      obtain ⟨h7, hf⟩ := gifN hf
      refine g_iald hC hI (k := (34 + v2).toNatClampNeg) gIA_151 h7 rfl dX7_isHeavier_45 ?_
      refine lv_icmp_ge (tgt := 53) hx hb dX7_isHeavier_46 rfl (fun h8 => ?_) (fun h8 => ?_)
      · replace hf := gif h8 hf
        refine lv_iconst (v := 0) hx hb dX7_isHeavier_53 (by decide) ?_
        exact kr _ _ _ _ _ _ (grb0 hf) hI ⟨.boolean, rfl, rfl⟩ dX7_isHeavier_54
      · replace hf := gifn h8 hf
        refine lv_iconst (v := 1) hx hb dX7_isHeavier_49 (by decide) ?_
        refine lv_goto (tgt := 54) hx hb dX7_isHeavier_50 rfl ?_
        exact kr _ _ _ _ _ _ (grb1 hf) hI ⟨.boolean, rfl, rfl⟩ dX7_isHeavier_54
theorem dX7_heaviestAbove_0 : decode cX7_heaviestAbove 0 = .ok (.aload_n 0, 1) := by decide +kernel
theorem dX7_heaviestAbove_1 : decode cX7_heaviestAbove 1 = .ok (.iload_n 1, 1) := by decide +kernel
theorem dX7_heaviestAbove_2 : decode cX7_heaviestAbove 2 = .ok (.invokevirtual 164, 3) := by decide +kernel
theorem dX7_heaviestAbove_5 : decode cX7_heaviestAbove 5 = .ok (.istore_n 2, 1) := by decide +kernel
theorem dX7_heaviestAbove_6 : decode cX7_heaviestAbove 6 = .ok (.iload_n 2, 1) := by decide +kernel
theorem dX7_heaviestAbove_7 : decode cX7_heaviestAbove 7 = .ok (.iconst (-1), 1) := by decide +kernel
theorem dX7_heaviestAbove_8 : decode cX7_heaviestAbove 8 = .ok (.if_icmp .eq 11, 3) := by decide +kernel
theorem dX7_heaviestAbove_11 : decode cX7_heaviestAbove 11 = .ok (.aload_n 0, 1) := by decide +kernel
theorem dX7_heaviestAbove_12 : decode cX7_heaviestAbove 12 = .ok (.iload_n 2, 1) := by decide +kernel
theorem dX7_heaviestAbove_13 : decode cX7_heaviestAbove 13 = .ok (.invokevirtual 176, 3) := by decide +kernel
theorem dX7_heaviestAbove_16 : decode cX7_heaviestAbove 16 = .ok (.ifCond .ne 9, 3) := by decide +kernel
theorem dX7_heaviestAbove_19 : decode cX7_heaviestAbove 19 = .ok (.aload_n 0, 1) := by decide +kernel
theorem dX7_heaviestAbove_20 : decode cX7_heaviestAbove 20 = .ok (.iconst 1, 1) := by decide +kernel
theorem dX7_heaviestAbove_21 : decode cX7_heaviestAbove 21 = .ok (.invokevirtual 67, 3) := by decide +kernel
theorem dX7_heaviestAbove_24 : decode cX7_heaviestAbove 24 = .ok (.ireturn, 1) := by decide +kernel
theorem dX7_heaviestAbove_25 : decode cX7_heaviestAbove 25 = .ok (.iload_n 2, 1) := by decide +kernel
theorem dX7_heaviestAbove_26 : decode cX7_heaviestAbove 26 = .ok (.iconst 1, 1) := by decide +kernel
theorem dX7_heaviestAbove_27 : decode cX7_heaviestAbove 27 = .ok (.iadd, 1) := by decide +kernel
theorem dX7_heaviestAbove_28 : decode cX7_heaviestAbove 28 = .ok (.istore_n 3, 1) := by decide +kernel
theorem dX7_heaviestAbove_29 : decode cX7_heaviestAbove 29 = .ok (.iconst 2, 1) := by decide +kernel
theorem dX7_heaviestAbove_30 : decode cX7_heaviestAbove 30 = .ok (.istore 4, 2) := by decide +kernel
theorem dX7_heaviestAbove_32 : decode cX7_heaviestAbove 32 = .ok (.iload 4, 2) := by decide +kernel
theorem dX7_heaviestAbove_34 : decode cX7_heaviestAbove 34 = .ok (.aload_n 0, 1) := by decide +kernel
theorem dX7_heaviestAbove_35 : decode cX7_heaviestAbove 35 = .ok (.iload_n 2, 1) := by decide +kernel
theorem dX7_heaviestAbove_36 : decode cX7_heaviestAbove 36 = .ok (.invokevirtual 176, 3) := by decide +kernel
theorem dX7_heaviestAbove_39 : decode cX7_heaviestAbove 39 = .ok (.if_icmp .gt 30, 3) := by decide +kernel
theorem dX7_heaviestAbove_42 : decode cX7_heaviestAbove 42 = .ok (.aload_n 0, 1) := by decide +kernel
theorem dX7_heaviestAbove_43 : decode cX7_heaviestAbove 43 = .ok (.iload_n 2, 1) := by decide +kernel
theorem dX7_heaviestAbove_44 : decode cX7_heaviestAbove 44 = .ok (.iload 4, 2) := by decide +kernel
theorem dX7_heaviestAbove_46 : decode cX7_heaviestAbove 46 = .ok (.iadd, 1) := by decide +kernel
theorem dX7_heaviestAbove_47 : decode cX7_heaviestAbove 47 = .ok (.iload_n 3, 1) := by decide +kernel
theorem dX7_heaviestAbove_48 : decode cX7_heaviestAbove 48 = .ok (.invokevirtual 182, 3) := by decide +kernel
theorem dX7_heaviestAbove_51 : decode cX7_heaviestAbove 51 = .ok (.ifCond .eq 10, 3) := by decide +kernel
theorem dX7_heaviestAbove_54 : decode cX7_heaviestAbove 54 = .ok (.iload_n 2, 1) := by decide +kernel
theorem dX7_heaviestAbove_55 : decode cX7_heaviestAbove 55 = .ok (.iload 4, 2) := by decide +kernel
theorem dX7_heaviestAbove_57 : decode cX7_heaviestAbove 57 = .ok (.iadd, 1) := by decide +kernel
theorem dX7_heaviestAbove_58 : decode cX7_heaviestAbove 58 = .ok (.goto 4, 3) := by decide +kernel
theorem dX7_heaviestAbove_61 : decode cX7_heaviestAbove 61 = .ok (.iload_n 3, 1) := by decide +kernel
theorem dX7_heaviestAbove_62 : decode cX7_heaviestAbove 62 = .ok (.istore_n 3, 1) := by decide +kernel
theorem dX7_heaviestAbove_63 : decode cX7_heaviestAbove 63 = .ok (.iinc 4 1, 3) := by decide +kernel
theorem dX7_heaviestAbove_66 : decode cX7_heaviestAbove 66 = .ok (.goto (-34), 3) := by decide +kernel
theorem dX7_heaviestAbove_69 : decode cX7_heaviestAbove 69 = .ok (.aload_n 0, 1) := by decide +kernel
theorem dX7_heaviestAbove_70 : decode cX7_heaviestAbove 70 = .ok (.aload_n 0, 1) := by decide +kernel
theorem dX7_heaviestAbove_71 : decode cX7_heaviestAbove 71 = .ok (.getfield 7, 3) := by decide +kernel
theorem dX7_heaviestAbove_74 : decode cX7_heaviestAbove 74 = .ok (.bipush 34, 2) := by decide +kernel
theorem dX7_heaviestAbove_76 : decode cX7_heaviestAbove 76 = .ok (.iload_n 3, 1) := by decide +kernel
theorem dX7_heaviestAbove_77 : decode cX7_heaviestAbove 77 = .ok (.iadd, 1) := by decide +kernel
theorem dX7_heaviestAbove_78 : decode cX7_heaviestAbove 78 = .ok (.iaload, 1) := by decide +kernel
theorem dX7_heaviestAbove_79 : decode cX7_heaviestAbove 79 = .ok (.invokevirtual 75, 3) := by decide +kernel
theorem dX7_heaviestAbove_82 : decode cX7_heaviestAbove 82 = .ok (.ireturn, 1) := by decide +kernel
set_option maxRecDepth 100000 in
set_option maxHeartbeats 4000000 in
theorem C_X7_heaviestAbove (l : Launch) (E : gE) (x : gX) {v1 : Int32} {M : gM} {r : Int32} {M' : gM} (hf : f_X7_heaviestAbove v1 M = some (r, M')) : gM0 l E yX7_heaviestAbove (.code yX7_heaviestAbove cX7_heaviestAbove 5 (some .int)) (gR 2 43) M x [.ref (E.2.1 150), .int v1] (some (.int r)) M' := by
  refine gMet (by decide +kernel) (Nat.le_of_ble_eq_true rfl) ?_
  intro p e s m args below meth c H locs ls Q hC hl hI kr kv
  replace hC : gC p s m args c cX7_heaviestAbove 5 RX7 E := hC
  replace hl : lv_has ls 5 [(0, .ref (E.2.1 150)), (1, .int v1)] := hl
  have hx := hC.1
  have hb := hC.2.1
  have L32 : ∀ (v2 : Int32) (v1 : Int32) (n : Nat) (v4 : Int32) (v3 : Int32) (M : gM), f_X7_heaviestAbove_L32 v2 v1 n v4 v3 M = some (r, M') → ∀ (H : Heap) (locs : List Loc) (ls : Array Slot), gI E s M x H locs → lv_has ls 5 [(4, .int v4), (3, .int v3), (2, .int v2), (0, .ref (E.2.1 150)), (1, .int v1)] → W p l e (gR 2 43) s m args below meth c H locs 0 0 Q (F0 m 32 ls []) := by
    intro v2 v1 n
    induction n with
    | zero => intro v4 v3 M hf; rw [f_X7_heaviestAbove_L32] at hf; cases hf
    | succ n ih =>
      intro v4 v3 M hf H locs ls hI hl
      rw [f_X7_heaviestAbove_L32] at hf
      refine lv_iload hx hb dX7_heaviestAbove_32 (lv_at hl 0 rfl) ?_
      refine lv_aload_n hx hb dX7_heaviestAbove_34 rfl (lv_at hl 3 rfl) ?_
      refine lv_iload_n hx hb dX7_heaviestAbove_35 rfl (lv_at hl 2 rfl) ?_
      obtain ⟨r10, hr11, hf⟩ := gbind hf
      have hr11 := C_X7_above l E x  hr11
      refine g_callVi (rest := [.int v4]) hC hI hr11 Y_X7_above V_X7_above w1657 (rcv_X7 hC hI) ⟨rfl, rfl⟩ ⟨Nat.le_of_ble_eq_true rfl, Nat.le_of_ble_eq_true rfl⟩ rfl hl.1 rfl (Nat.le_of_ble_eq_true rfl) dX7_heaviestAbove_36 ⟨Nat.le_of_ble_eq_true rfl, Nat.le_of_ble_eq_true rfl⟩ (fun H locs hI => ?_)
      refine lv_icmp_gt (tgt := 69) hx hb dX7_heaviestAbove_39 rfl (fun h12 => ?_) (fun h12 => ?_)
      · replace hf := gif h12 hf
        refine lv_aload_n hx hb dX7_heaviestAbove_69 rfl (lv_at hl 3 rfl) ?_
        refine lv_aload_n hx hb dX7_heaviestAbove_70 rfl (lv_at hl 3 rfl) ?_
        refine gt_X7_X7_g hC hI dX7_heaviestAbove_71 ?_
        refine lv_bipush (v := 34) hx hb dX7_heaviestAbove_74 (by decide) ?_
        refine lv_iload_n hx hb dX7_heaviestAbove_76 rfl (lv_at hl 1 rfl) ?_
        refine lv_iadd hx hb dX7_heaviestAbove_77 ?_
        obtain ⟨h13, hf⟩ := gifN hf
        refine g_iald hC hI (k := (34 + v3).toNatClampNeg) gIA_151 h13 rfl dX7_heaviestAbove_78 ?_
        obtain ⟨r14, hr15, hf⟩ := gbind hf
        have hr15 := C_X7_done l E x  hr15
        refine g_callVi (rest := []) hC hI hr15 Y_X7_done V_X7_done w1409 (rcv_X7 hC hI) ⟨rfl, rfl⟩ ⟨Nat.le_of_ble_eq_true rfl, Nat.le_of_ble_eq_true rfl⟩ rfl hl.1 rfl (Nat.le_of_ble_eq_true rfl) dX7_heaviestAbove_79 ⟨Nat.le_of_ble_eq_true rfl, Nat.le_of_ble_eq_true rfl⟩ (fun H locs hI => ?_)
        exact kr _ _ _ _ _ _ (grw hf) hI ⟨.int, rfl, rfl⟩ dX7_heaviestAbove_82
      · replace hf := gifn h12 hf
        refine lv_aload_n hx hb dX7_heaviestAbove_42 rfl (lv_at hl 3 rfl) ?_
        refine lv_iload_n hx hb dX7_heaviestAbove_43 rfl (lv_at hl 2 rfl) ?_
        refine lv_iload hx hb dX7_heaviestAbove_44 (lv_at hl 0 rfl) ?_
        refine lv_iadd hx hb dX7_heaviestAbove_46 ?_
        refine lv_iload_n hx hb dX7_heaviestAbove_47 rfl (lv_at hl 1 rfl) ?_
        obtain ⟨r16, hr17, hf⟩ := gbind hf
        have hr17 := C_X7_isHeavier l E x  hr17
        refine g_callVi (rest := []) hC hI hr17 Y_X7_isHeavier V_X7_isHeavier w1670 (rcv_X7 hC hI) ⟨rfl, rfl⟩ ⟨Nat.le_of_ble_eq_true rfl, Nat.le_of_ble_eq_true rfl⟩ rfl hl.1 rfl (Nat.le_of_ble_eq_true rfl) dX7_heaviestAbove_48 ⟨Nat.le_of_ble_eq_true rfl, Nat.le_of_ble_eq_true rfl⟩ (fun H locs hI => ?_)
        refine lv_if_eq (tgt := 61) hx hb dX7_heaviestAbove_51 rfl (fun h18 => ?_) (fun h18 => ?_)
        · replace hf := gif h18 hf
          refine lv_iload_n hx hb dX7_heaviestAbove_61 rfl (lv_at hl 1 rfl) ?_
          refine lv_istore_n (lv' := [(3, .int v3), (4, .int v4), (2, .int v2), (0, .ref (E.2.1 150)), (1, .int v1)]) hx hb dX7_heaviestAbove_62 rfl hl (by decide) rfl (fun ls hl => ?_)
          refine lv_iinc (k := 1) (v := v4 + 1) (lv' := [(4, .int (v4 + 1)), (3, .int v3), (2, .int v2), (0, .ref (E.2.1 150)), (1, .int v1)]) hx hb dX7_heaviestAbove_63 hl rfl rfl (by decide) rfl (fun ls hl => ?_)
          refine lv_goto (tgt := 32) hx hb dX7_heaviestAbove_66 rfl ?_
          exact ih (v4 + 1) v3 M hf _ _ _ hI (lv_sub hl [0, 1, 2, 3, 4] rfl)
        · replace hf := gifn h18 hf
          refine lv_iload_n hx hb dX7_heaviestAbove_54 rfl (lv_at hl 2 rfl) ?_
          refine lv_iload hx hb dX7_heaviestAbove_55 (lv_at hl 0 rfl) ?_
          refine lv_iadd hx hb dX7_heaviestAbove_57 ?_
          refine lv_goto (tgt := 62) hx hb dX7_heaviestAbove_58 rfl ?_
          obtain ⟨z19, ez19, hf⟩ := glet hf
          refine g_top ez19 ?_
          refine lv_istore_n (lv' := [(3, .int z19), (4, .int v4), (2, .int v2), (0, .ref (E.2.1 150)), (1, .int v1)]) hx hb dX7_heaviestAbove_62 rfl hl (by decide) rfl (fun ls hl => ?_)
          refine lv_iinc (k := 1) (v := v4 + 1) (lv' := [(4, .int (v4 + 1)), (3, .int z19), (2, .int v2), (0, .ref (E.2.1 150)), (1, .int v1)]) hx hb dX7_heaviestAbove_63 hl rfl rfl (by decide) rfl (fun ls hl => ?_)
          refine lv_goto (tgt := 32) hx hb dX7_heaviestAbove_66 rfl ?_
          exact ih (v4 + 1) z19 M hf _ _ _ hI (lv_sub hl [0, 1, 2, 3, 4] rfl)
  unfold f_X7_heaviestAbove at hf
  refine lv_aload_n hx hb dX7_heaviestAbove_0 rfl (lv_at hl 0 rfl) ?_
  refine lv_iload_n hx hb dX7_heaviestAbove_1 rfl (lv_at hl 1 rfl) ?_
  obtain ⟨r1, hr2, hf⟩ := gbind hf
  have hr2 := C_X7_cellOf l E x  hr2
  refine g_callVi (rest := []) hC hI hr2 Y_X7_cellOf V_X7_cellOf w1615 (rcv_X7 hC hI) ⟨rfl, rfl⟩ ⟨Nat.le_of_ble_eq_true rfl, Nat.le_of_ble_eq_true rfl⟩ rfl hl.1 rfl (Nat.le_of_ble_eq_true rfl) dX7_heaviestAbove_2 ⟨Nat.le_of_ble_eq_true rfl, Nat.le_of_ble_eq_true rfl⟩ (fun H locs hI => ?_)
  refine lv_istore_n (lv' := [(2, .int r1), (0, .ref (E.2.1 150)), (1, .int v1)]) hx hb dX7_heaviestAbove_5 rfl hl (by decide) rfl (fun ls hl => ?_)
  refine lv_iload_n hx hb dX7_heaviestAbove_6 rfl (lv_at hl 0 rfl) ?_
  refine lv_iconst (v := (-1)) hx hb dX7_heaviestAbove_7 (by decide) ?_
  refine lv_icmp_eq (tgt := 19) hx hb dX7_heaviestAbove_8 rfl (fun h3 => ?_) (fun h3 => ?_)
  · replace hf := gif h3 hf
    refine lv_aload_n hx hb dX7_heaviestAbove_19 rfl (lv_at hl 1 rfl) ?_
    refine lv_iconst (v := 1) hx hb dX7_heaviestAbove_20 (by decide) ?_
    obtain ⟨r4, hr5, hf⟩ := gbind hf
    have hr5 := C_X7_fails l E x  hr5
    refine g_callVi (rest := []) hC hI hr5 Y_X7_fails V_X7_fails w1401 (rcv_X7 hC hI) ⟨rfl, rfl⟩ ⟨Nat.le_of_ble_eq_true rfl, Nat.le_of_ble_eq_true rfl⟩ rfl hl.1 rfl (Nat.le_of_ble_eq_true rfl) dX7_heaviestAbove_21 ⟨Nat.le_of_ble_eq_true rfl, Nat.le_of_ble_eq_true rfl⟩ (fun H locs hI => ?_)
    exact kr _ _ _ _ _ _ (grw hf) hI ⟨.int, rfl, rfl⟩ dX7_heaviestAbove_24
  · replace hf := gifn h3 hf
    refine lv_aload_n hx hb dX7_heaviestAbove_11 rfl (lv_at hl 1 rfl) ?_
    refine lv_iload_n hx hb dX7_heaviestAbove_12 rfl (lv_at hl 0 rfl) ?_
    obtain ⟨r6, hr7, hf⟩ := gbind hf
    have hr7 := C_X7_above l E x  hr7
    refine g_callVi (rest := []) hC hI hr7 Y_X7_above V_X7_above w1657 (rcv_X7 hC hI) ⟨rfl, rfl⟩ ⟨Nat.le_of_ble_eq_true rfl, Nat.le_of_ble_eq_true rfl⟩ rfl hl.1 rfl (Nat.le_of_ble_eq_true rfl) dX7_heaviestAbove_13 ⟨Nat.le_of_ble_eq_true rfl, Nat.le_of_ble_eq_true rfl⟩ (fun H locs hI => ?_)
    refine lv_if_ne (tgt := 25) hx hb dX7_heaviestAbove_16 rfl (fun h8 => ?_) (fun h8 => ?_)
    · replace hf := gifn h8 hf
      refine lv_iload_n hx hb dX7_heaviestAbove_25 rfl (lv_at hl 0 rfl) ?_
      refine lv_iconst (v := 1) hx hb dX7_heaviestAbove_26 (by decide) ?_
      refine lv_iadd hx hb dX7_heaviestAbove_27 ?_
      obtain ⟨z9, ez9, hf⟩ := glet hf
      refine g_top ez9 ?_
      refine lv_istore_n (lv' := [(3, .int z9), (2, .int r1), (0, .ref (E.2.1 150)), (1, .int v1)]) hx hb dX7_heaviestAbove_28 rfl hl (by decide) rfl (fun ls hl => ?_)
      refine lv_iconst (v := 2) hx hb dX7_heaviestAbove_29 (by decide) ?_
      refine lv_istore (lv' := [(4, .int 2), (3, .int z9), (2, .int r1), (0, .ref (E.2.1 150)), (1, .int v1)]) hx hb dX7_heaviestAbove_30 hl (by decide) rfl (fun ls hl => ?_)
      exact L32 r1 v1 gF 2 z9 M hf _ _ _ hI (lv_sub hl [0, 1, 2, 3, 4] rfl)
    · replace hf := gif h8 hf
      refine lv_aload_n hx hb dX7_heaviestAbove_19 rfl (lv_at hl 1 rfl) ?_
      refine lv_iconst (v := 1) hx hb dX7_heaviestAbove_20 (by decide) ?_
      obtain ⟨r20, hr21, hf⟩ := gbind hf
      have hr21 := C_X7_fails l E x  hr21
      refine g_callVi (rest := []) hC hI hr21 Y_X7_fails V_X7_fails w1401 (rcv_X7 hC hI) ⟨rfl, rfl⟩ ⟨Nat.le_of_ble_eq_true rfl, Nat.le_of_ble_eq_true rfl⟩ rfl hl.1 rfl (Nat.le_of_ble_eq_true rfl) dX7_heaviestAbove_21 ⟨Nat.le_of_ble_eq_true rfl, Nat.le_of_ble_eq_true rfl⟩ (fun H locs hI => ?_)
      exact kr _ _ _ _ _ _ (grw hf) hI ⟨.int, rfl, rfl⟩ dX7_heaviestAbove_24
theorem dX7_containerByWeight_0 : decode cX7_containerByWeight 0 = .ok (.iconst 0, 1) := by decide +kernel
theorem dX7_containerByWeight_1 : decode cX7_containerByWeight 1 = .ok (.istore_n 2, 1) := by decide +kernel
theorem dX7_containerByWeight_2 : decode cX7_containerByWeight 2 = .ok (.iload_n 2, 1) := by decide +kernel
theorem dX7_containerByWeight_3 : decode cX7_containerByWeight 3 = .ok (.bipush 60, 2) := by decide +kernel
theorem dX7_containerByWeight_5 : decode cX7_containerByWeight 5 = .ok (.if_icmp .ge 81, 3) := by decide +kernel
theorem dX7_containerByWeight_8 : decode cX7_containerByWeight 8 = .ok (.iconst 0, 1) := by decide +kernel
theorem dX7_containerByWeight_9 : decode cX7_containerByWeight 9 = .ok (.istore_n 3, 1) := by decide +kernel
theorem dX7_containerByWeight_10 : decode cX7_containerByWeight 10 = .ok (.iconst 0, 1) := by decide +kernel
theorem dX7_containerByWeight_11 : decode cX7_containerByWeight 11 = .ok (.istore 4, 2) := by decide +kernel
theorem dX7_containerByWeight_13 : decode cX7_containerByWeight 13 = .ok (.iload 4, 2) := by decide +kernel
theorem dX7_containerByWeight_15 : decode cX7_containerByWeight 15 = .ok (.bipush 60, 2) := by decide +kernel
theorem dX7_containerByWeight_17 : decode cX7_containerByWeight 17 = .ok (.if_icmp .ge 36, 3) := by decide +kernel
theorem dX7_containerByWeight_20 : decode cX7_containerByWeight 20 = .ok (.iload_n 3, 1) := by decide +kernel
theorem dX7_containerByWeight_21 : decode cX7_containerByWeight 21 = .ok (.aload_n 0, 1) := by decide +kernel
theorem dX7_containerByWeight_22 : decode cX7_containerByWeight 22 = .ok (.iload 4, 2) := by decide +kernel
theorem dX7_containerByWeight_24 : decode cX7_containerByWeight 24 = .ok (.invokevirtual 60, 3) := by decide +kernel
theorem dX7_containerByWeight_27 : decode cX7_containerByWeight 27 = .ok (.ifCond .eq 17, 3) := by decide +kernel
theorem dX7_containerByWeight_30 : decode cX7_containerByWeight 30 = .ok (.aload_n 0, 1) := by decide +kernel
theorem dX7_containerByWeight_31 : decode cX7_containerByWeight 31 = .ok (.iload 4, 2) := by decide +kernel
theorem dX7_containerByWeight_33 : decode cX7_containerByWeight 33 = .ok (.iload_n 2, 1) := by decide +kernel
theorem dX7_containerByWeight_34 : decode cX7_containerByWeight 34 = .ok (.invokevirtual 182, 3) := by decide +kernel
theorem dX7_containerByWeight_37 : decode cX7_containerByWeight 37 = .ok (.ifCond .eq 7, 3) := by decide +kernel
theorem dX7_containerByWeight_40 : decode cX7_containerByWeight 40 = .ok (.iconst 1, 1) := by decide +kernel
theorem dX7_containerByWeight_41 : decode cX7_containerByWeight 41 = .ok (.goto 4, 3) := by decide +kernel
theorem dX7_containerByWeight_44 : decode cX7_containerByWeight 44 = .ok (.iconst 0, 1) := by decide +kernel
theorem dX7_containerByWeight_45 : decode cX7_containerByWeight 45 = .ok (.iadd, 1) := by decide +kernel
theorem dX7_containerByWeight_46 : decode cX7_containerByWeight 46 = .ok (.istore_n 3, 1) := by decide +kernel
theorem dX7_containerByWeight_47 : decode cX7_containerByWeight 47 = .ok (.iinc 4 1, 3) := by decide +kernel
theorem dX7_containerByWeight_50 : decode cX7_containerByWeight 50 = .ok (.goto (-37), 3) := by decide +kernel
theorem dX7_containerByWeight_53 : decode cX7_containerByWeight 53 = .ok (.aload_n 0, 1) := by decide +kernel
theorem dX7_containerByWeight_54 : decode cX7_containerByWeight 54 = .ok (.iload_n 2, 1) := by decide +kernel
theorem dX7_containerByWeight_55 : decode cX7_containerByWeight 55 = .ok (.invokevirtual 60, 3) := by decide +kernel
theorem dX7_containerByWeight_58 : decode cX7_containerByWeight 58 = .ok (.ifCond .eq 22, 3) := by decide +kernel
theorem dX7_containerByWeight_61 : decode cX7_containerByWeight 61 = .ok (.iload_n 3, 1) := by decide +kernel
theorem dX7_containerByWeight_62 : decode cX7_containerByWeight 62 = .ok (.iload_n 1, 1) := by decide +kernel
theorem dX7_containerByWeight_63 : decode cX7_containerByWeight 63 = .ok (.if_icmp .ne 17, 3) := by decide +kernel
theorem dX7_containerByWeight_66 : decode cX7_containerByWeight 66 = .ok (.aload_n 0, 1) := by decide +kernel
theorem dX7_containerByWeight_67 : decode cX7_containerByWeight 67 = .ok (.aload_n 0, 1) := by decide +kernel
theorem dX7_containerByWeight_68 : decode cX7_containerByWeight 68 = .ok (.getfield 7, 3) := by decide +kernel
theorem dX7_containerByWeight_71 : decode cX7_containerByWeight 71 = .ok (.bipush 34, 2) := by decide +kernel
theorem dX7_containerByWeight_73 : decode cX7_containerByWeight 73 = .ok (.iload_n 2, 1) := by decide +kernel
theorem dX7_containerByWeight_74 : decode cX7_containerByWeight 74 = .ok (.iadd, 1) := by decide +kernel
theorem dX7_containerByWeight_75 : decode cX7_containerByWeight 75 = .ok (.iaload, 1) := by decide +kernel
theorem dX7_containerByWeight_76 : decode cX7_containerByWeight 76 = .ok (.invokevirtual 75, 3) := by decide +kernel
theorem dX7_containerByWeight_79 : decode cX7_containerByWeight 79 = .ok (.ireturn, 1) := by decide +kernel
theorem dX7_containerByWeight_80 : decode cX7_containerByWeight 80 = .ok (.iinc 2 1, 3) := by decide +kernel
theorem dX7_containerByWeight_83 : decode cX7_containerByWeight 83 = .ok (.goto (-81), 3) := by decide +kernel
theorem dX7_containerByWeight_86 : decode cX7_containerByWeight 86 = .ok (.aload_n 0, 1) := by decide +kernel
theorem dX7_containerByWeight_87 : decode cX7_containerByWeight 87 = .ok (.iconst 1, 1) := by decide +kernel
theorem dX7_containerByWeight_88 : decode cX7_containerByWeight 88 = .ok (.invokevirtual 67, 3) := by decide +kernel
theorem dX7_containerByWeight_91 : decode cX7_containerByWeight 91 = .ok (.ireturn, 1) := by decide +kernel
set_option maxRecDepth 100000 in
set_option maxHeartbeats 4000000 in
theorem C_X7_containerByWeight (l : Launch) (E : gE) (x : gX) {v1 : Int32} {M : gM} {r : Int32} {M' : gM} (hf : f_X7_containerByWeight v1 M = some (r, M')) : gM0 l E yX7_containerByWeight (.code yX7_containerByWeight cX7_containerByWeight 5 (some .int)) (gR 1 23) M x [.ref (E.2.1 150), .int v1] (some (.int r)) M' := by
  refine gMet (by decide +kernel) (Nat.le_of_ble_eq_true rfl) ?_
  intro p e s m args below meth c H locs ls Q hC hl hI kr kv
  replace hC : gC p s m args c cX7_containerByWeight 5 RX7 E := hC
  replace hl : lv_has ls 5 [(0, .ref (E.2.1 150)), (1, .int v1)] := hl
  have hx := hC.1
  have hb := hC.2.1
  have L13 : ∀ (v2 : Int32) (v1 : Int32) (n : Nat) (v4 : Int32) (v3 : Int32) (M : gM) (q : Int32 × Int32 × gM), f_X7_containerByWeight_L13 v2 v1 n v4 v3 M = some q → ∀ (H : Heap) (locs : List Loc) (ls : Array Slot), gI E s M x H locs → lv_has ls 5 [(4, .int v4), (3, .int v3), (2, .int v2), (0, .ref (E.2.1 150)), (1, .int v1)] → (∀ (H : Heap) (locs : List Loc) (ls : Array Slot), gI E s q.2.2 x H locs → lv_has ls 5 [(4, .int q.1), (3, .int q.2.1), (2, .int v2), (0, .ref (E.2.1 150)), (1, .int v1)] → W p l e (gR 1 23) s m args below meth c H locs 0 0 Q (F0 m 53 ls [])) → W p l e (gR 1 23) s m args below meth c H locs 0 0 Q (F0 m 13 ls []) := by
    intro v2 v1 n
    induction n with
    | zero => intro v4 v3 M q hf; rw [f_X7_containerByWeight_L13] at hf; cases hf
    | succ n ih =>
      intro v4 v3 M q hf H locs ls hI hl hk
      rw [f_X7_containerByWeight_L13] at hf
      refine lv_iload hx hb dX7_containerByWeight_13 (lv_at hl 0 rfl) ?_
      refine lv_bipush (v := 60) hx hb dX7_containerByWeight_15 (by decide) ?_
      refine lv_icmp_ge (tgt := 53) hx hb dX7_containerByWeight_17 rfl (fun h4 => ?_) (fun h4 => ?_)
      · replace hf := gif h4 hf
        obtain rfl := Option.some.inj hf
        exact hk _ _ _ hI (lv_sub hl [0, 1, 2, 3, 4] rfl)
      · replace hf := gifn h4 hf
        refine lv_iload_n hx hb dX7_containerByWeight_20 rfl (lv_at hl 1 rfl) ?_
        refine lv_aload_n hx hb dX7_containerByWeight_21 rfl (lv_at hl 3 rfl) ?_
        refine lv_iload hx hb dX7_containerByWeight_22 (lv_at hl 0 rfl) ?_
        obtain ⟨r5, hr6, hf⟩ := gbind hf
        have hr6 := C_X7_isFull l E x  hr6
        refine g_callVi (rest := [.int v3]) hC hI hr6 Y_X7_isFull V_X7_isFull w1602 (rcv_X7 hC hI) ⟨rfl, rfl⟩ ⟨Nat.le_of_ble_eq_true rfl, Nat.le_of_ble_eq_true rfl⟩ rfl hl.1 rfl (Nat.le_of_ble_eq_true rfl) dX7_containerByWeight_24 ⟨Nat.le_of_ble_eq_true rfl, Nat.le_of_ble_eq_true rfl⟩ (fun H locs hI => ?_)
        refine lv_if_eq (tgt := 44) hx hb dX7_containerByWeight_27 rfl (fun h7 => ?_) (fun h7 => ?_)
        · replace hf := gif h7 hf
          refine lv_iconst (v := 0) hx hb dX7_containerByWeight_44 (by decide) ?_
          refine lv_iadd hx hb dX7_containerByWeight_45 ?_
          obtain ⟨z8, ez8, hf⟩ := glet hf
          refine g_top ez8 ?_
          refine lv_istore_n (lv' := [(3, .int z8), (4, .int v4), (2, .int v2), (0, .ref (E.2.1 150)), (1, .int v1)]) hx hb dX7_containerByWeight_46 rfl hl (by decide) rfl (fun ls hl => ?_)
          refine lv_iinc (k := 1) (v := v4 + 1) (lv' := [(4, .int (v4 + 1)), (3, .int z8), (2, .int v2), (0, .ref (E.2.1 150)), (1, .int v1)]) hx hb dX7_containerByWeight_47 hl rfl rfl (by decide) rfl (fun ls hl => ?_)
          refine lv_goto (tgt := 13) hx hb dX7_containerByWeight_50 rfl ?_
          exact ih (v4 + 1) z8 M _ hf _ _ _ hI (lv_sub hl [0, 1, 2, 3, 4] rfl) hk
        · replace hf := gifn h7 hf
          refine lv_aload_n hx hb dX7_containerByWeight_30 rfl (lv_at hl 3 rfl) ?_
          refine lv_iload hx hb dX7_containerByWeight_31 (lv_at hl 0 rfl) ?_
          refine lv_iload_n hx hb dX7_containerByWeight_33 rfl (lv_at hl 2 rfl) ?_
          obtain ⟨r9, hr10, hf⟩ := gbind hf
          have hr10 := C_X7_isHeavier l E x  hr10
          refine g_callVi (rest := [.int v3]) hC hI hr10 Y_X7_isHeavier V_X7_isHeavier w1670 (rcv_X7 hC hI) ⟨rfl, rfl⟩ ⟨Nat.le_of_ble_eq_true rfl, Nat.le_of_ble_eq_true rfl⟩ rfl hl.1 rfl (Nat.le_of_ble_eq_true rfl) dX7_containerByWeight_34 ⟨Nat.le_of_ble_eq_true rfl, Nat.le_of_ble_eq_true rfl⟩ (fun H locs hI => ?_)
          refine lv_if_eq (tgt := 44) hx hb dX7_containerByWeight_37 rfl (fun h11 => ?_) (fun h11 => ?_)
          · replace hf := gif h11 hf
            refine lv_iconst (v := 0) hx hb dX7_containerByWeight_44 (by decide) ?_
            refine lv_iadd hx hb dX7_containerByWeight_45 ?_
            obtain ⟨z12, ez12, hf⟩ := glet hf
            refine g_top ez12 ?_
            refine lv_istore_n (lv' := [(3, .int z12), (4, .int v4), (2, .int v2), (0, .ref (E.2.1 150)), (1, .int v1)]) hx hb dX7_containerByWeight_46 rfl hl (by decide) rfl (fun ls hl => ?_)
            refine lv_iinc (k := 1) (v := v4 + 1) (lv' := [(4, .int (v4 + 1)), (3, .int z12), (2, .int v2), (0, .ref (E.2.1 150)), (1, .int v1)]) hx hb dX7_containerByWeight_47 hl rfl rfl (by decide) rfl (fun ls hl => ?_)
            refine lv_goto (tgt := 13) hx hb dX7_containerByWeight_50 rfl ?_
            exact ih (v4 + 1) z12 M _ hf _ _ _ hI (lv_sub hl [0, 1, 2, 3, 4] rfl) hk
          · replace hf := gifn h11 hf
            refine lv_iconst (v := 1) hx hb dX7_containerByWeight_40 (by decide) ?_
            refine lv_goto (tgt := 45) hx hb dX7_containerByWeight_41 rfl ?_
            refine lv_iadd hx hb dX7_containerByWeight_45 ?_
            obtain ⟨z13, ez13, hf⟩ := glet hf
            refine g_top ez13 ?_
            refine lv_istore_n (lv' := [(3, .int z13), (4, .int v4), (2, .int v2), (0, .ref (E.2.1 150)), (1, .int v1)]) hx hb dX7_containerByWeight_46 rfl hl (by decide) rfl (fun ls hl => ?_)
            refine lv_iinc (k := 1) (v := v4 + 1) (lv' := [(4, .int (v4 + 1)), (3, .int z13), (2, .int v2), (0, .ref (E.2.1 150)), (1, .int v1)]) hx hb dX7_containerByWeight_47 hl rfl rfl (by decide) rfl (fun ls hl => ?_)
            refine lv_goto (tgt := 13) hx hb dX7_containerByWeight_50 rfl ?_
            exact ih (v4 + 1) z13 M _ hf _ _ _ hI (lv_sub hl [0, 1, 2, 3, 4] rfl) hk
  have L2 : ∀ (v1 : Int32) (n : Nat) (v2 : Int32) (M : gM), f_X7_containerByWeight_L2 v1 n v2 M = some (r, M') → ∀ (H : Heap) (locs : List Loc) (ls : Array Slot), gI E s M x H locs → lv_has ls 5 [(2, .int v2), (0, .ref (E.2.1 150)), (1, .int v1)] → W p l e (gR 1 23) s m args below meth c H locs 0 0 Q (F0 m 2 ls []) := by
    intro v1 n
    induction n with
    | zero => intro v2 M hf; rw [f_X7_containerByWeight_L2] at hf; cases hf
    | succ n ih =>
      intro v2 M hf H locs ls hI hl
      rw [f_X7_containerByWeight_L2] at hf
      refine lv_iload_n hx hb dX7_containerByWeight_2 rfl (lv_at hl 0 rfl) ?_
      refine lv_bipush (v := 60) hx hb dX7_containerByWeight_3 (by decide) ?_
      refine lv_icmp_ge (tgt := 86) hx hb dX7_containerByWeight_5 rfl (fun h1 => ?_) (fun h1 => ?_)
      · replace hf := gif h1 hf
        refine lv_aload_n hx hb dX7_containerByWeight_86 rfl (lv_at hl 1 rfl) ?_
        refine lv_iconst (v := 1) hx hb dX7_containerByWeight_87 (by decide) ?_
        obtain ⟨r2, hr3, hf⟩ := gbind hf
        have hr3 := C_X7_fails l E x  hr3
        refine g_callVi (rest := []) hC hI hr3 Y_X7_fails V_X7_fails w1401 (rcv_X7 hC hI) ⟨rfl, rfl⟩ ⟨Nat.le_of_ble_eq_true rfl, Nat.le_of_ble_eq_true rfl⟩ rfl hl.1 rfl (Nat.le_of_ble_eq_true rfl) dX7_containerByWeight_88 ⟨Nat.le_of_ble_eq_true rfl, Nat.le_of_ble_eq_true rfl⟩ (fun H locs hI => ?_)
        exact kr _ _ _ _ _ _ (grw hf) hI ⟨.int, rfl, rfl⟩ dX7_containerByWeight_91
      · replace hf := gifn h1 hf
        refine lv_iconst (v := 0) hx hb dX7_containerByWeight_8 (by decide) ?_
        refine lv_istore_n (lv' := [(3, .int 0), (2, .int v2), (0, .ref (E.2.1 150)), (1, .int v1)]) hx hb dX7_containerByWeight_9 rfl hl (by decide) rfl (fun ls hl => ?_)
        refine lv_iconst (v := 0) hx hb dX7_containerByWeight_10 (by decide) ?_
        refine lv_istore (lv' := [(4, .int 0), (3, .int 0), (2, .int v2), (0, .ref (E.2.1 150)), (1, .int v1)]) hx hb dX7_containerByWeight_11 hl (by decide) rfl (fun ls hl => ?_)
        obtain ⟨q14, hq14, hf⟩ := gbind hf
        refine L13 v2 v1 gF 0 0 M q14 hq14 _ _ _ hI (lv_sub hl [0, 1, 2, 3, 4] rfl) (fun H locs ls hI hl => ?_)
        try simp only at hI hl
        refine lv_aload_n hx hb dX7_containerByWeight_53 rfl (lv_at hl 3 rfl) ?_
        refine lv_iload_n hx hb dX7_containerByWeight_54 rfl (lv_at hl 2 rfl) ?_
        obtain ⟨r15, hr16, hf⟩ := gbind hf
        have hr16 := C_X7_isFull l E x  hr16
        refine g_callVi (rest := []) hC hI hr16 Y_X7_isFull V_X7_isFull w1602 (rcv_X7 hC hI) ⟨rfl, rfl⟩ ⟨Nat.le_of_ble_eq_true rfl, Nat.le_of_ble_eq_true rfl⟩ rfl hl.1 rfl (Nat.le_of_ble_eq_true rfl) dX7_containerByWeight_55 ⟨Nat.le_of_ble_eq_true rfl, Nat.le_of_ble_eq_true rfl⟩ (fun H locs hI => ?_)
        refine lv_if_eq (tgt := 80) hx hb dX7_containerByWeight_58 rfl (fun h17 => ?_) (fun h17 => ?_)
        · replace hf := gif h17 hf
          refine lv_iinc (k := 2) (v := v2 + 1) (lv' := [(2, .int (v2 + 1)), (4, .int q14.1), (3, .int q14.2.1), (0, .ref (E.2.1 150)), (1, .int v1)]) hx hb dX7_containerByWeight_80 hl rfl rfl (by decide) rfl (fun ls hl => ?_)
          refine lv_goto (tgt := 2) hx hb dX7_containerByWeight_83 rfl ?_
          exact ih (v2 + 1) q14.2.2 hf _ _ _ hI (lv_sub hl [0, 3, 4] rfl)
        · replace hf := gifn h17 hf
          refine lv_iload_n hx hb dX7_containerByWeight_61 rfl (lv_at hl 1 rfl) ?_
          refine lv_iload_n hx hb dX7_containerByWeight_62 rfl (lv_at hl 4 rfl) ?_
          refine lv_icmp_ne (tgt := 80) hx hb dX7_containerByWeight_63 rfl (fun h18 => ?_) (fun h18 => ?_)
          · replace hf := gifn h18 hf
            refine lv_iinc (k := 2) (v := v2 + 1) (lv' := [(2, .int (v2 + 1)), (4, .int q14.1), (3, .int q14.2.1), (0, .ref (E.2.1 150)), (1, .int v1)]) hx hb dX7_containerByWeight_80 hl rfl rfl (by decide) rfl (fun ls hl => ?_)
            refine lv_goto (tgt := 2) hx hb dX7_containerByWeight_83 rfl ?_
            exact ih (v2 + 1) q14.2.2 hf _ _ _ hI (lv_sub hl [0, 3, 4] rfl)
          · replace hf := gif h18 hf
            refine lv_aload_n hx hb dX7_containerByWeight_66 rfl (lv_at hl 3 rfl) ?_
            refine lv_aload_n hx hb dX7_containerByWeight_67 rfl (lv_at hl 3 rfl) ?_
            refine gt_X7_X7_g hC hI dX7_containerByWeight_68 ?_
            refine lv_bipush (v := 34) hx hb dX7_containerByWeight_71 (by decide) ?_
            refine lv_iload_n hx hb dX7_containerByWeight_73 rfl (lv_at hl 2 rfl) ?_
            refine lv_iadd hx hb dX7_containerByWeight_74 ?_
            obtain ⟨h19, hf⟩ := gifN hf
            refine g_iald hC hI (k := (34 + v2).toNatClampNeg) gIA_151 h19 rfl dX7_containerByWeight_75 ?_
            obtain ⟨r20, hr21, hf⟩ := gbind hf
            have hr21 := C_X7_done l E x  hr21
            refine g_callVi (rest := []) hC hI hr21 Y_X7_done V_X7_done w1409 (rcv_X7 hC hI) ⟨rfl, rfl⟩ ⟨Nat.le_of_ble_eq_true rfl, Nat.le_of_ble_eq_true rfl⟩ rfl hl.1 rfl (Nat.le_of_ble_eq_true rfl) dX7_containerByWeight_76 ⟨Nat.le_of_ble_eq_true rfl, Nat.le_of_ble_eq_true rfl⟩ (fun H locs hI => ?_)
            exact kr _ _ _ _ _ _ (grw hf) hI ⟨.int, rfl, rfl⟩ dX7_containerByWeight_79
  unfold f_X7_containerByWeight at hf
  refine lv_iconst (v := 0) hx hb dX7_containerByWeight_0 (by decide) ?_
  refine lv_istore_n (lv' := [(2, .int 0), (0, .ref (E.2.1 150)), (1, .int v1)]) hx hb dX7_containerByWeight_1 rfl hl (by decide) rfl (fun ls hl => ?_)
  exact L2 v1 gF 0 M hf _ _ _ hI (lv_sub hl [0, 1, 2] rfl)
theorem dX7_emptiestStack_0 : decode cX7_emptiestStack 0 = .ok (.aload_n 0, 1) := by decide +kernel
theorem dX7_emptiestStack_1 : decode cX7_emptiestStack 1 = .ok (.iload_n 1, 1) := by decide +kernel
theorem dX7_emptiestStack_2 : decode cX7_emptiestStack 2 = .ok (.invokevirtual 146, 3) := by decide +kernel
theorem dX7_emptiestStack_5 : decode cX7_emptiestStack 5 = .ok (.istore_n 2, 1) := by decide +kernel
theorem dX7_emptiestStack_6 : decode cX7_emptiestStack 6 = .ok (.iload_n 2, 1) := by decide +kernel
theorem dX7_emptiestStack_7 : decode cX7_emptiestStack 7 = .ok (.ifCond .le 9, 3) := by decide +kernel
theorem dX7_emptiestStack_10 : decode cX7_emptiestStack 10 = .ok (.aload_n 0, 1) := by decide +kernel
theorem dX7_emptiestStack_11 : decode cX7_emptiestStack 11 = .ok (.iload_n 2, 1) := by decide +kernel
theorem dX7_emptiestStack_12 : decode cX7_emptiestStack 12 = .ok (.invokevirtual 67, 3) := by decide +kernel
theorem dX7_emptiestStack_15 : decode cX7_emptiestStack 15 = .ok (.ireturn, 1) := by decide +kernel
theorem dX7_emptiestStack_16 : decode cX7_emptiestStack 16 = .ok (.iconst 0, 1) := by decide +kernel
theorem dX7_emptiestStack_17 : decode cX7_emptiestStack 17 = .ok (.istore_n 3, 1) := by decide +kernel
theorem dX7_emptiestStack_18 : decode cX7_emptiestStack 18 = .ok (.iconst 1, 1) := by decide +kernel
theorem dX7_emptiestStack_19 : decode cX7_emptiestStack 19 = .ok (.istore 4, 2) := by decide +kernel
theorem dX7_emptiestStack_21 : decode cX7_emptiestStack 21 = .ok (.iload 4, 2) := by decide +kernel
theorem dX7_emptiestStack_23 : decode cX7_emptiestStack 23 = .ok (.iconst 4, 1) := by decide +kernel
theorem dX7_emptiestStack_24 : decode cX7_emptiestStack 24 = .ok (.if_icmp .ge 32, 3) := by decide +kernel
theorem dX7_emptiestStack_27 : decode cX7_emptiestStack 27 = .ok (.aload_n 0, 1) := by decide +kernel
theorem dX7_emptiestStack_28 : decode cX7_emptiestStack 28 = .ok (.iload_n 1, 1) := by decide +kernel
theorem dX7_emptiestStack_29 : decode cX7_emptiestStack 29 = .ok (.iload 4, 2) := by decide +kernel
theorem dX7_emptiestStack_31 : decode cX7_emptiestStack 31 = .ok (.invokevirtual 63, 3) := by decide +kernel
theorem dX7_emptiestStack_34 : decode cX7_emptiestStack 34 = .ok (.aload_n 0, 1) := by decide +kernel
theorem dX7_emptiestStack_35 : decode cX7_emptiestStack 35 = .ok (.iload_n 1, 1) := by decide +kernel
theorem dX7_emptiestStack_36 : decode cX7_emptiestStack 36 = .ok (.iload_n 3, 1) := by decide +kernel
theorem dX7_emptiestStack_37 : decode cX7_emptiestStack 37 = .ok (.invokevirtual 63, 3) := by decide +kernel
theorem dX7_emptiestStack_40 : decode cX7_emptiestStack 40 = .ok (.if_icmp .ge 8, 3) := by decide +kernel
theorem dX7_emptiestStack_43 : decode cX7_emptiestStack 43 = .ok (.iload 4, 2) := by decide +kernel
theorem dX7_emptiestStack_45 : decode cX7_emptiestStack 45 = .ok (.goto 4, 3) := by decide +kernel
theorem dX7_emptiestStack_48 : decode cX7_emptiestStack 48 = .ok (.iload_n 3, 1) := by decide +kernel
theorem dX7_emptiestStack_49 : decode cX7_emptiestStack 49 = .ok (.istore_n 3, 1) := by decide +kernel
theorem dX7_emptiestStack_50 : decode cX7_emptiestStack 50 = .ok (.iinc 4 1, 3) := by decide +kernel
theorem dX7_emptiestStack_53 : decode cX7_emptiestStack 53 = .ok (.goto (-32), 3) := by decide +kernel
theorem dX7_emptiestStack_56 : decode cX7_emptiestStack 56 = .ok (.aload_n 0, 1) := by decide +kernel
theorem dX7_emptiestStack_57 : decode cX7_emptiestStack 57 = .ok (.iload_n 3, 1) := by decide +kernel
theorem dX7_emptiestStack_58 : decode cX7_emptiestStack 58 = .ok (.invokevirtual 75, 3) := by decide +kernel
theorem dX7_emptiestStack_61 : decode cX7_emptiestStack 61 = .ok (.ireturn, 1) := by decide +kernel
set_option maxRecDepth 100000 in
set_option maxHeartbeats 4000000 in
theorem C_X7_emptiestStack (l : Launch) (E : gE) (x : gX) {v1 : Int32} {M : gM} {r : Int32} {M' : gM} (hf : f_X7_emptiestStack v1 M = some (r, M')) : gM0 l E yX7_emptiestStack (.code yX7_emptiestStack cX7_emptiestStack 5 (some .int)) (gR 3 63) M x [.ref (E.2.1 150), .int v1] (some (.int r)) M' := by
  refine gMet (by decide +kernel) (Nat.le_of_ble_eq_true rfl) ?_
  intro p e s m args below meth c H locs ls Q hC hl hI kr kv
  replace hC : gC p s m args c cX7_emptiestStack 5 RX7 E := hC
  replace hl : lv_has ls 5 [(0, .ref (E.2.1 150)), (1, .int v1)] := hl
  have hx := hC.1
  have hb := hC.2.1
  have L21 : ∀ (v2 : Int32) (v1 : Int32) (n : Nat) (v4 : Int32) (v3 : Int32) (M : gM), f_X7_emptiestStack_L21 v2 v1 n v4 v3 M = some (r, M') → ∀ (H : Heap) (locs : List Loc) (ls : Array Slot), gI E s M x H locs → lv_has ls 5 [(4, .int v4), (3, .int v3), (2, .int v2), (0, .ref (E.2.1 150)), (1, .int v1)] → W p l e (gR 3 63) s m args below meth c H locs 0 0 Q (F0 m 21 ls []) := by
    intro v2 v1 n
    induction n with
    | zero => intro v4 v3 M hf; rw [f_X7_emptiestStack_L21] at hf; cases hf
    | succ n ih =>
      intro v4 v3 M hf H locs ls hI hl
      rw [f_X7_emptiestStack_L21] at hf
      refine lv_iload hx hb dX7_emptiestStack_21 (lv_at hl 0 rfl) ?_
      refine lv_iconst (v := 4) hx hb dX7_emptiestStack_23 (by decide) ?_
      refine lv_icmp_ge (tgt := 56) hx hb dX7_emptiestStack_24 rfl (fun h4 => ?_) (fun h4 => ?_)
      · replace hf := gif h4 hf
        refine lv_aload_n hx hb dX7_emptiestStack_56 rfl (lv_at hl 3 rfl) ?_
        refine lv_iload_n hx hb dX7_emptiestStack_57 rfl (lv_at hl 1 rfl) ?_
        obtain ⟨r5, hr6, hf⟩ := gbind hf
        have hr6 := C_X7_done l E x  hr6
        refine g_callVi (rest := []) hC hI hr6 Y_X7_done V_X7_done w1409 (rcv_X7 hC hI) ⟨rfl, rfl⟩ ⟨Nat.le_of_ble_eq_true rfl, Nat.le_of_ble_eq_true rfl⟩ rfl hl.1 rfl (Nat.le_of_ble_eq_true rfl) dX7_emptiestStack_58 ⟨Nat.le_of_ble_eq_true rfl, Nat.le_of_ble_eq_true rfl⟩ (fun H locs hI => ?_)
        exact kr _ _ _ _ _ _ (grw hf) hI ⟨.int, rfl, rfl⟩ dX7_emptiestStack_61
      · replace hf := gifn h4 hf
        refine lv_aload_n hx hb dX7_emptiestStack_27 rfl (lv_at hl 3 rfl) ?_
        refine lv_iload_n hx hb dX7_emptiestStack_28 rfl (lv_at hl 4 rfl) ?_
        refine lv_iload hx hb dX7_emptiestStack_29 (lv_at hl 0 rfl) ?_
        obtain ⟨r7, hr8, hf⟩ := gbind hf
        have hr8 := C_X7_height l E x  hr8
        refine g_callVi (rest := []) hC hI hr8 Y_X7_height V_X7_height w1428 (rcv_X7 hC hI) ⟨rfl, rfl⟩ ⟨Nat.le_of_ble_eq_true rfl, Nat.le_of_ble_eq_true rfl⟩ rfl hl.1 rfl (Nat.le_of_ble_eq_true rfl) dX7_emptiestStack_31 ⟨Nat.le_of_ble_eq_true rfl, Nat.le_of_ble_eq_true rfl⟩ (fun H locs hI => ?_)
        refine lv_aload_n hx hb dX7_emptiestStack_34 rfl (lv_at hl 3 rfl) ?_
        refine lv_iload_n hx hb dX7_emptiestStack_35 rfl (lv_at hl 4 rfl) ?_
        refine lv_iload_n hx hb dX7_emptiestStack_36 rfl (lv_at hl 1 rfl) ?_
        obtain ⟨r9, hr10, hf⟩ := gbind hf
        have hr10 := C_X7_height l E x  hr10
        refine g_callVi (rest := [.int r7]) hC hI hr10 Y_X7_height V_X7_height w1428 (rcv_X7 hC hI) ⟨rfl, rfl⟩ ⟨Nat.le_of_ble_eq_true rfl, Nat.le_of_ble_eq_true rfl⟩ rfl hl.1 rfl (Nat.le_of_ble_eq_true rfl) dX7_emptiestStack_37 ⟨Nat.le_of_ble_eq_true rfl, Nat.le_of_ble_eq_true rfl⟩ (fun H locs hI => ?_)
        refine lv_icmp_ge (tgt := 48) hx hb dX7_emptiestStack_40 rfl (fun h11 => ?_) (fun h11 => ?_)
        · replace hf := gif h11 hf
          refine lv_iload_n hx hb dX7_emptiestStack_48 rfl (lv_at hl 1 rfl) ?_
          refine lv_istore_n (lv' := [(3, .int v3), (4, .int v4), (2, .int v2), (0, .ref (E.2.1 150)), (1, .int v1)]) hx hb dX7_emptiestStack_49 rfl hl (by decide) rfl (fun ls hl => ?_)
          refine lv_iinc (k := 1) (v := v4 + 1) (lv' := [(4, .int (v4 + 1)), (3, .int v3), (2, .int v2), (0, .ref (E.2.1 150)), (1, .int v1)]) hx hb dX7_emptiestStack_50 hl rfl rfl (by decide) rfl (fun ls hl => ?_)
          refine lv_goto (tgt := 21) hx hb dX7_emptiestStack_53 rfl ?_
          exact ih (v4 + 1) v3 M hf _ _ _ hI (lv_sub hl [0, 1, 2, 3, 4] rfl)
        · replace hf := gifn h11 hf
          refine lv_iload hx hb dX7_emptiestStack_43 (lv_at hl 0 rfl) ?_
          refine lv_goto (tgt := 49) hx hb dX7_emptiestStack_45 rfl ?_
          refine lv_istore_n (lv' := [(3, .int v4), (4, .int v4), (2, .int v2), (0, .ref (E.2.1 150)), (1, .int v1)]) hx hb dX7_emptiestStack_49 rfl hl (by decide) rfl (fun ls hl => ?_)
          refine lv_iinc (k := 1) (v := v4 + 1) (lv' := [(4, .int (v4 + 1)), (3, .int v4), (2, .int v2), (0, .ref (E.2.1 150)), (1, .int v1)]) hx hb dX7_emptiestStack_50 hl rfl rfl (by decide) rfl (fun ls hl => ?_)
          refine lv_goto (tgt := 21) hx hb dX7_emptiestStack_53 rfl ?_
          exact ih (v4 + 1) v4 M hf _ _ _ hI (lv_sub hl [0, 1, 2, 3, 4] rfl)
  unfold f_X7_emptiestStack at hf
  refine lv_aload_n hx hb dX7_emptiestStack_0 rfl (lv_at hl 0 rfl) ?_
  refine lv_iload_n hx hb dX7_emptiestStack_1 rfl (lv_at hl 1 rfl) ?_
  obtain ⟨r1, hr2, hf⟩ := gbind hf
  have hr2 := C_X7_whyNoShip l E x  hr2
  refine g_callVi (rest := []) hC hI hr2 Y_X7_whyNoShip V_X7_whyNoShip w1537 (rcv_X7 hC hI) ⟨rfl, rfl⟩ ⟨Nat.le_of_ble_eq_true rfl, Nat.le_of_ble_eq_true rfl⟩ rfl hl.1 rfl (Nat.le_of_ble_eq_true rfl) dX7_emptiestStack_2 ⟨Nat.le_of_ble_eq_true rfl, Nat.le_of_ble_eq_true rfl⟩ (fun H locs hI => ?_)
  refine lv_istore_n (lv' := [(2, .int r1), (0, .ref (E.2.1 150)), (1, .int v1)]) hx hb dX7_emptiestStack_5 rfl hl (by decide) rfl (fun ls hl => ?_)
  refine lv_iload_n hx hb dX7_emptiestStack_6 rfl (lv_at hl 0 rfl) ?_
  refine lv_if_le (tgt := 16) hx hb dX7_emptiestStack_7 rfl (fun h3 => ?_) (fun h3 => ?_)
  · replace hf := gif h3 hf
    refine lv_iconst (v := 0) hx hb dX7_emptiestStack_16 (by decide) ?_
    refine lv_istore_n (lv' := [(3, .int 0), (2, .int r1), (0, .ref (E.2.1 150)), (1, .int v1)]) hx hb dX7_emptiestStack_17 rfl hl (by decide) rfl (fun ls hl => ?_)
    refine lv_iconst (v := 1) hx hb dX7_emptiestStack_18 (by decide) ?_
    refine lv_istore (lv' := [(4, .int 1), (3, .int 0), (2, .int r1), (0, .ref (E.2.1 150)), (1, .int v1)]) hx hb dX7_emptiestStack_19 hl (by decide) rfl (fun ls hl => ?_)
    exact L21 r1 v1 gF 1 0 M hf _ _ _ hI (lv_sub hl [0, 1, 2, 3, 4] rfl)
  · replace hf := gifn h3 hf
    refine lv_aload_n hx hb dX7_emptiestStack_10 rfl (lv_at hl 1 rfl) ?_
    refine lv_iload_n hx hb dX7_emptiestStack_11 rfl (lv_at hl 0 rfl) ?_
    obtain ⟨r12, hr13, hf⟩ := gbind hf
    have hr13 := C_X7_fails l E x  hr13
    refine g_callVi (rest := []) hC hI hr13 Y_X7_fails V_X7_fails w1401 (rcv_X7 hC hI) ⟨rfl, rfl⟩ ⟨Nat.le_of_ble_eq_true rfl, Nat.le_of_ble_eq_true rfl⟩ rfl hl.1 rfl (Nat.le_of_ble_eq_true rfl) dX7_emptiestStack_12 ⟨Nat.le_of_ble_eq_true rfl, Nat.le_of_ble_eq_true rfl⟩ (fun H locs hI => ?_)
    exact kr _ _ _ _ _ _ (grw hf) hI ⟨.int, rfl, rfl⟩ dX7_emptiestStack_15
theorem dX7_heavyOverLight_0 : decode cX7_heavyOverLight 0 = .ok (.aload_n 0, 1) := by decide +kernel
theorem dX7_heavyOverLight_1 : decode cX7_heavyOverLight 1 = .ok (.iload_n 1, 1) := by decide +kernel
theorem dX7_heavyOverLight_2 : decode cX7_heavyOverLight 2 = .ok (.iload_n 2, 1) := by decide +kernel
theorem dX7_heavyOverLight_3 : decode cX7_heavyOverLight 3 = .ok (.invokevirtual 158, 3) := by decide +kernel
theorem dX7_heavyOverLight_6 : decode cX7_heavyOverLight 6 = .ok (.istore_n 3, 1) := by decide +kernel
theorem dX7_heavyOverLight_7 : decode cX7_heavyOverLight 7 = .ok (.iload_n 3, 1) := by decide +kernel
theorem dX7_heavyOverLight_8 : decode cX7_heavyOverLight 8 = .ok (.ifCond .le 9, 3) := by decide +kernel
theorem dX7_heavyOverLight_11 : decode cX7_heavyOverLight 11 = .ok (.aload_n 0, 1) := by decide +kernel
theorem dX7_heavyOverLight_12 : decode cX7_heavyOverLight 12 = .ok (.iload_n 3, 1) := by decide +kernel
theorem dX7_heavyOverLight_13 : decode cX7_heavyOverLight 13 = .ok (.invokevirtual 67, 3) := by decide +kernel
theorem dX7_heavyOverLight_16 : decode cX7_heavyOverLight 16 = .ok (.ireturn, 1) := by decide +kernel
theorem dX7_heavyOverLight_17 : decode cX7_heavyOverLight 17 = .ok (.iconst 0, 1) := by decide +kernel
theorem dX7_heavyOverLight_18 : decode cX7_heavyOverLight 18 = .ok (.istore 4, 2) := by decide +kernel
theorem dX7_heavyOverLight_20 : decode cX7_heavyOverLight 20 = .ok (.iconst 0, 1) := by decide +kernel
theorem dX7_heavyOverLight_21 : decode cX7_heavyOverLight 21 = .ok (.istore 5, 2) := by decide +kernel
theorem dX7_heavyOverLight_23 : decode cX7_heavyOverLight 23 = .ok (.iload 5, 2) := by decide +kernel
theorem dX7_heavyOverLight_25 : decode cX7_heavyOverLight 25 = .ok (.aload_n 0, 1) := by decide +kernel
theorem dX7_heavyOverLight_26 : decode cX7_heavyOverLight 26 = .ok (.iload_n 1, 1) := by decide +kernel
theorem dX7_heavyOverLight_27 : decode cX7_heavyOverLight 27 = .ok (.iload_n 2, 1) := by decide +kernel
theorem dX7_heavyOverLight_28 : decode cX7_heavyOverLight 28 = .ok (.invokevirtual 63, 3) := by decide +kernel
theorem dX7_heavyOverLight_31 : decode cX7_heavyOverLight 31 = .ok (.if_icmp .ge 68, 3) := by decide +kernel
theorem dX7_heavyOverLight_34 : decode cX7_heavyOverLight 34 = .ok (.iconst 0, 1) := by decide +kernel
theorem dX7_heavyOverLight_35 : decode cX7_heavyOverLight 35 = .ok (.istore 6, 2) := by decide +kernel
theorem dX7_heavyOverLight_37 : decode cX7_heavyOverLight 37 = .ok (.iload 6, 2) := by decide +kernel
theorem dX7_heavyOverLight_39 : decode cX7_heavyOverLight 39 = .ok (.iload 5, 2) := by decide +kernel
theorem dX7_heavyOverLight_41 : decode cX7_heavyOverLight 41 = .ok (.if_icmp .ge 52, 3) := by decide +kernel
theorem dX7_heavyOverLight_44 : decode cX7_heavyOverLight 44 = .ok (.iload 4, 2) := by decide +kernel
theorem dX7_heavyOverLight_46 : decode cX7_heavyOverLight 46 = .ok (.aload_n 0, 1) := by decide +kernel
theorem dX7_heavyOverLight_47 : decode cX7_heavyOverLight 47 = .ok (.getfield 7, 3) := by decide +kernel
theorem dX7_heavyOverLight_50 : decode cX7_heavyOverLight 50 = .ok (.bipush 94, 2) := by decide +kernel
theorem dX7_heavyOverLight_52 : decode cX7_heavyOverLight 52 = .ok (.iload_n 1, 1) := by decide +kernel
theorem dX7_heavyOverLight_53 : decode cX7_heavyOverLight 53 = .ok (.iload_n 2, 1) := by decide +kernel
theorem dX7_heavyOverLight_54 : decode cX7_heavyOverLight 54 = .ok (.iload 5, 2) := by decide +kernel
theorem dX7_heavyOverLight_56 : decode cX7_heavyOverLight 56 = .ok (.invokestatic 92, 3) := by decide +kernel
theorem dX7_heavyOverLight_59 : decode cX7_heavyOverLight 59 = .ok (.iadd, 1) := by decide +kernel
theorem dX7_heavyOverLight_60 : decode cX7_heavyOverLight 60 = .ok (.iaload, 1) := by decide +kernel
theorem dX7_heavyOverLight_61 : decode cX7_heavyOverLight 61 = .ok (.aload_n 0, 1) := by decide +kernel
theorem dX7_heavyOverLight_62 : decode cX7_heavyOverLight 62 = .ok (.getfield 7, 3) := by decide +kernel
theorem dX7_heavyOverLight_65 : decode cX7_heavyOverLight 65 = .ok (.bipush 94, 2) := by decide +kernel
theorem dX7_heavyOverLight_67 : decode cX7_heavyOverLight 67 = .ok (.iload_n 1, 1) := by decide +kernel
theorem dX7_heavyOverLight_68 : decode cX7_heavyOverLight 68 = .ok (.iload_n 2, 1) := by decide +kernel
theorem dX7_heavyOverLight_69 : decode cX7_heavyOverLight 69 = .ok (.iload 6, 2) := by decide +kernel
theorem dX7_heavyOverLight_71 : decode cX7_heavyOverLight 71 = .ok (.invokestatic 92, 3) := by decide +kernel
theorem dX7_heavyOverLight_74 : decode cX7_heavyOverLight 74 = .ok (.iadd, 1) := by decide +kernel
theorem dX7_heavyOverLight_75 : decode cX7_heavyOverLight 75 = .ok (.iaload, 1) := by decide +kernel
theorem dX7_heavyOverLight_76 : decode cX7_heavyOverLight 76 = .ok (.if_icmp .le 7, 3) := by decide +kernel
theorem dX7_heavyOverLight_79 : decode cX7_heavyOverLight 79 = .ok (.iconst 1, 1) := by decide +kernel
theorem dX7_heavyOverLight_80 : decode cX7_heavyOverLight 80 = .ok (.goto 4, 3) := by decide +kernel
theorem dX7_heavyOverLight_83 : decode cX7_heavyOverLight 83 = .ok (.iconst 0, 1) := by decide +kernel
theorem dX7_heavyOverLight_84 : decode cX7_heavyOverLight 84 = .ok (.iadd, 1) := by decide +kernel
theorem dX7_heavyOverLight_85 : decode cX7_heavyOverLight 85 = .ok (.istore 4, 2) := by decide +kernel
theorem dX7_heavyOverLight_87 : decode cX7_heavyOverLight 87 = .ok (.iinc 6 1, 3) := by decide +kernel
theorem dX7_heavyOverLight_90 : decode cX7_heavyOverLight 90 = .ok (.goto (-53), 3) := by decide +kernel
theorem dX7_heavyOverLight_93 : decode cX7_heavyOverLight 93 = .ok (.iinc 5 1, 3) := by decide +kernel
theorem dX7_heavyOverLight_96 : decode cX7_heavyOverLight 96 = .ok (.goto (-73), 3) := by decide +kernel
theorem dX7_heavyOverLight_99 : decode cX7_heavyOverLight 99 = .ok (.aload_n 0, 1) := by decide +kernel
theorem dX7_heavyOverLight_100 : decode cX7_heavyOverLight 100 = .ok (.iload 4, 2) := by decide +kernel
theorem dX7_heavyOverLight_102 : decode cX7_heavyOverLight 102 = .ok (.invokevirtual 75, 3) := by decide +kernel
theorem dX7_heavyOverLight_105 : decode cX7_heavyOverLight 105 = .ok (.ireturn, 1) := by decide +kernel
set_option maxRecDepth 100000 in
set_option maxHeartbeats 4000000 in
theorem C_X7_heavyOverLight (l : Launch) (E : gE) (x : gX) {v1 v2 : Int32} {M : gM} {r : Int32} {M' : gM} (hf : f_X7_heavyOverLight v1 v2 M = some (r, M')) : gM0 l E yX7_heavyOverLight (.code yX7_heavyOverLight cX7_heavyOverLight 7 (some .int)) (gR 4 85) M x [.ref (E.2.1 150), .int v1, .int v2] (some (.int r)) M' := by
  refine gMet (by decide +kernel) (Nat.le_of_ble_eq_true rfl) ?_
  intro p e s m args below meth c H locs ls Q hC hl hI kr kv
  replace hC : gC p s m args c cX7_heavyOverLight 7 RX7 E := hC
  replace hl : lv_has ls 7 [(0, .ref (E.2.1 150)), (1, .int v1), (2, .int v2)] := hl
  have hx := hC.1
  have hb := hC.2.1
  have L37 : ∀ (v5 : Int32) (v3 : Int32) (v1 : Int32) (v2 : Int32) (n : Nat) (v6 : Int32) (v4 : Int32) (M : gM) (q : Int32 × Int32 × gM), f_X7_heavyOverLight_L37 v5 v3 v1 v2 n v6 v4 M = some q → ∀ (H : Heap) (locs : List Loc) (ls : Array Slot), gI E s M x H locs → lv_has ls 7 [(6, .int v6), (5, .int v5), (4, .int v4), (3, .int v3), (0, .ref (E.2.1 150)), (1, .int v1), (2, .int v2)] → (∀ (H : Heap) (locs : List Loc) (ls : Array Slot), gI E s q.2.2 x H locs → lv_has ls 7 [(6, .int q.1), (5, .int v5), (4, .int q.2.1), (3, .int v3), (0, .ref (E.2.1 150)), (1, .int v1), (2, .int v2)] → W p l e (gR 4 85) s m args below meth c H locs 0 0 Q (F0 m 93 ls [])) → W p l e (gR 4 85) s m args below meth c H locs 0 0 Q (F0 m 37 ls []) := by
    intro v5 v3 v1 v2 n
    induction n with
    | zero => intro v6 v4 M q hf; rw [f_X7_heavyOverLight_L37] at hf; cases hf
    | succ n ih =>
      intro v6 v4 M q hf H locs ls hI hl hk
      rw [f_X7_heavyOverLight_L37] at hf
      refine lv_iload hx hb dX7_heavyOverLight_37 (lv_at hl 0 rfl) ?_
      refine lv_iload hx hb dX7_heavyOverLight_39 (lv_at hl 1 rfl) ?_
      refine lv_icmp_ge (tgt := 93) hx hb dX7_heavyOverLight_41 rfl (fun h9 => ?_) (fun h9 => ?_)
      · replace hf := gif h9 hf
        obtain rfl := Option.some.inj hf
        exact hk _ _ _ hI (lv_sub hl [0, 1, 2, 3, 4, 5, 6] rfl)
      · replace hf := gifn h9 hf
        refine lv_iload hx hb dX7_heavyOverLight_44 (lv_at hl 2 rfl) ?_
        refine lv_aload_n hx hb dX7_heavyOverLight_46 rfl (lv_at hl 4 rfl) ?_
        refine gt_X7_X7_g hC hI dX7_heavyOverLight_47 ?_
        refine lv_bipush (v := 94) hx hb dX7_heavyOverLight_50 (by decide) ?_
        refine lv_iload_n hx hb dX7_heavyOverLight_52 rfl (lv_at hl 5 rfl) ?_
        refine lv_iload_n hx hb dX7_heavyOverLight_53 rfl (lv_at hl 6 rfl) ?_
        refine lv_iload hx hb dX7_heavyOverLight_54 (lv_at hl 1 rfl) ?_
        obtain ⟨r10, hr11, hf⟩ := gbind hf
        have hr11 := C_X7_cell l E x  hr11
        refine g_callSi (rest := [.int 94, .ref (E.2.1 151), .int v4]) hC hI hr11 Y_X7_cell S_X7_cell w1432 ⟨rfl, rfl⟩ ⟨Nat.le_of_ble_eq_true rfl, Nat.le_of_ble_eq_true rfl⟩ rfl hl.1 rfl (Nat.le_of_ble_eq_true rfl) dX7_heavyOverLight_56 ⟨Nat.le_of_ble_eq_true rfl, Nat.le_of_ble_eq_true rfl⟩ (fun H locs hI => ?_)
        refine lv_iadd hx hb dX7_heavyOverLight_59 ?_
        obtain ⟨h12, hf⟩ := gifN hf
        refine g_iald hC hI (k := (94 + r10).toNatClampNeg) gIA_151 h12 rfl dX7_heavyOverLight_60 ?_
        refine lv_aload_n hx hb dX7_heavyOverLight_61 rfl (lv_at hl 4 rfl) ?_
        refine gt_X7_X7_g hC hI dX7_heavyOverLight_62 ?_
        refine lv_bipush (v := 94) hx hb dX7_heavyOverLight_65 (by decide) ?_
        refine lv_iload_n hx hb dX7_heavyOverLight_67 rfl (lv_at hl 5 rfl) ?_
        refine lv_iload_n hx hb dX7_heavyOverLight_68 rfl (lv_at hl 6 rfl) ?_
        refine lv_iload hx hb dX7_heavyOverLight_69 (lv_at hl 0 rfl) ?_
        obtain ⟨r13, hr14, hf⟩ := gbind hf
        have hr14 := C_X7_cell l E x  hr14
        refine g_callSi (rest := [.int 94, .ref (E.2.1 151), .int (M 151 ((94 + r10).toNatClampNeg)), .int v4]) hC hI hr14 Y_X7_cell S_X7_cell w1432 ⟨rfl, rfl⟩ ⟨Nat.le_of_ble_eq_true rfl, Nat.le_of_ble_eq_true rfl⟩ rfl hl.1 rfl (Nat.le_of_ble_eq_true rfl) dX7_heavyOverLight_71 ⟨Nat.le_of_ble_eq_true rfl, Nat.le_of_ble_eq_true rfl⟩ (fun H locs hI => ?_)
        refine lv_iadd hx hb dX7_heavyOverLight_74 ?_
        obtain ⟨h15, hf⟩ := gifN hf
        refine g_iald hC hI (k := (94 + r13).toNatClampNeg) gIA_151 h15 rfl dX7_heavyOverLight_75 ?_
        refine lv_icmp_le (tgt := 83) hx hb dX7_heavyOverLight_76 rfl (fun h16 => ?_) (fun h16 => ?_)
        · replace hf := gif h16 hf
          refine lv_iconst (v := 0) hx hb dX7_heavyOverLight_83 (by decide) ?_
          refine lv_iadd hx hb dX7_heavyOverLight_84 ?_
          obtain ⟨z17, ez17, hf⟩ := glet hf
          refine g_top ez17 ?_
          refine lv_istore (lv' := [(4, .int z17), (6, .int v6), (5, .int v5), (3, .int v3), (0, .ref (E.2.1 150)), (1, .int v1), (2, .int v2)]) hx hb dX7_heavyOverLight_85 hl (by decide) rfl (fun ls hl => ?_)
          refine lv_iinc (k := 1) (v := v6 + 1) (lv' := [(6, .int (v6 + 1)), (4, .int z17), (5, .int v5), (3, .int v3), (0, .ref (E.2.1 150)), (1, .int v1), (2, .int v2)]) hx hb dX7_heavyOverLight_87 hl rfl rfl (by decide) rfl (fun ls hl => ?_)
          refine lv_goto (tgt := 37) hx hb dX7_heavyOverLight_90 rfl ?_
          exact ih (v6 + 1) z17 M _ hf _ _ _ hI (lv_sub hl [0, 2, 1, 3, 4, 5, 6] rfl) hk
        · replace hf := gifn h16 hf
          refine lv_iconst (v := 1) hx hb dX7_heavyOverLight_79 (by decide) ?_
          refine lv_goto (tgt := 84) hx hb dX7_heavyOverLight_80 rfl ?_
          refine lv_iadd hx hb dX7_heavyOverLight_84 ?_
          obtain ⟨z18, ez18, hf⟩ := glet hf
          refine g_top ez18 ?_
          refine lv_istore (lv' := [(4, .int z18), (6, .int v6), (5, .int v5), (3, .int v3), (0, .ref (E.2.1 150)), (1, .int v1), (2, .int v2)]) hx hb dX7_heavyOverLight_85 hl (by decide) rfl (fun ls hl => ?_)
          refine lv_iinc (k := 1) (v := v6 + 1) (lv' := [(6, .int (v6 + 1)), (4, .int z18), (5, .int v5), (3, .int v3), (0, .ref (E.2.1 150)), (1, .int v1), (2, .int v2)]) hx hb dX7_heavyOverLight_87 hl rfl rfl (by decide) rfl (fun ls hl => ?_)
          refine lv_goto (tgt := 37) hx hb dX7_heavyOverLight_90 rfl ?_
          exact ih (v6 + 1) z18 M _ hf _ _ _ hI (lv_sub hl [0, 2, 1, 3, 4, 5, 6] rfl) hk
  have L23 : ∀ (v3 : Int32) (v1 : Int32) (v2 : Int32) (n : Nat) (v5 : Int32) (v4 : Int32) (M : gM), f_X7_heavyOverLight_L23 v3 v1 v2 n v5 v4 M = some (r, M') → ∀ (H : Heap) (locs : List Loc) (ls : Array Slot), gI E s M x H locs → lv_has ls 7 [(5, .int v5), (4, .int v4), (3, .int v3), (0, .ref (E.2.1 150)), (1, .int v1), (2, .int v2)] → W p l e (gR 4 85) s m args below meth c H locs 0 0 Q (F0 m 23 ls []) := by
    intro v3 v1 v2 n
    induction n with
    | zero => intro v5 v4 M hf; rw [f_X7_heavyOverLight_L23] at hf; cases hf
    | succ n ih =>
      intro v5 v4 M hf H locs ls hI hl
      rw [f_X7_heavyOverLight_L23] at hf
      refine lv_iload hx hb dX7_heavyOverLight_23 (lv_at hl 0 rfl) ?_
      refine lv_aload_n hx hb dX7_heavyOverLight_25 rfl (lv_at hl 3 rfl) ?_
      refine lv_iload_n hx hb dX7_heavyOverLight_26 rfl (lv_at hl 4 rfl) ?_
      refine lv_iload_n hx hb dX7_heavyOverLight_27 rfl (lv_at hl 5 rfl) ?_
      obtain ⟨r4, hr5, hf⟩ := gbind hf
      have hr5 := C_X7_height l E x  hr5
      refine g_callVi (rest := [.int v5]) hC hI hr5 Y_X7_height V_X7_height w1428 (rcv_X7 hC hI) ⟨rfl, rfl⟩ ⟨Nat.le_of_ble_eq_true rfl, Nat.le_of_ble_eq_true rfl⟩ rfl hl.1 rfl (Nat.le_of_ble_eq_true rfl) dX7_heavyOverLight_28 ⟨Nat.le_of_ble_eq_true rfl, Nat.le_of_ble_eq_true rfl⟩ (fun H locs hI => ?_)
      refine lv_icmp_ge (tgt := 99) hx hb dX7_heavyOverLight_31 rfl (fun h6 => ?_) (fun h6 => ?_)
      · replace hf := gif h6 hf
        refine lv_aload_n hx hb dX7_heavyOverLight_99 rfl (lv_at hl 3 rfl) ?_
        refine lv_iload hx hb dX7_heavyOverLight_100 (lv_at hl 1 rfl) ?_
        obtain ⟨r7, hr8, hf⟩ := gbind hf
        have hr8 := C_X7_done l E x  hr8
        refine g_callVi (rest := []) hC hI hr8 Y_X7_done V_X7_done w1409 (rcv_X7 hC hI) ⟨rfl, rfl⟩ ⟨Nat.le_of_ble_eq_true rfl, Nat.le_of_ble_eq_true rfl⟩ rfl hl.1 rfl (Nat.le_of_ble_eq_true rfl) dX7_heavyOverLight_102 ⟨Nat.le_of_ble_eq_true rfl, Nat.le_of_ble_eq_true rfl⟩ (fun H locs hI => ?_)
        exact kr _ _ _ _ _ _ (grw hf) hI ⟨.int, rfl, rfl⟩ dX7_heavyOverLight_105
      · replace hf := gifn h6 hf
        refine lv_iconst (v := 0) hx hb dX7_heavyOverLight_34 (by decide) ?_
        refine lv_istore (lv' := [(6, .int 0), (5, .int v5), (4, .int v4), (3, .int v3), (0, .ref (E.2.1 150)), (1, .int v1), (2, .int v2)]) hx hb dX7_heavyOverLight_35 hl (by decide) rfl (fun ls hl => ?_)
        obtain ⟨q19, hq19, hf⟩ := gbind hf
        refine L37 v5 v3 v1 v2 gF 0 v4 M q19 hq19 _ _ _ hI (lv_sub hl [0, 1, 2, 3, 4, 5, 6] rfl) (fun H locs ls hI hl => ?_)
        try simp only at hI hl
        refine lv_iinc (k := 1) (v := v5 + 1) (lv' := [(5, .int (v5 + 1)), (6, .int q19.1), (4, .int q19.2.1), (3, .int v3), (0, .ref (E.2.1 150)), (1, .int v1), (2, .int v2)]) hx hb dX7_heavyOverLight_93 hl rfl rfl (by decide) rfl (fun ls hl => ?_)
        refine lv_goto (tgt := 23) hx hb dX7_heavyOverLight_96 rfl ?_
        exact ih (v5 + 1) q19.2.1 q19.2.2 hf _ _ _ hI (lv_sub hl [0, 2, 3, 4, 5, 6] rfl)
  unfold f_X7_heavyOverLight at hf
  refine lv_aload_n hx hb dX7_heavyOverLight_0 rfl (lv_at hl 0 rfl) ?_
  refine lv_iload_n hx hb dX7_heavyOverLight_1 rfl (lv_at hl 1 rfl) ?_
  refine lv_iload_n hx hb dX7_heavyOverLight_2 rfl (lv_at hl 2 rfl) ?_
  obtain ⟨r1, hr2, hf⟩ := gbind hf
  have hr2 := C_X7_whyNoStack l E x  hr2
  refine g_callVi (rest := []) hC hI hr2 Y_X7_whyNoStack V_X7_whyNoStack w1582 (rcv_X7 hC hI) ⟨rfl, rfl⟩ ⟨Nat.le_of_ble_eq_true rfl, Nat.le_of_ble_eq_true rfl⟩ rfl hl.1 rfl (Nat.le_of_ble_eq_true rfl) dX7_heavyOverLight_3 ⟨Nat.le_of_ble_eq_true rfl, Nat.le_of_ble_eq_true rfl⟩ (fun H locs hI => ?_)
  refine lv_istore_n (lv' := [(3, .int r1), (0, .ref (E.2.1 150)), (1, .int v1), (2, .int v2)]) hx hb dX7_heavyOverLight_6 rfl hl (by decide) rfl (fun ls hl => ?_)
  refine lv_iload_n hx hb dX7_heavyOverLight_7 rfl (lv_at hl 0 rfl) ?_
  refine lv_if_le (tgt := 17) hx hb dX7_heavyOverLight_8 rfl (fun h3 => ?_) (fun h3 => ?_)
  · replace hf := gif h3 hf
    refine lv_iconst (v := 0) hx hb dX7_heavyOverLight_17 (by decide) ?_
    refine lv_istore (lv' := [(4, .int 0), (3, .int r1), (0, .ref (E.2.1 150)), (1, .int v1), (2, .int v2)]) hx hb dX7_heavyOverLight_18 hl (by decide) rfl (fun ls hl => ?_)
    refine lv_iconst (v := 0) hx hb dX7_heavyOverLight_20 (by decide) ?_
    refine lv_istore (lv' := [(5, .int 0), (4, .int 0), (3, .int r1), (0, .ref (E.2.1 150)), (1, .int v1), (2, .int v2)]) hx hb dX7_heavyOverLight_21 hl (by decide) rfl (fun ls hl => ?_)
    exact L23 r1 v1 v2 gF 0 0 M hf _ _ _ hI (lv_sub hl [0, 1, 2, 3, 4, 5] rfl)
  · replace hf := gifn h3 hf
    refine lv_aload_n hx hb dX7_heavyOverLight_11 rfl (lv_at hl 1 rfl) ?_
    refine lv_iload_n hx hb dX7_heavyOverLight_12 rfl (lv_at hl 0 rfl) ?_
    obtain ⟨r20, hr21, hf⟩ := gbind hf
    have hr21 := C_X7_fails l E x  hr21
    refine g_callVi (rest := []) hC hI hr21 Y_X7_fails V_X7_fails w1401 (rcv_X7 hC hI) ⟨rfl, rfl⟩ ⟨Nat.le_of_ble_eq_true rfl, Nat.le_of_ble_eq_true rfl⟩ rfl hl.1 rfl (Nat.le_of_ble_eq_true rfl) dX7_heavyOverLight_13 ⟨Nat.le_of_ble_eq_true rfl, Nat.le_of_ble_eq_true rfl⟩ (fun H locs hI => ?_)
    exact kr _ _ _ _ _ _ (grw hf) hI ⟨.int, rfl, rfl⟩ dX7_heavyOverLight_16
theorem dX7_countOf_0 : decode cX7_countOf 0 = .ok (.iconst 0, 1) := by decide +kernel
theorem dX7_countOf_1 : decode cX7_countOf 1 = .ok (.istore_n 3, 1) := by decide +kernel
theorem dX7_countOf_2 : decode cX7_countOf 2 = .ok (.iconst 0, 1) := by decide +kernel
theorem dX7_countOf_3 : decode cX7_countOf 3 = .ok (.istore 4, 2) := by decide +kernel
theorem dX7_countOf_5 : decode cX7_countOf 5 = .ok (.iload 4, 2) := by decide +kernel
theorem dX7_countOf_7 : decode cX7_countOf 7 = .ok (.bipush 60, 2) := by decide +kernel
theorem dX7_countOf_9 : decode cX7_countOf 9 = .ok (.if_icmp .ge 59, 3) := by decide +kernel
theorem dX7_countOf_12 : decode cX7_countOf 12 = .ok (.iload_n 3, 1) := by decide +kernel
theorem dX7_countOf_13 : decode cX7_countOf 13 = .ok (.aload_n 0, 1) := by decide +kernel
theorem dX7_countOf_14 : decode cX7_countOf 14 = .ok (.iload 4, 2) := by decide +kernel
theorem dX7_countOf_16 : decode cX7_countOf 16 = .ok (.invokevirtual 60, 3) := by decide +kernel
theorem dX7_countOf_19 : decode cX7_countOf 19 = .ok (.ifCond .eq 40, 3) := by decide +kernel
theorem dX7_countOf_22 : decode cX7_countOf 22 = .ok (.aload_n 0, 1) := by decide +kernel
theorem dX7_countOf_23 : decode cX7_countOf 23 = .ok (.getfield 7, 3) := by decide +kernel
theorem dX7_countOf_26 : decode cX7_countOf 26 = .ok (.sipush 154, 3) := by decide +kernel
theorem dX7_countOf_29 : decode cX7_countOf 29 = .ok (.iload 4, 2) := by decide +kernel
theorem dX7_countOf_31 : decode cX7_countOf 31 = .ok (.iadd, 1) := by decide +kernel
theorem dX7_countOf_32 : decode cX7_countOf 32 = .ok (.iaload, 1) := by decide +kernel
theorem dX7_countOf_33 : decode cX7_countOf 33 = .ok (.iload_n 1, 1) := by decide +kernel
theorem dX7_countOf_34 : decode cX7_countOf 34 = .ok (.if_icmp .ne 25, 3) := by decide +kernel
theorem dX7_countOf_37 : decode cX7_countOf 37 = .ok (.iload_n 2, 1) := by decide +kernel
theorem dX7_countOf_38 : decode cX7_countOf 38 = .ok (.ifCond .eq 17, 3) := by decide +kernel
theorem dX7_countOf_41 : decode cX7_countOf 41 = .ok (.aload_n 0, 1) := by decide +kernel
theorem dX7_countOf_42 : decode cX7_countOf 42 = .ok (.getfield 7, 3) := by decide +kernel
theorem dX7_countOf_45 : decode cX7_countOf 45 = .ok (.bipush 94, 2) := by decide +kernel
theorem dX7_countOf_47 : decode cX7_countOf 47 = .ok (.iload 4, 2) := by decide +kernel
theorem dX7_countOf_49 : decode cX7_countOf 49 = .ok (.iadd, 1) := by decide +kernel
theorem dX7_countOf_50 : decode cX7_countOf 50 = .ok (.iaload, 1) := by decide +kernel
theorem dX7_countOf_51 : decode cX7_countOf 51 = .ok (.iload_n 2, 1) := by decide +kernel
theorem dX7_countOf_52 : decode cX7_countOf 52 = .ok (.if_icmp .ne 7, 3) := by decide +kernel
theorem dX7_countOf_55 : decode cX7_countOf 55 = .ok (.iconst 1, 1) := by decide +kernel
theorem dX7_countOf_56 : decode cX7_countOf 56 = .ok (.goto 4, 3) := by decide +kernel
theorem dX7_countOf_59 : decode cX7_countOf 59 = .ok (.iconst 0, 1) := by decide +kernel
theorem dX7_countOf_60 : decode cX7_countOf 60 = .ok (.iadd, 1) := by decide +kernel
theorem dX7_countOf_61 : decode cX7_countOf 61 = .ok (.istore_n 3, 1) := by decide +kernel
theorem dX7_countOf_62 : decode cX7_countOf 62 = .ok (.iinc 4 1, 3) := by decide +kernel
theorem dX7_countOf_65 : decode cX7_countOf 65 = .ok (.goto (-60), 3) := by decide +kernel
theorem dX7_countOf_68 : decode cX7_countOf 68 = .ok (.iconst 0, 1) := by decide +kernel
theorem dX7_countOf_69 : decode cX7_countOf 69 = .ok (.istore 4, 2) := by decide +kernel
theorem dX7_countOf_71 : decode cX7_countOf 71 = .ok (.iload 4, 2) := by decide +kernel
theorem dX7_countOf_73 : decode cX7_countOf 73 = .ok (.aload_n 0, 1) := by decide +kernel
theorem dX7_countOf_74 : decode cX7_countOf 74 = .ok (.getfield 7, 3) := by decide +kernel
theorem dX7_countOf_77 : decode cX7_countOf 77 = .ok (.bipush 6, 2) := by decide +kernel
theorem dX7_countOf_79 : decode cX7_countOf 79 = .ok (.iaload, 1) := by decide +kernel
theorem dX7_countOf_80 : decode cX7_countOf 80 = .ok (.if_icmp .ge 51, 3) := by decide +kernel
theorem dX7_countOf_83 : decode cX7_countOf 83 = .ok (.iload_n 3, 1) := by decide +kernel
theorem dX7_countOf_84 : decode cX7_countOf 84 = .ok (.aload_n 0, 1) := by decide +kernel
theorem dX7_countOf_85 : decode cX7_countOf 85 = .ok (.getfield 7, 3) := by decide +kernel
theorem dX7_countOf_88 : decode cX7_countOf 88 = .ok (.sipush 244, 3) := by decide +kernel
theorem dX7_countOf_91 : decode cX7_countOf 91 = .ok (.iload 4, 2) := by decide +kernel
theorem dX7_countOf_93 : decode cX7_countOf 93 = .ok (.iadd, 1) := by decide +kernel
theorem dX7_countOf_94 : decode cX7_countOf 94 = .ok (.iaload, 1) := by decide +kernel
theorem dX7_countOf_95 : decode cX7_countOf 95 = .ok (.iload_n 1, 1) := by decide +kernel
theorem dX7_countOf_96 : decode cX7_countOf 96 = .ok (.if_icmp .ne 26, 3) := by decide +kernel
theorem dX7_countOf_99 : decode cX7_countOf 99 = .ok (.iload_n 2, 1) := by decide +kernel
theorem dX7_countOf_100 : decode cX7_countOf 100 = .ok (.ifCond .eq 18, 3) := by decide +kernel
theorem dX7_countOf_103 : decode cX7_countOf 103 = .ok (.aload_n 0, 1) := by decide +kernel
theorem dX7_countOf_104 : decode cX7_countOf 104 = .ok (.getfield 7, 3) := by decide +kernel
theorem dX7_countOf_107 : decode cX7_countOf 107 = .ok (.sipush 229, 3) := by decide +kernel
theorem dX7_countOf_110 : decode cX7_countOf 110 = .ok (.iload 4, 2) := by decide +kernel
theorem dX7_countOf_112 : decode cX7_countOf 112 = .ok (.iadd, 1) := by decide +kernel
theorem dX7_countOf_113 : decode cX7_countOf 113 = .ok (.iaload, 1) := by decide +kernel
theorem dX7_countOf_114 : decode cX7_countOf 114 = .ok (.iload_n 2, 1) := by decide +kernel
theorem dX7_countOf_115 : decode cX7_countOf 115 = .ok (.if_icmp .ne 7, 3) := by decide +kernel
theorem dX7_countOf_118 : decode cX7_countOf 118 = .ok (.iconst 1, 1) := by decide +kernel
theorem dX7_countOf_119 : decode cX7_countOf 119 = .ok (.goto 4, 3) := by decide +kernel
theorem dX7_countOf_122 : decode cX7_countOf 122 = .ok (.iconst 0, 1) := by decide +kernel
theorem dX7_countOf_123 : decode cX7_countOf 123 = .ok (.iadd, 1) := by decide +kernel
theorem dX7_countOf_124 : decode cX7_countOf 124 = .ok (.istore_n 3, 1) := by decide +kernel
theorem dX7_countOf_125 : decode cX7_countOf 125 = .ok (.iinc 4 1, 3) := by decide +kernel
theorem dX7_countOf_128 : decode cX7_countOf 128 = .ok (.goto (-57), 3) := by decide +kernel
theorem dX7_countOf_131 : decode cX7_countOf 131 = .ok (.iload_n 3, 1) := by decide +kernel
theorem dX7_countOf_132 : decode cX7_countOf 132 = .ok (.ireturn, 1) := by decide +kernel
set_option maxRecDepth 100000 in
set_option maxHeartbeats 4000000 in
theorem C_X7_countOf (l : Launch) (E : gE) (x : gX) {v1 v2 : Int32} {M : gM} {r : Int32} (hf : f_X7_countOf v1 v2 M = some r) : gM0 l E yX7_countOf (.code yX7_countOf cX7_countOf 5 (some .int)) (gR 1 21) M x [.ref (E.2.1 150), .int v1, .int v2] (some (.int r)) M := by
  refine gMet (by decide +kernel) (Nat.le_of_ble_eq_true rfl) ?_
  intro p e s m args below meth c H locs ls Q hC hl hI kr kv
  replace hC : gC p s m args c cX7_countOf 5 RX7 E := hC
  replace hl : lv_has ls 5 [(0, .ref (E.2.1 150)), (1, .int v1), (2, .int v2)] := hl
  have hx := hC.1
  have hb := hC.2.1
  have L71 : ∀ (v1 : Int32) (v2 : Int32) (n : Nat) (v4 : Int32) (v3 : Int32), f_X7_countOf_L71 M v1 v2 n v4 v3 = some r → ∀ (H : Heap) (locs : List Loc) (ls : Array Slot), gI E s M x H locs → lv_has ls 5 [(4, .int v4), (3, .int v3), (0, .ref (E.2.1 150)), (1, .int v1), (2, .int v2)] → W p l e (gR 1 21) s m args below meth c H locs 0 0 Q (F0 m 71 ls []) := by
    intro v1 v2 n
    induction n with
    | zero => intro v4 v3 hf; rw [f_X7_countOf_L71] at hf; cases hf
    | succ n ih =>
      intro v4 v3 hf H locs ls hI hl
      rw [f_X7_countOf_L71] at hf
      refine lv_iload hx hb dX7_countOf_71 (lv_at hl 0 rfl) ?_
      refine lv_aload_n hx hb dX7_countOf_73 rfl (lv_at hl 2 rfl) ?_
      refine gt_X7_X7_g hC hI dX7_countOf_74 ?_
      refine lv_bipush (v := 6) hx hb dX7_countOf_77 (by decide) ?_
      refine g_iald hC hI (k := 6) gIA_151 (by decide) rfl dX7_countOf_79 ?_
      refine lv_icmp_ge (tgt := 131) hx hb dX7_countOf_80 rfl (fun h2 => ?_) (fun h2 => ?_)
      · replace hf := gif h2 hf
        refine lv_iload_n hx hb dX7_countOf_131 rfl (lv_at hl 1 rfl) ?_
        exact kr _ _ _ _ _ _ (gri hf) hI ⟨.int, rfl, rfl⟩ dX7_countOf_132
      · replace hf := gifn h2 hf
        refine lv_iload_n hx hb dX7_countOf_83 rfl (lv_at hl 1 rfl) ?_
        refine lv_aload_n hx hb dX7_countOf_84 rfl (lv_at hl 2 rfl) ?_
        refine gt_X7_X7_g hC hI dX7_countOf_85 ?_
        refine lv_sipush (v := 244) hx hb dX7_countOf_88 (by decide) ?_
        refine lv_iload hx hb dX7_countOf_91 (lv_at hl 0 rfl) ?_
        refine lv_iadd hx hb dX7_countOf_93 ?_
        obtain ⟨h3, hf⟩ := gifN hf
        refine g_iald hC hI (k := (244 + v4).toNatClampNeg) gIA_151 h3 rfl dX7_countOf_94 ?_
        refine lv_iload_n hx hb dX7_countOf_95 rfl (lv_at hl 3 rfl) ?_
        refine lv_icmp_ne (tgt := 122) hx hb dX7_countOf_96 rfl (fun h4 => ?_) (fun h4 => ?_)
        · replace hf := gifn h4 hf
          refine lv_iconst (v := 0) hx hb dX7_countOf_122 (by decide) ?_
          refine lv_iadd hx hb dX7_countOf_123 ?_
          obtain ⟨z5, ez5, hf⟩ := glet hf
          refine g_top ez5 ?_
          refine lv_istore_n (lv' := [(3, .int z5), (4, .int v4), (0, .ref (E.2.1 150)), (1, .int v1), (2, .int v2)]) hx hb dX7_countOf_124 rfl hl (by decide) rfl (fun ls hl => ?_)
          refine lv_iinc (k := 1) (v := v4 + 1) (lv' := [(4, .int (v4 + 1)), (3, .int z5), (0, .ref (E.2.1 150)), (1, .int v1), (2, .int v2)]) hx hb dX7_countOf_125 hl rfl rfl (by decide) rfl (fun ls hl => ?_)
          refine lv_goto (tgt := 71) hx hb dX7_countOf_128 rfl ?_
          exact ih (v4 + 1) z5 hf _ _ _ hI (lv_sub hl [0, 1, 2, 3, 4] rfl)
        · replace hf := gif h4 hf
          refine lv_iload_n hx hb dX7_countOf_99 rfl (lv_at hl 4 rfl) ?_
          refine lv_if_eq (tgt := 118) hx hb dX7_countOf_100 rfl (fun h6 => ?_) (fun h6 => ?_)
          · replace hf := gif h6 hf
            refine lv_iconst (v := 1) hx hb dX7_countOf_118 (by decide) ?_
            refine lv_goto (tgt := 123) hx hb dX7_countOf_119 rfl ?_
            refine lv_iadd hx hb dX7_countOf_123 ?_
            obtain ⟨z7, ez7, hf⟩ := glet hf
            refine g_top ez7 ?_
            refine lv_istore_n (lv' := [(3, .int z7), (4, .int v4), (0, .ref (E.2.1 150)), (1, .int v1), (2, .int v2)]) hx hb dX7_countOf_124 rfl hl (by decide) rfl (fun ls hl => ?_)
            refine lv_iinc (k := 1) (v := v4 + 1) (lv' := [(4, .int (v4 + 1)), (3, .int z7), (0, .ref (E.2.1 150)), (1, .int v1), (2, .int v2)]) hx hb dX7_countOf_125 hl rfl rfl (by decide) rfl (fun ls hl => ?_)
            refine lv_goto (tgt := 71) hx hb dX7_countOf_128 rfl ?_
            exact ih (v4 + 1) z7 hf _ _ _ hI (lv_sub hl [0, 1, 2, 3, 4] rfl)
          · replace hf := gifn h6 hf
            refine lv_aload_n hx hb dX7_countOf_103 rfl (lv_at hl 2 rfl) ?_
            refine gt_X7_X7_g hC hI dX7_countOf_104 ?_
            refine lv_sipush (v := 229) hx hb dX7_countOf_107 (by decide) ?_
            refine lv_iload hx hb dX7_countOf_110 (lv_at hl 0 rfl) ?_
            refine lv_iadd hx hb dX7_countOf_112 ?_
            obtain ⟨h8, hf⟩ := gifN hf
            refine g_iald hC hI (k := (229 + v4).toNatClampNeg) gIA_151 h8 rfl dX7_countOf_113 ?_
            refine lv_iload_n hx hb dX7_countOf_114 rfl (lv_at hl 4 rfl) ?_
            refine lv_icmp_ne (tgt := 122) hx hb dX7_countOf_115 rfl (fun h9 => ?_) (fun h9 => ?_)
            · replace hf := gifn h9 hf
              refine lv_iconst (v := 0) hx hb dX7_countOf_122 (by decide) ?_
              refine lv_iadd hx hb dX7_countOf_123 ?_
              obtain ⟨z10, ez10, hf⟩ := glet hf
              refine g_top ez10 ?_
              refine lv_istore_n (lv' := [(3, .int z10), (4, .int v4), (0, .ref (E.2.1 150)), (1, .int v1), (2, .int v2)]) hx hb dX7_countOf_124 rfl hl (by decide) rfl (fun ls hl => ?_)
              refine lv_iinc (k := 1) (v := v4 + 1) (lv' := [(4, .int (v4 + 1)), (3, .int z10), (0, .ref (E.2.1 150)), (1, .int v1), (2, .int v2)]) hx hb dX7_countOf_125 hl rfl rfl (by decide) rfl (fun ls hl => ?_)
              refine lv_goto (tgt := 71) hx hb dX7_countOf_128 rfl ?_
              exact ih (v4 + 1) z10 hf _ _ _ hI (lv_sub hl [0, 1, 2, 3, 4] rfl)
            · replace hf := gif h9 hf
              refine lv_iconst (v := 1) hx hb dX7_countOf_118 (by decide) ?_
              refine lv_goto (tgt := 123) hx hb dX7_countOf_119 rfl ?_
              refine lv_iadd hx hb dX7_countOf_123 ?_
              obtain ⟨z11, ez11, hf⟩ := glet hf
              refine g_top ez11 ?_
              refine lv_istore_n (lv' := [(3, .int z11), (4, .int v4), (0, .ref (E.2.1 150)), (1, .int v1), (2, .int v2)]) hx hb dX7_countOf_124 rfl hl (by decide) rfl (fun ls hl => ?_)
              refine lv_iinc (k := 1) (v := v4 + 1) (lv' := [(4, .int (v4 + 1)), (3, .int z11), (0, .ref (E.2.1 150)), (1, .int v1), (2, .int v2)]) hx hb dX7_countOf_125 hl rfl rfl (by decide) rfl (fun ls hl => ?_)
              refine lv_goto (tgt := 71) hx hb dX7_countOf_128 rfl ?_
              exact ih (v4 + 1) z11 hf _ _ _ hI (lv_sub hl [0, 1, 2, 3, 4] rfl)
  have L5 : ∀ (v1 : Int32) (v2 : Int32) (n : Nat) (v4 : Int32) (v3 : Int32), f_X7_countOf_L5 M v1 v2 n v4 v3 = some r → ∀ (H : Heap) (locs : List Loc) (ls : Array Slot), gI E s M x H locs → lv_has ls 5 [(4, .int v4), (3, .int v3), (0, .ref (E.2.1 150)), (1, .int v1), (2, .int v2)] → W p l e (gR 1 21) s m args below meth c H locs 0 0 Q (F0 m 5 ls []) := by
    intro v1 v2 n
    induction n with
    | zero => intro v4 v3 hf; rw [f_X7_countOf_L5] at hf; cases hf
    | succ n ih =>
      intro v4 v3 hf H locs ls hI hl
      rw [f_X7_countOf_L5] at hf
      refine lv_iload hx hb dX7_countOf_5 (lv_at hl 0 rfl) ?_
      refine lv_bipush (v := 60) hx hb dX7_countOf_7 (by decide) ?_
      refine lv_icmp_ge (tgt := 68) hx hb dX7_countOf_9 rfl (fun h1 => ?_) (fun h1 => ?_)
      · replace hf := gif h1 hf
        refine lv_iconst (v := 0) hx hb dX7_countOf_68 (by decide) ?_
        refine lv_istore (lv' := [(4, .int 0), (3, .int v3), (0, .ref (E.2.1 150)), (1, .int v1), (2, .int v2)]) hx hb dX7_countOf_69 hl (by decide) rfl (fun ls hl => ?_)
        exact L71 v1 v2 gF 0 v3 hf _ _ _ hI (lv_sub hl [0, 1, 2, 3, 4] rfl)
      · replace hf := gifn h1 hf
        refine lv_iload_n hx hb dX7_countOf_12 rfl (lv_at hl 1 rfl) ?_
        refine lv_aload_n hx hb dX7_countOf_13 rfl (lv_at hl 2 rfl) ?_
        refine lv_iload hx hb dX7_countOf_14 (lv_at hl 0 rfl) ?_
        obtain ⟨r12, hr13, hf⟩ := gbind hf
        have hr13 := C_X7_isFull l E x  hr13
        refine g_callVi (rest := [.int v3]) hC hI hr13 Y_X7_isFull V_X7_isFull w1602 (rcv_X7 hC hI) ⟨rfl, rfl⟩ ⟨Nat.le_of_ble_eq_true rfl, Nat.le_of_ble_eq_true rfl⟩ rfl hl.1 rfl (Nat.le_of_ble_eq_true rfl) dX7_countOf_16 ⟨Nat.le_of_ble_eq_true rfl, Nat.le_of_ble_eq_true rfl⟩ (fun H locs hI => ?_)
        refine lv_if_eq (tgt := 59) hx hb dX7_countOf_19 rfl (fun h14 => ?_) (fun h14 => ?_)
        · replace hf := gif h14 hf
          refine lv_iconst (v := 0) hx hb dX7_countOf_59 (by decide) ?_
          refine lv_iadd hx hb dX7_countOf_60 ?_
          obtain ⟨z15, ez15, hf⟩ := glet hf
          refine g_top ez15 ?_
          refine lv_istore_n (lv' := [(3, .int z15), (4, .int v4), (0, .ref (E.2.1 150)), (1, .int v1), (2, .int v2)]) hx hb dX7_countOf_61 rfl hl (by decide) rfl (fun ls hl => ?_)
          refine lv_iinc (k := 1) (v := v4 + 1) (lv' := [(4, .int (v4 + 1)), (3, .int z15), (0, .ref (E.2.1 150)), (1, .int v1), (2, .int v2)]) hx hb dX7_countOf_62 hl rfl rfl (by decide) rfl (fun ls hl => ?_)
          refine lv_goto (tgt := 5) hx hb dX7_countOf_65 rfl ?_
          exact ih (v4 + 1) z15 hf _ _ _ hI (lv_sub hl [0, 1, 2, 3, 4] rfl)
        · replace hf := gifn h14 hf
          refine lv_aload_n hx hb dX7_countOf_22 rfl (lv_at hl 2 rfl) ?_
          refine gt_X7_X7_g hC hI dX7_countOf_23 ?_
          refine lv_sipush (v := 154) hx hb dX7_countOf_26 (by decide) ?_
          refine lv_iload hx hb dX7_countOf_29 (lv_at hl 0 rfl) ?_
          refine lv_iadd hx hb dX7_countOf_31 ?_
          obtain ⟨h16, hf⟩ := gifN hf
          refine g_iald hC hI (k := (154 + v4).toNatClampNeg) gIA_151 h16 rfl dX7_countOf_32 ?_
          refine lv_iload_n hx hb dX7_countOf_33 rfl (lv_at hl 3 rfl) ?_
          refine lv_icmp_ne (tgt := 59) hx hb dX7_countOf_34 rfl (fun h17 => ?_) (fun h17 => ?_)
          · replace hf := gifn h17 hf
            refine lv_iconst (v := 0) hx hb dX7_countOf_59 (by decide) ?_
            refine lv_iadd hx hb dX7_countOf_60 ?_
            obtain ⟨z18, ez18, hf⟩ := glet hf
            refine g_top ez18 ?_
            refine lv_istore_n (lv' := [(3, .int z18), (4, .int v4), (0, .ref (E.2.1 150)), (1, .int v1), (2, .int v2)]) hx hb dX7_countOf_61 rfl hl (by decide) rfl (fun ls hl => ?_)
            refine lv_iinc (k := 1) (v := v4 + 1) (lv' := [(4, .int (v4 + 1)), (3, .int z18), (0, .ref (E.2.1 150)), (1, .int v1), (2, .int v2)]) hx hb dX7_countOf_62 hl rfl rfl (by decide) rfl (fun ls hl => ?_)
            refine lv_goto (tgt := 5) hx hb dX7_countOf_65 rfl ?_
            exact ih (v4 + 1) z18 hf _ _ _ hI (lv_sub hl [0, 1, 2, 3, 4] rfl)
          · replace hf := gif h17 hf
            refine lv_iload_n hx hb dX7_countOf_37 rfl (lv_at hl 4 rfl) ?_
            refine lv_if_eq (tgt := 55) hx hb dX7_countOf_38 rfl (fun h19 => ?_) (fun h19 => ?_)
            · replace hf := gif h19 hf
              refine lv_iconst (v := 1) hx hb dX7_countOf_55 (by decide) ?_
              refine lv_goto (tgt := 60) hx hb dX7_countOf_56 rfl ?_
              refine lv_iadd hx hb dX7_countOf_60 ?_
              obtain ⟨z20, ez20, hf⟩ := glet hf
              refine g_top ez20 ?_
              refine lv_istore_n (lv' := [(3, .int z20), (4, .int v4), (0, .ref (E.2.1 150)), (1, .int v1), (2, .int v2)]) hx hb dX7_countOf_61 rfl hl (by decide) rfl (fun ls hl => ?_)
              refine lv_iinc (k := 1) (v := v4 + 1) (lv' := [(4, .int (v4 + 1)), (3, .int z20), (0, .ref (E.2.1 150)), (1, .int v1), (2, .int v2)]) hx hb dX7_countOf_62 hl rfl rfl (by decide) rfl (fun ls hl => ?_)
              refine lv_goto (tgt := 5) hx hb dX7_countOf_65 rfl ?_
              exact ih (v4 + 1) z20 hf _ _ _ hI (lv_sub hl [0, 1, 2, 3, 4] rfl)
            · replace hf := gifn h19 hf
              refine lv_aload_n hx hb dX7_countOf_41 rfl (lv_at hl 2 rfl) ?_
              refine gt_X7_X7_g hC hI dX7_countOf_42 ?_
              refine lv_bipush (v := 94) hx hb dX7_countOf_45 (by decide) ?_
              refine lv_iload hx hb dX7_countOf_47 (lv_at hl 0 rfl) ?_
              refine lv_iadd hx hb dX7_countOf_49 ?_
              obtain ⟨h21, hf⟩ := gifN hf
              refine g_iald hC hI (k := (94 + v4).toNatClampNeg) gIA_151 h21 rfl dX7_countOf_50 ?_
              refine lv_iload_n hx hb dX7_countOf_51 rfl (lv_at hl 4 rfl) ?_
              refine lv_icmp_ne (tgt := 59) hx hb dX7_countOf_52 rfl (fun h22 => ?_) (fun h22 => ?_)
              · replace hf := gifn h22 hf
                refine lv_iconst (v := 0) hx hb dX7_countOf_59 (by decide) ?_
                refine lv_iadd hx hb dX7_countOf_60 ?_
                obtain ⟨z23, ez23, hf⟩ := glet hf
                refine g_top ez23 ?_
                refine lv_istore_n (lv' := [(3, .int z23), (4, .int v4), (0, .ref (E.2.1 150)), (1, .int v1), (2, .int v2)]) hx hb dX7_countOf_61 rfl hl (by decide) rfl (fun ls hl => ?_)
                refine lv_iinc (k := 1) (v := v4 + 1) (lv' := [(4, .int (v4 + 1)), (3, .int z23), (0, .ref (E.2.1 150)), (1, .int v1), (2, .int v2)]) hx hb dX7_countOf_62 hl rfl rfl (by decide) rfl (fun ls hl => ?_)
                refine lv_goto (tgt := 5) hx hb dX7_countOf_65 rfl ?_
                exact ih (v4 + 1) z23 hf _ _ _ hI (lv_sub hl [0, 1, 2, 3, 4] rfl)
              · replace hf := gif h22 hf
                refine lv_iconst (v := 1) hx hb dX7_countOf_55 (by decide) ?_
                refine lv_goto (tgt := 60) hx hb dX7_countOf_56 rfl ?_
                refine lv_iadd hx hb dX7_countOf_60 ?_
                obtain ⟨z24, ez24, hf⟩ := glet hf
                refine g_top ez24 ?_
                refine lv_istore_n (lv' := [(3, .int z24), (4, .int v4), (0, .ref (E.2.1 150)), (1, .int v1), (2, .int v2)]) hx hb dX7_countOf_61 rfl hl (by decide) rfl (fun ls hl => ?_)
                refine lv_iinc (k := 1) (v := v4 + 1) (lv' := [(4, .int (v4 + 1)), (3, .int z24), (0, .ref (E.2.1 150)), (1, .int v1), (2, .int v2)]) hx hb dX7_countOf_62 hl rfl rfl (by decide) rfl (fun ls hl => ?_)
                refine lv_goto (tgt := 5) hx hb dX7_countOf_65 rfl ?_
                exact ih (v4 + 1) z24 hf _ _ _ hI (lv_sub hl [0, 1, 2, 3, 4] rfl)
  unfold f_X7_countOf at hf
  refine lv_iconst (v := 0) hx hb dX7_countOf_0 (by decide) ?_
  refine lv_istore_n (lv' := [(3, .int 0), (0, .ref (E.2.1 150)), (1, .int v1), (2, .int v2)]) hx hb dX7_countOf_1 rfl hl (by decide) rfl (fun ls hl => ?_)
  refine lv_iconst (v := 0) hx hb dX7_countOf_2 (by decide) ?_
  refine lv_istore (lv' := [(4, .int 0), (3, .int 0), (0, .ref (E.2.1 150)), (1, .int v1), (2, .int v2)]) hx hb dX7_countOf_3 hl (by decide) rfl (fun ls hl => ?_)
  exact L5 v1 v2 gF 0 0 hf _ _ _ hI (lv_sub hl [0, 1, 2, 3, 4] rfl)
theorem dX7_differentKeys_0 : decode cX7_differentKeys 0 = .ok (.iconst 0, 1) := by decide +kernel
theorem dX7_differentKeys_1 : decode cX7_differentKeys 1 = .ok (.istore_n 1, 1) := by decide +kernel
theorem dX7_differentKeys_2 : decode cX7_differentKeys 2 = .ok (.iconst 0, 1) := by decide +kernel
theorem dX7_differentKeys_3 : decode cX7_differentKeys 3 = .ok (.istore_n 2, 1) := by decide +kernel
theorem dX7_differentKeys_4 : decode cX7_differentKeys 4 = .ok (.iload_n 2, 1) := by decide +kernel
theorem dX7_differentKeys_5 : decode cX7_differentKeys 5 = .ok (.bipush 100, 2) := by decide +kernel
theorem dX7_differentKeys_7 : decode cX7_differentKeys 7 = .ok (.if_icmp .ge 26, 3) := by decide +kernel
theorem dX7_differentKeys_10 : decode cX7_differentKeys 10 = .ok (.iload_n 1, 1) := by decide +kernel
theorem dX7_differentKeys_11 : decode cX7_differentKeys 11 = .ok (.aload_n 0, 1) := by decide +kernel
theorem dX7_differentKeys_12 : decode cX7_differentKeys 12 = .ok (.iload_n 2, 1) := by decide +kernel
theorem dX7_differentKeys_13 : decode cX7_differentKeys 13 = .ok (.iconst 0, 1) := by decide +kernel
theorem dX7_differentKeys_14 : decode cX7_differentKeys 14 = .ok (.invokevirtual 185, 3) := by decide +kernel
theorem dX7_differentKeys_17 : decode cX7_differentKeys 17 = .ok (.ifCond .le 7, 3) := by decide +kernel
theorem dX7_differentKeys_20 : decode cX7_differentKeys 20 = .ok (.iconst 1, 1) := by decide +kernel
theorem dX7_differentKeys_21 : decode cX7_differentKeys 21 = .ok (.goto 4, 3) := by decide +kernel
theorem dX7_differentKeys_24 : decode cX7_differentKeys 24 = .ok (.iconst 0, 1) := by decide +kernel
theorem dX7_differentKeys_25 : decode cX7_differentKeys 25 = .ok (.iadd, 1) := by decide +kernel
theorem dX7_differentKeys_26 : decode cX7_differentKeys 26 = .ok (.istore_n 1, 1) := by decide +kernel
theorem dX7_differentKeys_27 : decode cX7_differentKeys 27 = .ok (.iinc 2 1, 3) := by decide +kernel
theorem dX7_differentKeys_30 : decode cX7_differentKeys 30 = .ok (.goto (-26), 3) := by decide +kernel
theorem dX7_differentKeys_33 : decode cX7_differentKeys 33 = .ok (.aload_n 0, 1) := by decide +kernel
theorem dX7_differentKeys_34 : decode cX7_differentKeys 34 = .ok (.iload_n 1, 1) := by decide +kernel
theorem dX7_differentKeys_35 : decode cX7_differentKeys 35 = .ok (.invokevirtual 75, 3) := by decide +kernel
theorem dX7_differentKeys_38 : decode cX7_differentKeys 38 = .ok (.ireturn, 1) := by decide +kernel
set_option maxRecDepth 100000 in
set_option maxHeartbeats 4000000 in
theorem C_X7_differentKeys (l : Launch) (E : gE) (x : gX) {M : gM} {r : Int32} {M' : gM} (hf : f_X7_differentKeys M = some (r, M')) : gM0 l E yX7_differentKeys (.code yX7_differentKeys cX7_differentKeys 3 (some .int)) (gR 2 45) M x [.ref (E.2.1 150)] (some (.int r)) M' := by
  refine gMet (by decide +kernel) (Nat.le_of_ble_eq_true rfl) ?_
  intro p e s m args below meth c H locs ls Q hC hl hI kr kv
  replace hC : gC p s m args c cX7_differentKeys 3 RX7 E := hC
  replace hl : lv_has ls 3 [(0, .ref (E.2.1 150))] := hl
  have hx := hC.1
  have hb := hC.2.1
  have L4 : ∀ (n : Nat) (v2 : Int32) (v1 : Int32) (M : gM), f_X7_differentKeys_L4  n v2 v1 M = some (r, M') → ∀ (H : Heap) (locs : List Loc) (ls : Array Slot), gI E s M x H locs → lv_has ls 3 [(2, .int v2), (1, .int v1), (0, .ref (E.2.1 150))] → W p l e (gR 2 45) s m args below meth c H locs 0 0 Q (F0 m 4 ls []) := by
    intro  n
    induction n with
    | zero => intro v2 v1 M hf; rw [f_X7_differentKeys_L4] at hf; cases hf
    | succ n ih =>
      intro v2 v1 M hf H locs ls hI hl
      rw [f_X7_differentKeys_L4] at hf
      refine lv_iload_n hx hb dX7_differentKeys_4 rfl (lv_at hl 0 rfl) ?_
      refine lv_bipush (v := 100) hx hb dX7_differentKeys_5 (by decide) ?_
      refine lv_icmp_ge (tgt := 33) hx hb dX7_differentKeys_7 rfl (fun h1 => ?_) (fun h1 => ?_)
      · replace hf := gif h1 hf
        refine lv_aload_n hx hb dX7_differentKeys_33 rfl (lv_at hl 2 rfl) ?_
        refine lv_iload_n hx hb dX7_differentKeys_34 rfl (lv_at hl 1 rfl) ?_
        obtain ⟨r2, hr3, hf⟩ := gbind hf
        have hr3 := C_X7_done l E x  hr3
        refine g_callVi (rest := []) hC hI hr3 Y_X7_done V_X7_done w1409 (rcv_X7 hC hI) ⟨rfl, rfl⟩ ⟨Nat.le_of_ble_eq_true rfl, Nat.le_of_ble_eq_true rfl⟩ rfl hl.1 rfl (Nat.le_of_ble_eq_true rfl) dX7_differentKeys_35 ⟨Nat.le_of_ble_eq_true rfl, Nat.le_of_ble_eq_true rfl⟩ (fun H locs hI => ?_)
        exact kr _ _ _ _ _ _ (grw hf) hI ⟨.int, rfl, rfl⟩ dX7_differentKeys_38
      · replace hf := gifn h1 hf
        refine lv_iload_n hx hb dX7_differentKeys_10 rfl (lv_at hl 1 rfl) ?_
        refine lv_aload_n hx hb dX7_differentKeys_11 rfl (lv_at hl 2 rfl) ?_
        refine lv_iload_n hx hb dX7_differentKeys_12 rfl (lv_at hl 0 rfl) ?_
        refine lv_iconst (v := 0) hx hb dX7_differentKeys_13 (by decide) ?_
        obtain ⟨r4, hr5, hf⟩ := gbind hf
        have hr5 := C_X7_countOf l E x  hr5
        refine g_callVi (rest := [.int v1]) hC hI hr5 Y_X7_countOf V_X7_countOf w1690 (rcv_X7 hC hI) ⟨rfl, rfl⟩ ⟨Nat.le_of_ble_eq_true rfl, Nat.le_of_ble_eq_true rfl⟩ rfl hl.1 rfl (Nat.le_of_ble_eq_true rfl) dX7_differentKeys_14 ⟨Nat.le_of_ble_eq_true rfl, Nat.le_of_ble_eq_true rfl⟩ (fun H locs hI => ?_)
        refine lv_if_le (tgt := 24) hx hb dX7_differentKeys_17 rfl (fun h6 => ?_) (fun h6 => ?_)
        · replace hf := gif h6 hf
          refine lv_iconst (v := 0) hx hb dX7_differentKeys_24 (by decide) ?_
          refine lv_iadd hx hb dX7_differentKeys_25 ?_
          obtain ⟨z7, ez7, hf⟩ := glet hf
          refine g_top ez7 ?_
          refine lv_istore_n (lv' := [(1, .int z7), (2, .int v2), (0, .ref (E.2.1 150))]) hx hb dX7_differentKeys_26 rfl hl (by decide) rfl (fun ls hl => ?_)
          refine lv_iinc (k := 1) (v := v2 + 1) (lv' := [(2, .int (v2 + 1)), (1, .int z7), (0, .ref (E.2.1 150))]) hx hb dX7_differentKeys_27 hl rfl rfl (by decide) rfl (fun ls hl => ?_)
          refine lv_goto (tgt := 4) hx hb dX7_differentKeys_30 rfl ?_
          exact ih (v2 + 1) z7 M hf _ _ _ hI (lv_sub hl [0, 1, 2] rfl)
        · replace hf := gifn h6 hf
          refine lv_iconst (v := 1) hx hb dX7_differentKeys_20 (by decide) ?_
          refine lv_goto (tgt := 25) hx hb dX7_differentKeys_21 rfl ?_
          refine lv_iadd hx hb dX7_differentKeys_25 ?_
          obtain ⟨z8, ez8, hf⟩ := glet hf
          refine g_top ez8 ?_
          refine lv_istore_n (lv' := [(1, .int z8), (2, .int v2), (0, .ref (E.2.1 150))]) hx hb dX7_differentKeys_26 rfl hl (by decide) rfl (fun ls hl => ?_)
          refine lv_iinc (k := 1) (v := v2 + 1) (lv' := [(2, .int (v2 + 1)), (1, .int z8), (0, .ref (E.2.1 150))]) hx hb dX7_differentKeys_27 hl rfl rfl (by decide) rfl (fun ls hl => ?_)
          refine lv_goto (tgt := 4) hx hb dX7_differentKeys_30 rfl ?_
          exact ih (v2 + 1) z8 M hf _ _ _ hI (lv_sub hl [0, 1, 2] rfl)
  unfold f_X7_differentKeys at hf
  refine lv_iconst (v := 0) hx hb dX7_differentKeys_0 (by decide) ?_
  refine lv_istore_n (lv' := [(1, .int 0), (0, .ref (E.2.1 150))]) hx hb dX7_differentKeys_1 rfl hl (by decide) rfl (fun ls hl => ?_)
  refine lv_iconst (v := 0) hx hb dX7_differentKeys_2 (by decide) ?_
  refine lv_istore_n (lv' := [(2, .int 0), (1, .int 0), (0, .ref (E.2.1 150))]) hx hb dX7_differentKeys_3 rfl hl (by decide) rfl (fun ls hl => ?_)
  exact L4 gF 0 0 M hf _ _ _ hI (lv_sub hl [0, 1, 2] rfl)
theorem dX7_keyTwins_0 : decode cX7_keyTwins 0 = .ok (.iconst 0, 1) := by decide +kernel
theorem dX7_keyTwins_1 : decode cX7_keyTwins 1 = .ok (.istore_n 1, 1) := by decide +kernel
theorem dX7_keyTwins_2 : decode cX7_keyTwins 2 = .ok (.iconst 0, 1) := by decide +kernel
theorem dX7_keyTwins_3 : decode cX7_keyTwins 3 = .ok (.istore_n 2, 1) := by decide +kernel
theorem dX7_keyTwins_4 : decode cX7_keyTwins 4 = .ok (.iload_n 2, 1) := by decide +kernel
theorem dX7_keyTwins_5 : decode cX7_keyTwins 5 = .ok (.bipush 100, 2) := by decide +kernel
theorem dX7_keyTwins_7 : decode cX7_keyTwins 7 = .ok (.if_icmp .ge 53, 3) := by decide +kernel
theorem dX7_keyTwins_10 : decode cX7_keyTwins 10 = .ok (.iconst 1, 1) := by decide +kernel
theorem dX7_keyTwins_11 : decode cX7_keyTwins 11 = .ok (.istore_n 3, 1) := by decide +kernel
theorem dX7_keyTwins_12 : decode cX7_keyTwins 12 = .ok (.iload_n 3, 1) := by decide +kernel
theorem dX7_keyTwins_13 : decode cX7_keyTwins 13 = .ok (.bipush 30, 2) := by decide +kernel
theorem dX7_keyTwins_15 : decode cX7_keyTwins 15 = .ok (.if_icmp .gt 39, 3) := by decide +kernel
theorem dX7_keyTwins_18 : decode cX7_keyTwins 18 = .ok (.aload_n 0, 1) := by decide +kernel
theorem dX7_keyTwins_19 : decode cX7_keyTwins 19 = .ok (.iload_n 2, 1) := by decide +kernel
theorem dX7_keyTwins_20 : decode cX7_keyTwins 20 = .ok (.iconst 0, 1) := by decide +kernel
theorem dX7_keyTwins_21 : decode cX7_keyTwins 21 = .ok (.invokevirtual 185, 3) := by decide +kernel
theorem dX7_keyTwins_24 : decode cX7_keyTwins 24 = .ok (.iconst 1, 1) := by decide +kernel
theorem dX7_keyTwins_25 : decode cX7_keyTwins 25 = .ok (.if_icmp .le 29, 3) := by decide +kernel
theorem dX7_keyTwins_28 : decode cX7_keyTwins 28 = .ok (.aload_n 0, 1) := by decide +kernel
theorem dX7_keyTwins_29 : decode cX7_keyTwins 29 = .ok (.iload_n 2, 1) := by decide +kernel
theorem dX7_keyTwins_30 : decode cX7_keyTwins 30 = .ok (.iload_n 3, 1) := by decide +kernel
theorem dX7_keyTwins_31 : decode cX7_keyTwins 31 = .ok (.invokevirtual 185, 3) := by decide +kernel
theorem dX7_keyTwins_34 : decode cX7_keyTwins 34 = .ok (.istore 4, 2) := by decide +kernel
theorem dX7_keyTwins_36 : decode cX7_keyTwins 36 = .ok (.iload_n 1, 1) := by decide +kernel
theorem dX7_keyTwins_37 : decode cX7_keyTwins 37 = .ok (.iload 4, 2) := by decide +kernel
theorem dX7_keyTwins_39 : decode cX7_keyTwins 39 = .ok (.iload 4, 2) := by decide +kernel
theorem dX7_keyTwins_41 : decode cX7_keyTwins 41 = .ok (.iconst 1, 1) := by decide +kernel
theorem dX7_keyTwins_42 : decode cX7_keyTwins 42 = .ok (.isub, 1) := by decide +kernel
theorem dX7_keyTwins_43 : decode cX7_keyTwins 43 = .ok (.imul, 1) := by decide +kernel
theorem dX7_keyTwins_44 : decode cX7_keyTwins 44 = .ok (.iconst 2, 1) := by decide +kernel
theorem dX7_keyTwins_45 : decode cX7_keyTwins 45 = .ok (.idiv, 1) := by decide +kernel
theorem dX7_keyTwins_46 : decode cX7_keyTwins 46 = .ok (.iadd, 1) := by decide +kernel
theorem dX7_keyTwins_47 : decode cX7_keyTwins 47 = .ok (.istore_n 1, 1) := by decide +kernel
theorem dX7_keyTwins_48 : decode cX7_keyTwins 48 = .ok (.iinc 3 1, 3) := by decide +kernel
theorem dX7_keyTwins_51 : decode cX7_keyTwins 51 = .ok (.goto (-39), 3) := by decide +kernel
theorem dX7_keyTwins_54 : decode cX7_keyTwins 54 = .ok (.iinc 2 1, 3) := by decide +kernel
theorem dX7_keyTwins_57 : decode cX7_keyTwins 57 = .ok (.goto (-53), 3) := by decide +kernel
theorem dX7_keyTwins_60 : decode cX7_keyTwins 60 = .ok (.aload_n 0, 1) := by decide +kernel
theorem dX7_keyTwins_61 : decode cX7_keyTwins 61 = .ok (.iload_n 1, 1) := by decide +kernel
theorem dX7_keyTwins_62 : decode cX7_keyTwins 62 = .ok (.invokevirtual 75, 3) := by decide +kernel
theorem dX7_keyTwins_65 : decode cX7_keyTwins 65 = .ok (.ireturn, 1) := by decide +kernel
set_option maxRecDepth 100000 in
set_option maxHeartbeats 4000000 in
theorem C_X7_keyTwins (l : Launch) (E : gE) (x : gX) {M : gM} {r : Int32} {M' : gM} (hf : f_X7_keyTwins M = some (r, M')) : gM0 l E yX7_keyTwins (.code yX7_keyTwins cX7_keyTwins 5 (some .int)) (gR 2 45) M x [.ref (E.2.1 150)] (some (.int r)) M' := by
  refine gMet (by decide +kernel) (Nat.le_of_ble_eq_true rfl) ?_
  intro p e s m args below meth c H locs ls Q hC hl hI kr kv
  replace hC : gC p s m args c cX7_keyTwins 5 RX7 E := hC
  replace hl : lv_has ls 5 [(0, .ref (E.2.1 150))] := hl
  have hx := hC.1
  have hb := hC.2.1
  have L12 : ∀ (v2 : Int32) (n : Nat) (v3 : Int32) (v1 : Int32) (M : gM) (q : Int32 × Int32 × gM), f_X7_keyTwins_L12 v2 n v3 v1 M = some q → ∀ (H : Heap) (locs : List Loc) (ls : Array Slot), gI E s M x H locs → lv_has ls 5 [(3, .int v3), (2, .int v2), (1, .int v1), (0, .ref (E.2.1 150))] → (∀ (H : Heap) (locs : List Loc) (ls : Array Slot), gI E s q.2.2 x H locs → lv_has ls 5 [(3, .int q.1), (2, .int v2), (1, .int q.2.1), (0, .ref (E.2.1 150))] → W p l e (gR 2 45) s m args below meth c H locs 0 0 Q (F0 m 54 ls [])) → W p l e (gR 2 45) s m args below meth c H locs 0 0 Q (F0 m 12 ls []) := by
    intro v2 n
    induction n with
    | zero => intro v3 v1 M q hf; rw [f_X7_keyTwins_L12] at hf; cases hf
    | succ n ih =>
      intro v3 v1 M q hf H locs ls hI hl hk
      rw [f_X7_keyTwins_L12] at hf
      refine lv_iload_n hx hb dX7_keyTwins_12 rfl (lv_at hl 0 rfl) ?_
      refine lv_bipush (v := 30) hx hb dX7_keyTwins_13 (by decide) ?_
      refine lv_icmp_gt (tgt := 54) hx hb dX7_keyTwins_15 rfl (fun h4 => ?_) (fun h4 => ?_)
      · replace hf := gif h4 hf
        obtain rfl := Option.some.inj hf
        exact hk _ _ _ hI (lv_sub hl [0, 1, 2, 3] rfl)
      · replace hf := gifn h4 hf
        refine lv_aload_n hx hb dX7_keyTwins_18 rfl (lv_at hl 3 rfl) ?_
        refine lv_iload_n hx hb dX7_keyTwins_19 rfl (lv_at hl 1 rfl) ?_
        refine lv_iconst (v := 0) hx hb dX7_keyTwins_20 (by decide) ?_
        obtain ⟨r5, hr6, hf⟩ := gbind hf
        have hr6 := C_X7_countOf l E x  hr6
        refine g_callVi (rest := []) hC hI hr6 Y_X7_countOf V_X7_countOf w1690 (rcv_X7 hC hI) ⟨rfl, rfl⟩ ⟨Nat.le_of_ble_eq_true rfl, Nat.le_of_ble_eq_true rfl⟩ rfl hl.1 rfl (Nat.le_of_ble_eq_true rfl) dX7_keyTwins_21 ⟨Nat.le_of_ble_eq_true rfl, Nat.le_of_ble_eq_true rfl⟩ (fun H locs hI => ?_)
        refine lv_iconst (v := 1) hx hb dX7_keyTwins_24 (by decide) ?_
        refine lv_icmp_le (tgt := 54) hx hb dX7_keyTwins_25 rfl (fun h7 => ?_) (fun h7 => ?_)
        · replace hf := gif h7 hf
          obtain rfl := Option.some.inj hf
          exact hk _ _ _ hI (lv_sub hl [0, 1, 2, 3] rfl)
        · replace hf := gifn h7 hf
          refine lv_aload_n hx hb dX7_keyTwins_28 rfl (lv_at hl 3 rfl) ?_
          refine lv_iload_n hx hb dX7_keyTwins_29 rfl (lv_at hl 1 rfl) ?_
          refine lv_iload_n hx hb dX7_keyTwins_30 rfl (lv_at hl 0 rfl) ?_
          obtain ⟨r8, hr9, hf⟩ := gbind hf
          have hr9 := C_X7_countOf l E x  hr9
          refine g_callVi (rest := []) hC hI hr9 Y_X7_countOf V_X7_countOf w1690 (rcv_X7 hC hI) ⟨rfl, rfl⟩ ⟨Nat.le_of_ble_eq_true rfl, Nat.le_of_ble_eq_true rfl⟩ rfl hl.1 rfl (Nat.le_of_ble_eq_true rfl) dX7_keyTwins_31 ⟨Nat.le_of_ble_eq_true rfl, Nat.le_of_ble_eq_true rfl⟩ (fun H locs hI => ?_)
          refine lv_istore (lv' := [(4, .int r8), (3, .int v3), (2, .int v2), (1, .int v1), (0, .ref (E.2.1 150))]) hx hb dX7_keyTwins_34 hl (by decide) rfl (fun ls hl => ?_)
          refine lv_iload_n hx hb dX7_keyTwins_36 rfl (lv_at hl 3 rfl) ?_
          refine lv_iload hx hb dX7_keyTwins_37 (lv_at hl 0 rfl) ?_
          refine lv_iload hx hb dX7_keyTwins_39 (lv_at hl 0 rfl) ?_
          refine lv_iconst (v := 1) hx hb dX7_keyTwins_41 (by decide) ?_
          refine lv_isub hx hb dX7_keyTwins_42 ?_
          refine lv_imul hx hb dX7_keyTwins_43 ?_
          refine lv_iconst (v := 2) hx hb dX7_keyTwins_44 (by decide) ?_
          refine lv_idiv hx hb dX7_keyTwins_45 (by decide) ?_
          refine lv_iadd hx hb dX7_keyTwins_46 ?_
          obtain ⟨z10, ez10, hf⟩ := glet hf
          refine g_top ez10 ?_
          refine lv_istore_n (lv' := [(1, .int z10), (4, .int r8), (3, .int v3), (2, .int v2), (0, .ref (E.2.1 150))]) hx hb dX7_keyTwins_47 rfl hl (by decide) rfl (fun ls hl => ?_)
          refine lv_iinc (k := 2) (v := v3 + 1) (lv' := [(3, .int (v3 + 1)), (1, .int z10), (4, .int r8), (2, .int v2), (0, .ref (E.2.1 150))]) hx hb dX7_keyTwins_48 hl rfl rfl (by decide) rfl (fun ls hl => ?_)
          refine lv_goto (tgt := 12) hx hb dX7_keyTwins_51 rfl ?_
          exact ih (v3 + 1) z10 M _ hf _ _ _ hI (lv_sub hl [0, 3, 1, 4] rfl) hk
  have L4 : ∀ (n : Nat) (v2 : Int32) (v1 : Int32) (M : gM), f_X7_keyTwins_L4  n v2 v1 M = some (r, M') → ∀ (H : Heap) (locs : List Loc) (ls : Array Slot), gI E s M x H locs → lv_has ls 5 [(2, .int v2), (1, .int v1), (0, .ref (E.2.1 150))] → W p l e (gR 2 45) s m args below meth c H locs 0 0 Q (F0 m 4 ls []) := by
    intro  n
    induction n with
    | zero => intro v2 v1 M hf; rw [f_X7_keyTwins_L4] at hf; cases hf
    | succ n ih =>
      intro v2 v1 M hf H locs ls hI hl
      rw [f_X7_keyTwins_L4] at hf
      refine lv_iload_n hx hb dX7_keyTwins_4 rfl (lv_at hl 0 rfl) ?_
      refine lv_bipush (v := 100) hx hb dX7_keyTwins_5 (by decide) ?_
      refine lv_icmp_ge (tgt := 60) hx hb dX7_keyTwins_7 rfl (fun h1 => ?_) (fun h1 => ?_)
      · replace hf := gif h1 hf
        refine lv_aload_n hx hb dX7_keyTwins_60 rfl (lv_at hl 2 rfl) ?_
        refine lv_iload_n hx hb dX7_keyTwins_61 rfl (lv_at hl 1 rfl) ?_
        obtain ⟨r2, hr3, hf⟩ := gbind hf
        have hr3 := C_X7_done l E x  hr3
        refine g_callVi (rest := []) hC hI hr3 Y_X7_done V_X7_done w1409 (rcv_X7 hC hI) ⟨rfl, rfl⟩ ⟨Nat.le_of_ble_eq_true rfl, Nat.le_of_ble_eq_true rfl⟩ rfl hl.1 rfl (Nat.le_of_ble_eq_true rfl) dX7_keyTwins_62 ⟨Nat.le_of_ble_eq_true rfl, Nat.le_of_ble_eq_true rfl⟩ (fun H locs hI => ?_)
        exact kr _ _ _ _ _ _ (grw hf) hI ⟨.int, rfl, rfl⟩ dX7_keyTwins_65
      · replace hf := gifn h1 hf
        refine lv_iconst (v := 1) hx hb dX7_keyTwins_10 (by decide) ?_
        refine lv_istore_n (lv' := [(3, .int 1), (2, .int v2), (1, .int v1), (0, .ref (E.2.1 150))]) hx hb dX7_keyTwins_11 rfl hl (by decide) rfl (fun ls hl => ?_)
        obtain ⟨q11, hq11, hf⟩ := gbind hf
        refine L12 v2 gF 1 v1 M q11 hq11 _ _ _ hI (lv_sub hl [0, 1, 2, 3] rfl) (fun H locs ls hI hl => ?_)
        try simp only at hI hl
        refine lv_iinc (k := 1) (v := v2 + 1) (lv' := [(2, .int (v2 + 1)), (3, .int q11.1), (1, .int q11.2.1), (0, .ref (E.2.1 150))]) hx hb dX7_keyTwins_54 hl rfl rfl (by decide) rfl (fun ls hl => ?_)
        refine lv_goto (tgt := 4) hx hb dX7_keyTwins_57 rfl ?_
        exact ih (v2 + 1) q11.2.1 q11.2.2 hf _ _ _ hI (lv_sub hl [0, 2, 3] rfl)
  unfold f_X7_keyTwins at hf
  refine lv_iconst (v := 0) hx hb dX7_keyTwins_0 (by decide) ?_
  refine lv_istore_n (lv' := [(1, .int 0), (0, .ref (E.2.1 150))]) hx hb dX7_keyTwins_1 rfl hl (by decide) rfl (fun ls hl => ?_)
  refine lv_iconst (v := 0) hx hb dX7_keyTwins_2 (by decide) ?_
  refine lv_istore_n (lv' := [(2, .int 0), (1, .int 0), (0, .ref (E.2.1 150))]) hx hb dX7_keyTwins_3 rfl hl (by decide) rfl (fun ls hl => ?_)
  exact L4 gF 0 0 M hf _ _ _ hI (lv_sub hl [0, 1, 2] rfl)
