theorem dL_law_2739 : decode cL_law 2739 = .ok (.aload_n 1, 1) := by decide +kernel
theorem dL_law_2740 : decode cL_law 2740 = .ok (.invokevirtual 343, 3) := by decide +kernel
theorem dL_law_2743 : decode cL_law 2743 = .ok (.aload_n 2, 1) := by decide +kernel
theorem dL_law_2744 : decode cL_law 2744 = .ok (.invokevirtual 346, 3) := by decide +kernel
theorem dL_law_2747 : decode cL_law 2747 = .ok (.if_icmp .eq 646, 3) := by decide +kernel
set_option maxRecDepth 100000 in
set_option maxHeartbeats 4000000 in
theorem Lc_48 {p : Program} {l : Launch} {e : Env} {s : State} {m : MethodId} {args : Array Value} {below : List Frame} {meth : Method} {c : Code} {H : Heap} {locs : List Loc} {cells slots : Nat} {Q : State → Prop} {E : gE} {M : gM} {x : gX} {b0 L i k : Nat} {xs : Nat → Int32} {ls : Array Slot} (K : gLw p l s m args c E b0 L xs) (hi : i + 5 ≤ L) (hk : k ≤ 580) (hcs : cells + 4 ≤ 603072 ∧ slots + 24 ≤ 7186538) (hV : gInv k M) (hI : gI E s M x H locs) (hl : lv_has ls 9 (gLv E b0 i))
    (kk : ∀ M2 x2 H2 locs2 ls2, gInv (k + 1) M2 → gI E s M2 x2 H2 locs2 → lv_has ls2 9 (gLv E b0 i) → W p l e room_1 s m args below meth c H2 locs2 (cells + 4) (slots + 24) Q (F0 m 3393 ls2 [])) : W p l e room_1 s m args below meth c H locs cells slots Q (F0 m 2739 ls []) := by
  have hC := K.1
  have hx := hC.1
  have hb := hC.2.1
  have hst := K.2.2.1
  obtain ⟨b, M2, hf, hm, hz, hV2⟩ := K_deliveredTotal k M hk hV
  refine lv_aload_n hx hb dL_law_2739 rfl (lv_at hl 1 rfl) ?_
  refine g_callVi hC hI (C_X6_deliveredTotal l E x hf) Y_X6_deliveredTotal V_X6_deliveredTotal w341 (rcv_X6 hC hI) ⟨rfl, rfl⟩ ⟨Nat.le_of_ble_eq_true rfl, Nat.le_of_ble_eq_true rfl⟩ rfl hl.1 rfl (Nat.le_of_ble_eq_true rfl) dL_law_2740 ⟨show cells ≤ 603072 by omega, show slots ≤ 7186538 by omega⟩ (fun H locs hI => ?_)
  refine lv_aload_n hx hb dL_law_2743 rfl (lv_at hl 2 rfl) ?_
  refine g_callVi hC hI (C_X7_deliveredTotal l E x hm) Y_X7_deliveredTotal V_X7_deliveredTotal w1723 (rcv_X7 hC hI) ⟨rfl, rfl⟩ ⟨Nat.le_of_ble_eq_true rfl, Nat.le_of_ble_eq_true rfl⟩ rfl hl.1 rfl (Nat.le_of_ble_eq_true rfl) dL_law_2744 ⟨show cells ≤ 603072 by omega, show slots ≤ 7186538 by omega⟩ (fun H locs hI => ?_)
  refine lv_icmp_eq (tgt := 3393) hx hb dL_law_2747 rfl (fun _ => ?_) (fun h => absurd rfl h)
  refine W.widen (k := cells + 4) (n := slots + 24) (by omega) (by omega) ?_
  exact kk M2 _ H locs ls hV2 hI hl
theorem dL_law_2752 : decode cL_law 2752 = .ok (.aload_n 1, 1) := by decide +kernel
theorem dL_law_2753 : decode cL_law 2753 = .ok (.invokevirtual 347, 3) := by decide +kernel
theorem dL_law_2756 : decode cL_law 2756 = .ok (.aload_n 2, 1) := by decide +kernel
theorem dL_law_2757 : decode cL_law 2757 = .ok (.invokevirtual 350, 3) := by decide +kernel
theorem dL_law_2760 : decode cL_law 2760 = .ok (.if_icmp .eq 633, 3) := by decide +kernel
set_option maxRecDepth 100000 in
set_option maxHeartbeats 4000000 in
theorem Lc_49 {p : Program} {l : Launch} {e : Env} {s : State} {m : MethodId} {args : Array Value} {below : List Frame} {meth : Method} {c : Code} {H : Heap} {locs : List Loc} {cells slots : Nat} {Q : State → Prop} {E : gE} {M : gM} {x : gX} {b0 L i k : Nat} {xs : Nat → Int32} {ls : Array Slot} (K : gLw p l s m args c E b0 L xs) (hi : i + 5 ≤ L) (hk : k ≤ 580) (hcs : cells + 4 ≤ 603072 ∧ slots + 24 ≤ 7186538) (hV : gInv k M) (hI : gI E s M x H locs) (hl : lv_has ls 9 (gLv E b0 i))
    (kk : ∀ M2 x2 H2 locs2 ls2, gInv (k + 1) M2 → gI E s M2 x2 H2 locs2 → lv_has ls2 9 (gLv E b0 i) → W p l e room_1 s m args below meth c H2 locs2 (cells + 4) (slots + 24) Q (F0 m 3393 ls2 [])) : W p l e room_1 s m args below meth c H locs cells slots Q (F0 m 2752 ls []) := by
  have hC := K.1
  have hx := hC.1
  have hb := hC.2.1
  have hst := K.2.2.1
  obtain ⟨b, M2, hf, hm, hz, hV2⟩ := K_wrongTotal k M hk hV
  refine lv_aload_n hx hb dL_law_2752 rfl (lv_at hl 1 rfl) ?_
  refine g_callVi hC hI (C_X6_wrongTotal l E x hf) Y_X6_wrongTotal V_X6_wrongTotal w345 (rcv_X6 hC hI) ⟨rfl, rfl⟩ ⟨Nat.le_of_ble_eq_true rfl, Nat.le_of_ble_eq_true rfl⟩ rfl hl.1 rfl (Nat.le_of_ble_eq_true rfl) dL_law_2753 ⟨show cells ≤ 603072 by omega, show slots ≤ 7186538 by omega⟩ (fun H locs hI => ?_)
  refine lv_aload_n hx hb dL_law_2756 rfl (lv_at hl 2 rfl) ?_
  refine g_callVi hC hI (C_X7_wrongTotal l E x hm) Y_X7_wrongTotal V_X7_wrongTotal w1727 (rcv_X7 hC hI) ⟨rfl, rfl⟩ ⟨Nat.le_of_ble_eq_true rfl, Nat.le_of_ble_eq_true rfl⟩ rfl hl.1 rfl (Nat.le_of_ble_eq_true rfl) dL_law_2757 ⟨show cells ≤ 603072 by omega, show slots ≤ 7186538 by omega⟩ (fun H locs hI => ?_)
  refine lv_icmp_eq (tgt := 3393) hx hb dL_law_2760 rfl (fun _ => ?_) (fun h => absurd rfl h)
  refine W.widen (k := cells + 4) (n := slots + 24) (by omega) (by omega) ?_
  exact kk M2 _ H locs ls hV2 hI hl
theorem dL_law_2765 : decode cL_law 2765 = .ok (.aload_n 1, 1) := by decide +kernel
theorem dL_law_2766 : decode cL_law 2766 = .ok (.aload 4, 2) := by decide +kernel
theorem dL_law_2768 : decode cL_law 2768 = .ok (.invokestatic 351, 3) := by decide +kernel
theorem dL_law_2771 : decode cL_law 2771 = .ok (.istore 6, 2) := by decide +kernel
theorem dL_law_2773 : decode cL_law 2773 = .ok (.aload_n 2, 1) := by decide +kernel
theorem dL_law_2774 : decode cL_law 2774 = .ok (.invokevirtual 354, 3) := by decide +kernel
theorem dL_law_2777 : decode cL_law 2777 = .ok (.dstore 7, 2) := by decide +kernel
theorem dL_law_2779 : decode cL_law 2779 = .ok (.aload_n 2, 1) := by decide +kernel
theorem dL_law_2780 : decode cL_law 2780 = .ok (.invokevirtual 184, 3) := by decide +kernel
theorem dL_law_2783 : decode cL_law 2783 = .ok (.iload 6, 2) := by decide +kernel
theorem dL_law_2785 : decode cL_law 2785 = .ok (.if_icmp .eq 5, 3) := by decide +kernel
theorem dL_law_2790 : decode cL_law 2790 = .ok (.iload 6, 2) := by decide +kernel
theorem dL_law_2792 : decode cL_law 2792 = .ok (.ifCond .ne 35, 3) := by decide +kernel
theorem dL_law_2795 : decode cL_law 2795 = .ok (.aload 4, 2) := by decide +kernel
theorem dL_law_2797 : decode cL_law 2797 = .ok (.iconst 0, 1) := by decide +kernel
theorem dL_law_2798 : decode cL_law 2798 = .ok (.daload, 1) := by decide +kernel
theorem dL_law_2799 : decode cL_law 2799 = .ok (.dload 7, 2) := by decide +kernel
theorem dL_law_2801 : decode cL_law 2801 = .ok (.dcmp .l, 1) := by decide +kernel
theorem dL_law_2802 : decode cL_law 2802 = .ok (.ifCond .eq 25, 3) := by decide +kernel
theorem dL_law_2827 : decode cL_law 2827 = .ok (.goto 566, 3) := by decide +kernel
set_option maxRecDepth 100000 in
set_option maxHeartbeats 4000000 in
theorem Lc_50 {p : Program} {l : Launch} {e : Env} {s : State} {m : MethodId} {args : Array Value} {below : List Frame} {meth : Method} {c : Code} {H : Heap} {locs : List Loc} {cells slots : Nat} {Q : State → Prop} {E : gE} {M : gM} {x : gX} {b0 L i k : Nat} {xs : Nat → Int32} {ls : Array Slot} (K : gLw p l s m args c E b0 L xs) (hi : i + 5 ≤ L) (hk : k ≤ 580) (hcs : cells + 4 ≤ 603072 ∧ slots + 24 ≤ 7186538) (hV : gInv k M) (hI : gI E s M x H locs) (hl : lv_has ls 9 (gLv E b0 i))
    (kk : ∀ M2 x2 H2 locs2 ls2, gInv (k + 1) M2 → gI E s M2 x2 H2 locs2 → lv_has ls2 9 (gLv E b0 i) → W p l e room_1 s m args below meth c H2 locs2 (cells + 4) (slots + 24) Q (F0 m 3393 ls2 [])) : W p l e room_1 s m args below meth c H locs cells slots Q (F0 m 2765 ls []) := by
  have hC := K.1
  have hx := hC.1
  have hb := hC.2.1
  have hst := K.2.2.1
  obtain ⟨oc, M1, z, b, M2, hf, hm, hz, ha, hV2⟩ := K_meanHeight k M hk hV
  refine lv_aload_n hx hb dL_law_2765 rfl (lv_at hl 1 rfl) ?_
  refine lv_aload hx hb dL_law_2766 (lv_at hl 4 rfl) ?_
  refine g_callH (n := 2) hC K.2.1 hI (H_meanHeight l hst E x hf ha) w1028 w0 w1027 w1026 ⟨⟨by decide, by decide⟩, by decide +kernel⟩ ⟨rfl, rfl⟩ ⟨Nat.le_of_ble_eq_true rfl, Nat.le_of_ble_eq_true rfl⟩ rfl hl.1 rfl (Nat.le_of_ble_eq_true rfl) dL_law_2768 ⟨show cells + 1 ≤ 603072 by omega, show slots + 6 ≤ 7186538 by omega⟩ (fun H locs hI => ?_)
  refine lv_istore (lv' := (6, .int z) :: gLv E b0 i) hx hb dL_law_2771 hl (by decide) rfl (fun ls hl => ?_)
  refine lv_aload_n hx hb dL_law_2773 rfl (lv_at hl 3 rfl) ?_
  refine g_callV (rest := []) hC hI (C_X7_meanHeight l E _ hm) Y_X7_meanHeight V_X7_meanHeight w1731 ⟨rfl, rfl⟩ ⟨Nat.le_of_ble_eq_true rfl, Nat.le_of_ble_eq_true rfl⟩ (rcv_X7 hC hI) rfl hl.1 rfl (Nat.le_of_ble_eq_true rfl) dL_law_2774 (fun H locs hI => ?_) ⟨show cells + 1 ≤ 603072 by omega, show slots + 6 ≤ 7186538 by omega⟩
  refine lv_dstore (lv' := (7, .double b) :: (6, .int z) :: gLv E b0 i) hx hb dL_law_2777 hl (by decide) rfl (fun ls hl => ?_)
  refine g_tail_d K hI hz (fun h0 => ?_) hl ⟨show cells + 1 ≤ 603072 by omega, show slots + 6 ≤ 7186538 by omega⟩ (off := 566) (by decide) dL_law_2779 dL_law_2780 dL_law_2783 dL_law_2785 dL_law_2790 dL_law_2792 dL_law_2795 dL_law_2797 dL_law_2798 dL_law_2799 dL_law_2801 dL_law_2802 dL_law_2827 (fun H locs hI => ?_)
  · unfold gXd
    rw [if_pos h0]
    refine ⟨rfl, ?_⟩
    rcases ha with ⟨e1, -⟩ | ⟨q, En, hq, -, e2⟩
    · subst e1
      exact gn64_of (mh_n hf)
    · rw [e2] at h0
      match q, hq with
      | 0, _ => exact absurd h0 (by decide)
      | q + 1, hq => cases hq
  · refine W.widen (k := cells + 4) (n := slots + 24) (by omega) (by omega) ?_
    exact kk M2 _ H locs ls hV2 hI (lv_sub hl [2, 3, 4, 5, 6, 7] rfl)
theorem dL_law_2830 : decode cL_law 2830 = .ok (.aload_n 1, 1) := by decide +kernel
theorem dL_law_2831 : decode cL_law 2831 = .ok (.aload 4, 2) := by decide +kernel
theorem dL_law_2833 : decode cL_law 2833 = .ok (.invokestatic 355, 3) := by decide +kernel
theorem dL_law_2836 : decode cL_law 2836 = .ok (.istore 6, 2) := by decide +kernel
theorem dL_law_2838 : decode cL_law 2838 = .ok (.aload_n 2, 1) := by decide +kernel
theorem dL_law_2839 : decode cL_law 2839 = .ok (.invokevirtual 357, 3) := by decide +kernel
theorem dL_law_2842 : decode cL_law 2842 = .ok (.fstore 7, 2) := by decide +kernel
theorem dL_law_2844 : decode cL_law 2844 = .ok (.aload_n 2, 1) := by decide +kernel
theorem dL_law_2845 : decode cL_law 2845 = .ok (.invokevirtual 184, 3) := by decide +kernel
theorem dL_law_2848 : decode cL_law 2848 = .ok (.iload 6, 2) := by decide +kernel
theorem dL_law_2850 : decode cL_law 2850 = .ok (.if_icmp .eq 5, 3) := by decide +kernel
theorem dL_law_2855 : decode cL_law 2855 = .ok (.iload 6, 2) := by decide +kernel
theorem dL_law_2857 : decode cL_law 2857 = .ok (.ifCond .ne 36, 3) := by decide +kernel
theorem dL_law_2860 : decode cL_law 2860 = .ok (.aload 4, 2) := by decide +kernel
theorem dL_law_2862 : decode cL_law 2862 = .ok (.iconst 0, 1) := by decide +kernel
theorem dL_law_2863 : decode cL_law 2863 = .ok (.daload, 1) := by decide +kernel
theorem dL_law_2864 : decode cL_law 2864 = .ok (.fload 7, 2) := by decide +kernel
theorem dL_law_2866 : decode cL_law 2866 = .ok (.f2d, 1) := by decide +kernel
theorem dL_law_2867 : decode cL_law 2867 = .ok (.dcmp .l, 1) := by decide +kernel
theorem dL_law_2868 : decode cL_law 2868 = .ok (.ifCond .eq 25, 3) := by decide +kernel
theorem dL_law_2893 : decode cL_law 2893 = .ok (.goto 500, 3) := by decide +kernel
set_option maxRecDepth 100000 in
set_option maxHeartbeats 4000000 in
theorem Lc_51 {p : Program} {l : Launch} {e : Env} {s : State} {m : MethodId} {args : Array Value} {below : List Frame} {meth : Method} {c : Code} {H : Heap} {locs : List Loc} {cells slots : Nat} {Q : State → Prop} {E : gE} {M : gM} {x : gX} {b0 L i k : Nat} {xs : Nat → Int32} {ls : Array Slot} (K : gLw p l s m args c E b0 L xs) (hi : i + 5 ≤ L) (hk : k ≤ 580) (hcs : cells + 4 ≤ 603072 ∧ slots + 24 ≤ 7186538) (hV : gInv k M) (hI : gI E s M x H locs) (hl : lv_has ls 9 (gLv E b0 i))
    (kk : ∀ M2 x2 H2 locs2 ls2, gInv (k + 1) M2 → gI E s M2 x2 H2 locs2 → lv_has ls2 9 (gLv E b0 i) → W p l e room_1 s m args below meth c H2 locs2 (cells + 4) (slots + 24) Q (F0 m 3393 ls2 [])) : W p l e room_1 s m args below meth c H locs cells slots Q (F0 m 2830 ls []) := by
  have hC := K.1
  have hx := hC.1
  have hb := hC.2.1
  have hst := K.2.2.1
  obtain ⟨oc, M1, z, b, M2, hf, hm, hz, ha, hV2⟩ := K_rightShare k M hk hV
  refine lv_aload_n hx hb dL_law_2830 rfl (lv_at hl 1 rfl) ?_
  refine lv_aload hx hb dL_law_2831 (lv_at hl 4 rfl) ?_
  refine g_callH (n := 2) hC K.2.1 hI (H_rightShare l hst E x hf ha) w1051 w0 w1050 w1049 ⟨⟨by decide, by decide⟩, by decide +kernel⟩ ⟨rfl, rfl⟩ ⟨Nat.le_of_ble_eq_true rfl, Nat.le_of_ble_eq_true rfl⟩ rfl hl.1 rfl (Nat.le_of_ble_eq_true rfl) dL_law_2833 ⟨show cells + 1 ≤ 603072 by omega, show slots + 6 ≤ 7186538 by omega⟩ (fun H locs hI => ?_)
  refine lv_istore (lv' := (6, .int z) :: gLv E b0 i) hx hb dL_law_2836 hl (by decide) rfl (fun ls hl => ?_)
  refine lv_aload_n hx hb dL_law_2838 rfl (lv_at hl 3 rfl) ?_
  refine g_callV (rest := []) hC hI (C_X7_rightShare l E _ hm) Y_X7_rightShare V_X7_rightShare w1735 ⟨rfl, rfl⟩ ⟨Nat.le_of_ble_eq_true rfl, Nat.le_of_ble_eq_true rfl⟩ (rcv_X7 hC hI) rfl hl.1 rfl (Nat.le_of_ble_eq_true rfl) dL_law_2839 (fun H locs hI => ?_) ⟨show cells + 1 ≤ 603072 by omega, show slots + 6 ≤ 7186538 by omega⟩
  refine lv_fstore (lv' := (7, .float b) :: (6, .int z) :: gLv E b0 i) hx hb dL_law_2842 hl (by decide) rfl (fun ls hl => ?_)
  refine g_tail_f K hI hz (fun h0 => ?_) hl ⟨show cells + 1 ≤ 603072 by omega, show slots + 6 ≤ 7186538 by omega⟩ (off := 500) (by decide) dL_law_2844 dL_law_2845 dL_law_2848 dL_law_2850 dL_law_2855 dL_law_2857 dL_law_2860 dL_law_2862 dL_law_2863 dL_law_2864 dL_law_2866 dL_law_2867 dL_law_2868 dL_law_2893 (fun H locs hI => ?_)
  · unfold gXd
    rw [if_pos h0]
    refine ⟨rfl, ?_⟩
    rcases ha with ⟨e1, -⟩ | ⟨q, En, hq, -, e2⟩
    · subst e1
      exact gf2d (rs_n hf)
    · rw [e2] at h0
      match q, hq with
      | 0, _ => exact absurd h0 (by decide)
      | q + 1, hq => cases hq
  · refine W.widen (k := cells + 4) (n := slots + 24) (by omega) (by omega) ?_
    exact kk M2 _ H locs ls hV2 hI (lv_sub hl [2, 3, 4, 5, 6, 7] rfl)
theorem dL_law_2896 : decode cL_law 2896 = .ok (.aload_n 1, 1) := by decide +kernel
theorem dL_law_2897 : decode cL_law 2897 = .ok (.invokevirtual 358, 3) := by decide +kernel
theorem dL_law_2900 : decode cL_law 2900 = .ok (.aload_n 2, 1) := by decide +kernel
theorem dL_law_2901 : decode cL_law 2901 = .ok (.invokevirtual 362, 3) := by decide +kernel
theorem dL_law_2904 : decode cL_law 2904 = .ok (.if_icmp .eq 489, 3) := by decide +kernel
set_option maxRecDepth 100000 in
set_option maxHeartbeats 4000000 in
theorem Lc_52 {p : Program} {l : Launch} {e : Env} {s : State} {m : MethodId} {args : Array Value} {below : List Frame} {meth : Method} {c : Code} {H : Heap} {locs : List Loc} {cells slots : Nat} {Q : State → Prop} {E : gE} {M : gM} {x : gX} {b0 L i k : Nat} {xs : Nat → Int32} {ls : Array Slot} (K : gLw p l s m args c E b0 L xs) (hi : i + 5 ≤ L) (hk : k ≤ 580) (hcs : cells + 4 ≤ 603072 ∧ slots + 24 ≤ 7186538) (hV : gInv k M) (hI : gI E s M x H locs) (hl : lv_has ls 9 (gLv E b0 i))
    (kk : ∀ M2 x2 H2 locs2 ls2, gInv (k + 1) M2 → gI E s M2 x2 H2 locs2 → lv_has ls2 9 (gLv E b0 i) → W p l e room_1 s m args below meth c H2 locs2 (cells + 4) (slots + 24) Q (F0 m 3393 ls2 [])) : W p l e room_1 s m args below meth c H locs cells slots Q (F0 m 2896 ls []) := by
  have hC := K.1
  have hx := hC.1
  have hb := hC.2.1
  have hst := K.2.2.1
  obtain ⟨b, M1, M2, hf, hm, hz, hV2⟩ := K_isConsistent k M hk hV
  refine lv_aload_n hx hb dL_law_2896 rfl (lv_at hl 1 rfl) ?_
  refine g_callVi hC hI (C_X6_isConsistent l E x hf) Y_X6_isConsistent V_X6_isConsistent w349 (rcv_X6 hC hI) ⟨rfl, rfl⟩ ⟨Nat.le_of_ble_eq_true rfl, Nat.le_of_ble_eq_true rfl⟩ rfl hl.1 rfl (Nat.le_of_ble_eq_true rfl) dL_law_2897 ⟨show cells ≤ 603072 by omega, show slots ≤ 7186538 by omega⟩ (fun H locs hI => ?_)
  refine lv_aload_n hx hb dL_law_2900 rfl (lv_at hl 2 rfl) ?_
  refine g_callVi hC hI (C_X7_isConsistent l E x hm) Y_X7_isConsistent V_X7_isConsistent w1739 (rcv_X7 hC hI) ⟨rfl, rfl⟩ ⟨Nat.le_of_ble_eq_true rfl, Nat.le_of_ble_eq_true rfl⟩ rfl hl.1 rfl (Nat.le_of_ble_eq_true rfl) dL_law_2901 ⟨show cells ≤ 603072 by omega, show slots ≤ 7186538 by omega⟩ (fun H locs hI => ?_)
  refine lv_icmp_eq (tgt := 3393) hx hb dL_law_2904 rfl (fun _ => ?_) (fun h => absurd rfl h)
  refine W.widen (k := cells + 4) (n := slots + 24) (by omega) (by omega) ?_
  exact kk M2 _ H locs ls hV2 hI hl
theorem dL_law_2909 : decode cL_law 2909 = .ok (.aload_n 1, 1) := by decide +kernel
theorem dL_law_2910 : decode cL_law 2910 = .ok (.aload_n 0, 1) := by decide +kernel
theorem dL_law_2911 : decode cL_law 2911 = .ok (.iload 5, 2) := by decide +kernel
theorem dL_law_2913 : decode cL_law 2913 = .ok (.iconst 1, 1) := by decide +kernel
theorem dL_law_2914 : decode cL_law 2914 = .ok (.iadd, 1) := by decide +kernel
theorem dL_law_2915 : decode cL_law 2915 = .ok (.iaload, 1) := by decide +kernel
theorem dL_law_2916 : decode cL_law 2916 = .ok (.aload_n 0, 1) := by decide +kernel
theorem dL_law_2917 : decode cL_law 2917 = .ok (.iload 5, 2) := by decide +kernel
theorem dL_law_2919 : decode cL_law 2919 = .ok (.iconst 2, 1) := by decide +kernel
theorem dL_law_2920 : decode cL_law 2920 = .ok (.iadd, 1) := by decide +kernel
theorem dL_law_2921 : decode cL_law 2921 = .ok (.iaload, 1) := by decide +kernel
theorem dL_law_2922 : decode cL_law 2922 = .ok (.aload_n 3, 1) := by decide +kernel
theorem dL_law_2923 : decode cL_law 2923 = .ok (.invokestatic 363, 3) := by decide +kernel
theorem dL_law_2926 : decode cL_law 2926 = .ok (.istore 6, 2) := by decide +kernel
theorem dL_law_2928 : decode cL_law 2928 = .ok (.aload_n 2, 1) := by decide +kernel
theorem dL_law_2929 : decode cL_law 2929 = .ok (.aload_n 0, 1) := by decide +kernel
theorem dL_law_2930 : decode cL_law 2930 = .ok (.iload 5, 2) := by decide +kernel
theorem dL_law_2932 : decode cL_law 2932 = .ok (.iconst 1, 1) := by decide +kernel
theorem dL_law_2933 : decode cL_law 2933 = .ok (.iadd, 1) := by decide +kernel
theorem dL_law_2934 : decode cL_law 2934 = .ok (.iaload, 1) := by decide +kernel
theorem dL_law_2935 : decode cL_law 2935 = .ok (.aload_n 0, 1) := by decide +kernel
theorem dL_law_2936 : decode cL_law 2936 = .ok (.iload 5, 2) := by decide +kernel
theorem dL_law_2938 : decode cL_law 2938 = .ok (.iconst 2, 1) := by decide +kernel
theorem dL_law_2939 : decode cL_law 2939 = .ok (.iadd, 1) := by decide +kernel
theorem dL_law_2940 : decode cL_law 2940 = .ok (.iaload, 1) := by decide +kernel
theorem dL_law_2941 : decode cL_law 2941 = .ok (.invokevirtual 365, 3) := by decide +kernel
theorem dL_law_2944 : decode cL_law 2944 = .ok (.istore 7, 2) := by decide +kernel
theorem dL_law_2946 : decode cL_law 2946 = .ok (.aload_n 2, 1) := by decide +kernel
theorem dL_law_2947 : decode cL_law 2947 = .ok (.invokevirtual 184, 3) := by decide +kernel
theorem dL_law_2950 : decode cL_law 2950 = .ok (.iload 6, 2) := by decide +kernel
theorem dL_law_2952 : decode cL_law 2952 = .ok (.if_icmp .eq 5, 3) := by decide +kernel
theorem dL_law_2957 : decode cL_law 2957 = .ok (.iload 6, 2) := by decide +kernel
theorem dL_law_2959 : decode cL_law 2959 = .ok (.ifCond .ne 15, 3) := by decide +kernel
theorem dL_law_2962 : decode cL_law 2962 = .ok (.aload_n 3, 1) := by decide +kernel
theorem dL_law_2963 : decode cL_law 2963 = .ok (.iconst 0, 1) := by decide +kernel
theorem dL_law_2964 : decode cL_law 2964 = .ok (.laload, 1) := by decide +kernel
theorem dL_law_2965 : decode cL_law 2965 = .ok (.iload 7, 2) := by decide +kernel
theorem dL_law_2967 : decode cL_law 2967 = .ok (.i2l, 1) := by decide +kernel
theorem dL_law_2968 : decode cL_law 2968 = .ok (.lcmp, 1) := by decide +kernel
theorem dL_law_2969 : decode cL_law 2969 = .ok (.ifCond .eq 5, 3) := by decide +kernel
theorem dL_law_2974 : decode cL_law 2974 = .ok (.goto 419, 3) := by decide +kernel
set_option maxRecDepth 100000 in
set_option maxHeartbeats 4000000 in
theorem Lc_53 {p : Program} {l : Launch} {e : Env} {s : State} {m : MethodId} {args : Array Value} {below : List Frame} {meth : Method} {c : Code} {H : Heap} {locs : List Loc} {cells slots : Nat} {Q : State → Prop} {E : gE} {M : gM} {x : gX} {b0 L i k : Nat} {xs : Nat → Int32} {ls : Array Slot} (K : gLw p l s m args c E b0 L xs) (hi : i + 5 ≤ L) (hk : k ≤ 580) (hcs : cells + 4 ≤ 603072 ∧ slots + 24 ≤ 7186538) (hV : gInv k M) (hI : gI E s M x H locs) (hl : lv_has ls 9 (gLv E b0 i))
    (kk : ∀ M2 x2 H2 locs2 ls2, gInv (k + 1) M2 → gI E s M2 x2 H2 locs2 → lv_has ls2 9 (gLv E b0 i) → W p l e room_1 s m args below meth c H2 locs2 (cells + 4) (slots + 24) Q (F0 m 3393 ls2 [])) : W p l e room_1 s m args below meth c H locs cells slots Q (F0 m 2909 ls []) := by
  have hC := K.1
  have hx := hC.1
  have hb := hC.2.1
  have hst := K.2.2.1
  obtain ⟨oc, M1, z, b, M2, hf, hm, hz, ha, hV2⟩ := K_formatStack (xs (i + 1)) (xs (i + 2)) k M hk hV
  refine lv_aload_n hx hb dL_law_2909 rfl (lv_at hl 1 rfl) ?_
  refine g_arg K hI (j := 1) (by omega) (by decide) (lv_at hl 0 rfl) (lv_at hl 5 rfl) dL_law_2910 dL_law_2911 dL_law_2913 dL_law_2914 dL_law_2915 ?_
  refine g_arg K hI (j := 2) (by omega) (by decide) (lv_at hl 0 rfl) (lv_at hl 5 rfl) dL_law_2916 dL_law_2917 dL_law_2919 dL_law_2920 dL_law_2921 ?_
  refine lv_aload_n hx hb dL_law_2922 rfl (lv_at hl 3 rfl) ?_
  refine g_callH (n := 4) hC K.2.1 hI (H_formatStack l hst E x hf ha) w1059 w0 w1058 w1057 ⟨⟨by decide, by decide⟩, by decide +kernel⟩ ⟨rfl, rfl⟩ ⟨Nat.le_of_ble_eq_true rfl, Nat.le_of_ble_eq_true rfl⟩ rfl hl.1 rfl (Nat.le_of_ble_eq_true rfl) dL_law_2923 ⟨show cells + 3 ≤ 603072 by omega, show slots + 18 ≤ 7186538 by omega⟩ (fun H locs hI => ?_)
  refine lv_istore (lv' := (6, .int z) :: gLv E b0 i) hx hb dL_law_2926 hl (by decide) rfl (fun ls hl => ?_)
  refine lv_aload_n hx hb dL_law_2928 rfl (lv_at hl 3 rfl) ?_
  refine g_arg K hI (j := 1) (by omega) (by decide) (lv_at hl 1 rfl) (lv_at hl 6 rfl) dL_law_2929 dL_law_2930 dL_law_2932 dL_law_2933 dL_law_2934 ?_
  refine g_arg K hI (j := 2) (by omega) (by decide) (lv_at hl 1 rfl) (lv_at hl 6 rfl) dL_law_2935 dL_law_2936 dL_law_2938 dL_law_2939 dL_law_2940 ?_
  refine g_callVi hC hI (C_X7_formatStack l E _ hm) Y_X7_formatStack V_X7_formatStack w1743 (rcv_X7 hC hI) ⟨rfl, rfl⟩ ⟨Nat.le_of_ble_eq_true rfl, Nat.le_of_ble_eq_true rfl⟩ rfl hl.1 rfl (Nat.le_of_ble_eq_true rfl) dL_law_2941 ⟨show cells + 3 ≤ 603072 by omega, show slots + 18 ≤ 7186538 by omega⟩ (fun H locs hI => ?_)
  refine lv_istore (lv' := (7, .int b) :: (6, .int z) :: gLv E b0 i) hx hb dL_law_2944 hl (by decide) rfl (fun ls hl => ?_)
  refine g_tail_i K hI hz (fun h0 => ?_) hl ⟨show cells + 3 ≤ 603072 by omega, show slots + 18 ≤ 7186538 by omega⟩ (off := 419) (by decide) dL_law_2946 dL_law_2947 dL_law_2950 dL_law_2952 dL_law_2957 dL_law_2959 dL_law_2962 dL_law_2963 dL_law_2964 dL_law_2965 dL_law_2967 dL_law_2968 dL_law_2969 dL_law_2974 (fun H locs hI => ?_)
  · unfold gXo
    rw [if_pos h0]
    rfl
  · refine W.widen (k := cells + 4) (n := slots + 24) (by omega) (by omega) ?_
    exact kk M2 _ H locs ls hV2 hI (lv_sub hl [2, 3, 4, 5, 6, 7] rfl)
theorem dL_law_2977 : decode cL_law 2977 = .ok (.aload_n 1, 1) := by decide +kernel
theorem dL_law_2978 : decode cL_law 2978 = .ok (.aload_n 0, 1) := by decide +kernel
theorem dL_law_2979 : decode cL_law 2979 = .ok (.iload 5, 2) := by decide +kernel
theorem dL_law_2981 : decode cL_law 2981 = .ok (.iconst 1, 1) := by decide +kernel
theorem dL_law_2982 : decode cL_law 2982 = .ok (.iadd, 1) := by decide +kernel
theorem dL_law_2983 : decode cL_law 2983 = .ok (.iaload, 1) := by decide +kernel
theorem dL_law_2984 : decode cL_law 2984 = .ok (.aload_n 3, 1) := by decide +kernel
theorem dL_law_2985 : decode cL_law 2985 = .ok (.invokestatic 366, 3) := by decide +kernel
theorem dL_law_2988 : decode cL_law 2988 = .ok (.istore 6, 2) := by decide +kernel
theorem dL_law_2990 : decode cL_law 2990 = .ok (.aload_n 2, 1) := by decide +kernel
theorem dL_law_2991 : decode cL_law 2991 = .ok (.aload_n 0, 1) := by decide +kernel
theorem dL_law_2992 : decode cL_law 2992 = .ok (.iload 5, 2) := by decide +kernel
theorem dL_law_2994 : decode cL_law 2994 = .ok (.iconst 1, 1) := by decide +kernel
theorem dL_law_2995 : decode cL_law 2995 = .ok (.iadd, 1) := by decide +kernel
theorem dL_law_2996 : decode cL_law 2996 = .ok (.iaload, 1) := by decide +kernel
theorem dL_law_2997 : decode cL_law 2997 = .ok (.invokevirtual 368, 3) := by decide +kernel
theorem dL_law_3000 : decode cL_law 3000 = .ok (.istore 7, 2) := by decide +kernel
theorem dL_law_3002 : decode cL_law 3002 = .ok (.aload_n 2, 1) := by decide +kernel
theorem dL_law_3003 : decode cL_law 3003 = .ok (.invokevirtual 184, 3) := by decide +kernel
theorem dL_law_3006 : decode cL_law 3006 = .ok (.iload 6, 2) := by decide +kernel
theorem dL_law_3008 : decode cL_law 3008 = .ok (.if_icmp .eq 5, 3) := by decide +kernel
theorem dL_law_3013 : decode cL_law 3013 = .ok (.iload 6, 2) := by decide +kernel
theorem dL_law_3015 : decode cL_law 3015 = .ok (.ifCond .ne 15, 3) := by decide +kernel
theorem dL_law_3018 : decode cL_law 3018 = .ok (.aload_n 3, 1) := by decide +kernel
theorem dL_law_3019 : decode cL_law 3019 = .ok (.iconst 0, 1) := by decide +kernel
theorem dL_law_3020 : decode cL_law 3020 = .ok (.laload, 1) := by decide +kernel
theorem dL_law_3021 : decode cL_law 3021 = .ok (.iload 7, 2) := by decide +kernel
theorem dL_law_3023 : decode cL_law 3023 = .ok (.i2l, 1) := by decide +kernel
theorem dL_law_3024 : decode cL_law 3024 = .ok (.lcmp, 1) := by decide +kernel
theorem dL_law_3025 : decode cL_law 3025 = .ok (.ifCond .eq 5, 3) := by decide +kernel
theorem dL_law_3030 : decode cL_law 3030 = .ok (.goto 363, 3) := by decide +kernel
set_option maxRecDepth 100000 in
set_option maxHeartbeats 4000000 in
theorem Lc_54 {p : Program} {l : Launch} {e : Env} {s : State} {m : MethodId} {args : Array Value} {below : List Frame} {meth : Method} {c : Code} {H : Heap} {locs : List Loc} {cells slots : Nat} {Q : State → Prop} {E : gE} {M : gM} {x : gX} {b0 L i k : Nat} {xs : Nat → Int32} {ls : Array Slot} (K : gLw p l s m args c E b0 L xs) (hi : i + 5 ≤ L) (hk : k ≤ 580) (hcs : cells + 4 ≤ 603072 ∧ slots + 24 ≤ 7186538) (hV : gInv k M) (hI : gI E s M x H locs) (hl : lv_has ls 9 (gLv E b0 i))
    (kk : ∀ M2 x2 H2 locs2 ls2, gInv (k + 1) M2 → gI E s M2 x2 H2 locs2 → lv_has ls2 9 (gLv E b0 i) → W p l e room_1 s m args below meth c H2 locs2 (cells + 4) (slots + 24) Q (F0 m 3393 ls2 [])) : W p l e room_1 s m args below meth c H locs cells slots Q (F0 m 2977 ls []) := by
  have hC := K.1
  have hx := hC.1
  have hb := hC.2.1
  have hst := K.2.2.1
  obtain ⟨oc, M1, z, b, M2, hf, hm, hz, ha, hV2⟩ := K_formatBerth (xs (i + 1)) k M hk hV
  refine lv_aload_n hx hb dL_law_2977 rfl (lv_at hl 1 rfl) ?_
  refine g_arg K hI (j := 1) (by omega) (by decide) (lv_at hl 0 rfl) (lv_at hl 5 rfl) dL_law_2978 dL_law_2979 dL_law_2981 dL_law_2982 dL_law_2983 ?_
  refine lv_aload_n hx hb dL_law_2984 rfl (lv_at hl 3 rfl) ?_
  refine g_callH (n := 3) hC K.2.1 hI (H_formatBerth l hst E x hf ha) w1084 w0 w1083 w1082 ⟨⟨by decide, by decide⟩, by decide +kernel⟩ ⟨rfl, rfl⟩ ⟨Nat.le_of_ble_eq_true rfl, Nat.le_of_ble_eq_true rfl⟩ rfl hl.1 rfl (Nat.le_of_ble_eq_true rfl) dL_law_2985 ⟨show cells + 1 ≤ 603072 by omega, show slots + 6 ≤ 7186538 by omega⟩ (fun H locs hI => ?_)
  refine lv_istore (lv' := (6, .int z) :: gLv E b0 i) hx hb dL_law_2988 hl (by decide) rfl (fun ls hl => ?_)
  refine lv_aload_n hx hb dL_law_2990 rfl (lv_at hl 3 rfl) ?_
  refine g_arg K hI (j := 1) (by omega) (by decide) (lv_at hl 1 rfl) (lv_at hl 6 rfl) dL_law_2991 dL_law_2992 dL_law_2994 dL_law_2995 dL_law_2996 ?_
  refine g_callVi hC hI (C_X7_formatBerth l E _ hm) Y_X7_formatBerth V_X7_formatBerth w1755 (rcv_X7 hC hI) ⟨rfl, rfl⟩ ⟨Nat.le_of_ble_eq_true rfl, Nat.le_of_ble_eq_true rfl⟩ rfl hl.1 rfl (Nat.le_of_ble_eq_true rfl) dL_law_2997 ⟨show cells + 1 ≤ 603072 by omega, show slots + 6 ≤ 7186538 by omega⟩ (fun H locs hI => ?_)
  refine lv_istore (lv' := (7, .int b) :: (6, .int z) :: gLv E b0 i) hx hb dL_law_3000 hl (by decide) rfl (fun ls hl => ?_)
  refine g_tail_i K hI hz (fun h0 => ?_) hl ⟨show cells + 1 ≤ 603072 by omega, show slots + 6 ≤ 7186538 by omega⟩ (off := 363) (by decide) dL_law_3002 dL_law_3003 dL_law_3006 dL_law_3008 dL_law_3013 dL_law_3015 dL_law_3018 dL_law_3019 dL_law_3020 dL_law_3021 dL_law_3023 dL_law_3024 dL_law_3025 dL_law_3030 (fun H locs hI => ?_)
  · unfold gXo
    rw [if_pos h0]
    rfl
  · refine W.widen (k := cells + 4) (n := slots + 24) (by omega) (by omega) ?_
    exact kk M2 _ H locs ls hV2 hI (lv_sub hl [2, 3, 4, 5, 6, 7] rfl)
theorem dL_law_3033 : decode cL_law 3033 = .ok (.aload_n 1, 1) := by decide +kernel
theorem dL_law_3034 : decode cL_law 3034 = .ok (.aload_n 0, 1) := by decide +kernel
theorem dL_law_3035 : decode cL_law 3035 = .ok (.iload 5, 2) := by decide +kernel
theorem dL_law_3037 : decode cL_law 3037 = .ok (.iconst 1, 1) := by decide +kernel
theorem dL_law_3038 : decode cL_law 3038 = .ok (.iadd, 1) := by decide +kernel
theorem dL_law_3039 : decode cL_law 3039 = .ok (.iaload, 1) := by decide +kernel
theorem dL_law_3040 : decode cL_law 3040 = .ok (.aload_n 3, 1) := by decide +kernel
theorem dL_law_3041 : decode cL_law 3041 = .ok (.invokestatic 369, 3) := by decide +kernel
theorem dL_law_3044 : decode cL_law 3044 = .ok (.istore 6, 2) := by decide +kernel
theorem dL_law_3046 : decode cL_law 3046 = .ok (.aload_n 2, 1) := by decide +kernel
theorem dL_law_3047 : decode cL_law 3047 = .ok (.aload_n 0, 1) := by decide +kernel
theorem dL_law_3048 : decode cL_law 3048 = .ok (.iload 5, 2) := by decide +kernel
theorem dL_law_3050 : decode cL_law 3050 = .ok (.iconst 1, 1) := by decide +kernel
theorem dL_law_3051 : decode cL_law 3051 = .ok (.iadd, 1) := by decide +kernel
theorem dL_law_3052 : decode cL_law 3052 = .ok (.iaload, 1) := by decide +kernel
theorem dL_law_3053 : decode cL_law 3053 = .ok (.invokevirtual 371, 3) := by decide +kernel
theorem dL_law_3056 : decode cL_law 3056 = .ok (.istore 7, 2) := by decide +kernel
theorem dL_law_3058 : decode cL_law 3058 = .ok (.aload_n 2, 1) := by decide +kernel
theorem dL_law_3059 : decode cL_law 3059 = .ok (.invokevirtual 184, 3) := by decide +kernel
theorem dL_law_3062 : decode cL_law 3062 = .ok (.iload 6, 2) := by decide +kernel
theorem dL_law_3064 : decode cL_law 3064 = .ok (.if_icmp .eq 5, 3) := by decide +kernel
theorem dL_law_3069 : decode cL_law 3069 = .ok (.iload 6, 2) := by decide +kernel
theorem dL_law_3071 : decode cL_law 3071 = .ok (.ifCond .ne 15, 3) := by decide +kernel
theorem dL_law_3074 : decode cL_law 3074 = .ok (.aload_n 3, 1) := by decide +kernel
theorem dL_law_3075 : decode cL_law 3075 = .ok (.iconst 0, 1) := by decide +kernel
theorem dL_law_3076 : decode cL_law 3076 = .ok (.laload, 1) := by decide +kernel
theorem dL_law_3077 : decode cL_law 3077 = .ok (.iload 7, 2) := by decide +kernel
theorem dL_law_3079 : decode cL_law 3079 = .ok (.i2l, 1) := by decide +kernel
theorem dL_law_3080 : decode cL_law 3080 = .ok (.lcmp, 1) := by decide +kernel
theorem dL_law_3081 : decode cL_law 3081 = .ok (.ifCond .eq 5, 3) := by decide +kernel
theorem dL_law_3086 : decode cL_law 3086 = .ok (.goto 307, 3) := by decide +kernel
set_option maxRecDepth 100000 in
set_option maxHeartbeats 4000000 in
theorem Lc_55 {p : Program} {l : Launch} {e : Env} {s : State} {m : MethodId} {args : Array Value} {below : List Frame} {meth : Method} {c : Code} {H : Heap} {locs : List Loc} {cells slots : Nat} {Q : State → Prop} {E : gE} {M : gM} {x : gX} {b0 L i k : Nat} {xs : Nat → Int32} {ls : Array Slot} (K : gLw p l s m args c E b0 L xs) (hi : i + 5 ≤ L) (hk : k ≤ 580) (hcs : cells + 4 ≤ 603072 ∧ slots + 24 ≤ 7186538) (hV : gInv k M) (hI : gI E s M x H locs) (hl : lv_has ls 9 (gLv E b0 i))
    (kk : ∀ M2 x2 H2 locs2 ls2, gInv (k + 1) M2 → gI E s M2 x2 H2 locs2 → lv_has ls2 9 (gLv E b0 i) → W p l e room_1 s m args below meth c H2 locs2 (cells + 4) (slots + 24) Q (F0 m 3393 ls2 [])) : W p l e room_1 s m args below meth c H locs cells slots Q (F0 m 3033 ls []) := by
  have hC := K.1
  have hx := hC.1
  have hb := hC.2.1
  have hst := K.2.2.1
  obtain ⟨oc, M1, z, b, M2, hf, hm, hz, ha, hV2⟩ := K_lineChar (xs (i + 1)) k M hk hV
  refine lv_aload_n hx hb dL_law_3033 rfl (lv_at hl 1 rfl) ?_
  refine g_arg K hI (j := 1) (by omega) (by decide) (lv_at hl 0 rfl) (lv_at hl 5 rfl) dL_law_3034 dL_law_3035 dL_law_3037 dL_law_3038 dL_law_3039 ?_
  refine lv_aload_n hx hb dL_law_3040 rfl (lv_at hl 3 rfl) ?_
  refine g_callH (n := 3) hC K.2.1 hI (H_lineChar l hst E x hf ha) w1101 w0 w1100 w1099 ⟨⟨by decide, by decide⟩, by decide +kernel⟩ ⟨rfl, rfl⟩ ⟨Nat.le_of_ble_eq_true rfl, Nat.le_of_ble_eq_true rfl⟩ rfl hl.1 rfl (Nat.le_of_ble_eq_true rfl) dL_law_3041 ⟨show cells + 1 ≤ 603072 by omega, show slots + 6 ≤ 7186538 by omega⟩ (fun H locs hI => ?_)
  refine lv_istore (lv' := (6, .int z) :: gLv E b0 i) hx hb dL_law_3044 hl (by decide) rfl (fun ls hl => ?_)
  refine lv_aload_n hx hb dL_law_3046 rfl (lv_at hl 3 rfl) ?_
  refine g_arg K hI (j := 1) (by omega) (by decide) (lv_at hl 1 rfl) (lv_at hl 6 rfl) dL_law_3047 dL_law_3048 dL_law_3050 dL_law_3051 dL_law_3052 ?_
  refine g_callVi hC hI (C_X7_lineChar l E _ hm) Y_X7_lineChar V_X7_lineChar w1763 (rcv_X7 hC hI) ⟨rfl, rfl⟩ ⟨Nat.le_of_ble_eq_true rfl, Nat.le_of_ble_eq_true rfl⟩ rfl hl.1 rfl (Nat.le_of_ble_eq_true rfl) dL_law_3053 ⟨show cells + 1 ≤ 603072 by omega, show slots + 6 ≤ 7186538 by omega⟩ (fun H locs hI => ?_)
  refine lv_istore (lv' := (7, .int b) :: (6, .int z) :: gLv E b0 i) hx hb dL_law_3056 hl (by decide) rfl (fun ls hl => ?_)
  refine g_tail_i K hI hz (fun h0 => ?_) hl ⟨show cells + 1 ≤ 603072 by omega, show slots + 6 ≤ 7186538 by omega⟩ (off := 307) (by decide) dL_law_3058 dL_law_3059 dL_law_3062 dL_law_3064 dL_law_3069 dL_law_3071 dL_law_3074 dL_law_3075 dL_law_3076 dL_law_3077 dL_law_3079 dL_law_3080 dL_law_3081 dL_law_3086 (fun H locs hI => ?_)
  · unfold gXo
    rw [if_pos h0]
    rfl
  · refine W.widen (k := cells + 4) (n := slots + 24) (by omega) (by omega) ?_
    exact kk M2 _ H locs ls hV2 hI (lv_sub hl [2, 3, 4, 5, 6, 7] rfl)
theorem dL_law_3089 : decode cL_law 3089 = .ok (.aload_n 1, 1) := by decide +kernel
theorem dL_law_3090 : decode cL_law 3090 = .ok (.aload_n 0, 1) := by decide +kernel
theorem dL_law_3091 : decode cL_law 3091 = .ok (.iload 5, 2) := by decide +kernel
theorem dL_law_3093 : decode cL_law 3093 = .ok (.iconst 1, 1) := by decide +kernel
theorem dL_law_3094 : decode cL_law 3094 = .ok (.iadd, 1) := by decide +kernel
theorem dL_law_3095 : decode cL_law 3095 = .ok (.iaload, 1) := by decide +kernel
theorem dL_law_3096 : decode cL_law 3096 = .ok (.i2c, 1) := by decide +kernel
theorem dL_law_3097 : decode cL_law 3097 = .ok (.aload_n 3, 1) := by decide +kernel
theorem dL_law_3098 : decode cL_law 3098 = .ok (.invokestatic 372, 3) := by decide +kernel
theorem dL_law_3101 : decode cL_law 3101 = .ok (.istore 6, 2) := by decide +kernel
theorem dL_law_3103 : decode cL_law 3103 = .ok (.aload_n 2, 1) := by decide +kernel
theorem dL_law_3104 : decode cL_law 3104 = .ok (.aload_n 0, 1) := by decide +kernel
theorem dL_law_3105 : decode cL_law 3105 = .ok (.iload 5, 2) := by decide +kernel
theorem dL_law_3107 : decode cL_law 3107 = .ok (.iconst 1, 1) := by decide +kernel
theorem dL_law_3108 : decode cL_law 3108 = .ok (.iadd, 1) := by decide +kernel
theorem dL_law_3109 : decode cL_law 3109 = .ok (.iaload, 1) := by decide +kernel
theorem dL_law_3110 : decode cL_law 3110 = .ok (.i2c, 1) := by decide +kernel
theorem dL_law_3111 : decode cL_law 3111 = .ok (.invokevirtual 375, 3) := by decide +kernel
theorem dL_law_3114 : decode cL_law 3114 = .ok (.istore 7, 2) := by decide +kernel
theorem dL_law_3116 : decode cL_law 3116 = .ok (.aload_n 2, 1) := by decide +kernel
theorem dL_law_3117 : decode cL_law 3117 = .ok (.invokevirtual 184, 3) := by decide +kernel
theorem dL_law_3120 : decode cL_law 3120 = .ok (.iload 6, 2) := by decide +kernel
theorem dL_law_3122 : decode cL_law 3122 = .ok (.if_icmp .eq 5, 3) := by decide +kernel
theorem dL_law_3127 : decode cL_law 3127 = .ok (.iload 6, 2) := by decide +kernel
theorem dL_law_3129 : decode cL_law 3129 = .ok (.ifCond .ne 15, 3) := by decide +kernel
theorem dL_law_3132 : decode cL_law 3132 = .ok (.aload_n 3, 1) := by decide +kernel
theorem dL_law_3133 : decode cL_law 3133 = .ok (.iconst 0, 1) := by decide +kernel
theorem dL_law_3134 : decode cL_law 3134 = .ok (.laload, 1) := by decide +kernel
theorem dL_law_3135 : decode cL_law 3135 = .ok (.iload 7, 2) := by decide +kernel
theorem dL_law_3137 : decode cL_law 3137 = .ok (.i2l, 1) := by decide +kernel
theorem dL_law_3138 : decode cL_law 3138 = .ok (.lcmp, 1) := by decide +kernel
theorem dL_law_3139 : decode cL_law 3139 = .ok (.ifCond .eq 5, 3) := by decide +kernel
theorem dL_law_3144 : decode cL_law 3144 = .ok (.goto 249, 3) := by decide +kernel
set_option maxRecDepth 100000 in
set_option maxHeartbeats 4000000 in
theorem Lc_56 {p : Program} {l : Launch} {e : Env} {s : State} {m : MethodId} {args : Array Value} {below : List Frame} {meth : Method} {c : Code} {H : Heap} {locs : List Loc} {cells slots : Nat} {Q : State → Prop} {E : gE} {M : gM} {x : gX} {b0 L i k : Nat} {xs : Nat → Int32} {ls : Array Slot} (K : gLw p l s m args c E b0 L xs) (hi : i + 5 ≤ L) (hk : k ≤ 580) (hcs : cells + 4 ≤ 603072 ∧ slots + 24 ≤ 7186538) (hV : gInv k M) (hI : gI E s M x H locs) (hl : lv_has ls 9 (gLv E b0 i))
    (kk : ∀ M2 x2 H2 locs2 ls2, gInv (k + 1) M2 → gI E s M2 x2 H2 locs2 → lv_has ls2 9 (gLv E b0 i) → W p l e room_1 s m args below meth c H2 locs2 (cells + 4) (slots + 24) Q (F0 m 3393 ls2 [])) : W p l e room_1 s m args below meth c H locs cells slots Q (F0 m 3089 ls []) := by
  have hC := K.1
  have hx := hC.1
  have hb := hC.2.1
  have hst := K.2.2.1
  obtain ⟨oc, M1, z, b, M2, hf, hm, hz, ha, hV2⟩ := K_append (((xs (i + 1)).toUInt32 % 65536).toInt32) k M hk hV
  refine lv_aload_n hx hb dL_law_3089 rfl (lv_at hl 1 rfl) ?_
  refine g_arg K hI (j := 1) (by omega) (by decide) (lv_at hl 0 rfl) (lv_at hl 5 rfl) dL_law_3090 dL_law_3091 dL_law_3093 dL_law_3094 dL_law_3095 ?_
  refine lv_i2c (v := ((xs (i + 1)).toUInt32 % 65536).toInt32) hx hb dL_law_3096 rfl ?_
  refine lv_aload_n hx hb dL_law_3097 rfl (lv_at hl 3 rfl) ?_
  refine g_callH (n := 3) hC K.2.1 hI (H_append l hst E x hf ha) w1113 w0 w1112 w1111 ⟨⟨by decide, by decide⟩, by decide +kernel⟩ ⟨rfl, rfl⟩ ⟨Nat.le_of_ble_eq_true rfl, Nat.le_of_ble_eq_true rfl⟩ rfl hl.1 rfl (Nat.le_of_ble_eq_true rfl) dL_law_3098 ⟨show cells + 1 ≤ 603072 by omega, show slots + 6 ≤ 7186538 by omega⟩ (fun H locs hI => ?_)
  refine lv_istore (lv' := (6, .int z) :: gLv E b0 i) hx hb dL_law_3101 hl (by decide) rfl (fun ls hl => ?_)
  refine lv_aload_n hx hb dL_law_3103 rfl (lv_at hl 3 rfl) ?_
  refine g_arg K hI (j := 1) (by omega) (by decide) (lv_at hl 1 rfl) (lv_at hl 6 rfl) dL_law_3104 dL_law_3105 dL_law_3107 dL_law_3108 dL_law_3109 ?_
  refine lv_i2c (v := ((xs (i + 1)).toUInt32 % 65536).toInt32) hx hb dL_law_3110 rfl ?_
  refine g_callVi hC hI (C_X7_append l E _ hm) Y_X7_append V_X7_append w1767 (rcv_X7 hC hI) ⟨rfl, rfl⟩ ⟨Nat.le_of_ble_eq_true rfl, Nat.le_of_ble_eq_true rfl⟩ rfl hl.1 rfl (Nat.le_of_ble_eq_true rfl) dL_law_3111 ⟨show cells + 1 ≤ 603072 by omega, show slots + 6 ≤ 7186538 by omega⟩ (fun H locs hI => ?_)
  refine lv_istore (lv' := (7, .int b) :: (6, .int z) :: gLv E b0 i) hx hb dL_law_3114 hl (by decide) rfl (fun ls hl => ?_)
  refine g_tail_i K hI hz (fun h0 => ?_) hl ⟨show cells + 1 ≤ 603072 by omega, show slots + 6 ≤ 7186538 by omega⟩ (off := 249) (by decide) dL_law_3116 dL_law_3117 dL_law_3120 dL_law_3122 dL_law_3127 dL_law_3129 dL_law_3132 dL_law_3133 dL_law_3134 dL_law_3135 dL_law_3137 dL_law_3138 dL_law_3139 dL_law_3144 (fun H locs hI => ?_)
  · unfold gXo
    rw [if_pos h0]
    rfl
  · refine W.widen (k := cells + 4) (n := slots + 24) (by omega) (by omega) ?_
    exact kk M2 _ H locs ls hV2 hI (lv_sub hl [2, 3, 4, 5, 6, 7] rfl)
theorem dL_law_3147 : decode cL_law 3147 = .ok (.aload_n 1, 1) := by decide +kernel
theorem dL_law_3148 : decode cL_law 3148 = .ok (.aload_n 3, 1) := by decide +kernel
theorem dL_law_3149 : decode cL_law 3149 = .ok (.invokestatic 376, 3) := by decide +kernel
theorem dL_law_3152 : decode cL_law 3152 = .ok (.istore 6, 2) := by decide +kernel
theorem dL_law_3154 : decode cL_law 3154 = .ok (.aload_n 2, 1) := by decide +kernel
theorem dL_law_3155 : decode cL_law 3155 = .ok (.invokevirtual 378, 3) := by decide +kernel
theorem dL_law_3158 : decode cL_law 3158 = .ok (.istore 7, 2) := by decide +kernel
theorem dL_law_3160 : decode cL_law 3160 = .ok (.aload_n 2, 1) := by decide +kernel
theorem dL_law_3161 : decode cL_law 3161 = .ok (.invokevirtual 184, 3) := by decide +kernel
theorem dL_law_3164 : decode cL_law 3164 = .ok (.iload 6, 2) := by decide +kernel
theorem dL_law_3166 : decode cL_law 3166 = .ok (.if_icmp .eq 5, 3) := by decide +kernel
theorem dL_law_3171 : decode cL_law 3171 = .ok (.iload 6, 2) := by decide +kernel
theorem dL_law_3173 : decode cL_law 3173 = .ok (.ifCond .ne 15, 3) := by decide +kernel
theorem dL_law_3176 : decode cL_law 3176 = .ok (.aload_n 3, 1) := by decide +kernel
theorem dL_law_3177 : decode cL_law 3177 = .ok (.iconst 0, 1) := by decide +kernel
theorem dL_law_3178 : decode cL_law 3178 = .ok (.laload, 1) := by decide +kernel
theorem dL_law_3179 : decode cL_law 3179 = .ok (.iload 7, 2) := by decide +kernel
theorem dL_law_3181 : decode cL_law 3181 = .ok (.i2l, 1) := by decide +kernel
theorem dL_law_3182 : decode cL_law 3182 = .ok (.lcmp, 1) := by decide +kernel
theorem dL_law_3183 : decode cL_law 3183 = .ok (.ifCond .eq 5, 3) := by decide +kernel
theorem dL_law_3188 : decode cL_law 3188 = .ok (.goto 205, 3) := by decide +kernel
set_option maxRecDepth 100000 in
set_option maxHeartbeats 4000000 in
theorem Lc_57 {p : Program} {l : Launch} {e : Env} {s : State} {m : MethodId} {args : Array Value} {below : List Frame} {meth : Method} {c : Code} {H : Heap} {locs : List Loc} {cells slots : Nat} {Q : State → Prop} {E : gE} {M : gM} {x : gX} {b0 L i k : Nat} {xs : Nat → Int32} {ls : Array Slot} (K : gLw p l s m args c E b0 L xs) (hi : i + 5 ≤ L) (hk : k ≤ 580) (hcs : cells + 4 ≤ 603072 ∧ slots + 24 ≤ 7186538) (hV : gInv k M) (hI : gI E s M x H locs) (hl : lv_has ls 9 (gLv E b0 i))
    (kk : ∀ M2 x2 H2 locs2 ls2, gInv (k + 1) M2 → gI E s M2 x2 H2 locs2 → lv_has ls2 9 (gLv E b0 i) → W p l e room_1 s m args below meth c H2 locs2 (cells + 4) (slots + 24) Q (F0 m 3393 ls2 [])) : W p l e room_1 s m args below meth c H locs cells slots Q (F0 m 3147 ls []) := by
  have hC := K.1
  have hx := hC.1
  have hb := hC.2.1
  have hst := K.2.2.1
  obtain ⟨oc, M1, z, b, M2, hf, hm, hz, ha, hV2⟩ := K_run k M hk hV
  refine lv_aload_n hx hb dL_law_3147 rfl (lv_at hl 1 rfl) ?_
  refine lv_aload_n hx hb dL_law_3148 rfl (lv_at hl 3 rfl) ?_
  refine g_callH (n := 2) hC K.2.1 hI (H_run l hst E x hf ha) w1126 w0 w1125 w1124 ⟨⟨by decide, by decide⟩, by decide +kernel⟩ ⟨rfl, rfl⟩ ⟨Nat.le_of_ble_eq_true rfl, Nat.le_of_ble_eq_true rfl⟩ rfl hl.1 rfl (Nat.le_of_ble_eq_true rfl) dL_law_3149 ⟨show cells + 1 ≤ 603072 by omega, show slots + 6 ≤ 7186538 by omega⟩ (fun H locs hI => ?_)
  refine lv_istore (lv' := (6, .int z) :: gLv E b0 i) hx hb dL_law_3152 hl (by decide) rfl (fun ls hl => ?_)
  refine lv_aload_n hx hb dL_law_3154 rfl (lv_at hl 3 rfl) ?_
  refine g_callVi hC hI (C_X7_run l E _ hm) Y_X7_run V_X7_run w1771 (rcv_X7 hC hI) ⟨rfl, rfl⟩ ⟨Nat.le_of_ble_eq_true rfl, Nat.le_of_ble_eq_true rfl⟩ rfl hl.1 rfl (Nat.le_of_ble_eq_true rfl) dL_law_3155 ⟨show cells + 1 ≤ 603072 by omega, show slots + 6 ≤ 7186538 by omega⟩ (fun H locs hI => ?_)
  refine lv_istore (lv' := (7, .int b) :: (6, .int z) :: gLv E b0 i) hx hb dL_law_3158 hl (by decide) rfl (fun ls hl => ?_)
  refine g_tail_i K hI hz (fun h0 => ?_) hl ⟨show cells + 1 ≤ 603072 by omega, show slots + 6 ≤ 7186538 by omega⟩ (off := 205) (by decide) dL_law_3160 dL_law_3161 dL_law_3164 dL_law_3166 dL_law_3171 dL_law_3173 dL_law_3176 dL_law_3177 dL_law_3178 dL_law_3179 dL_law_3181 dL_law_3182 dL_law_3183 dL_law_3188 (fun H locs hI => ?_)
  · unfold gXo
    rw [if_pos h0]
    rfl
  · refine W.widen (k := cells + 4) (n := slots + 24) (by omega) (by omega) ?_
    exact kk M2 _ H locs ls hV2 hI (lv_sub hl [2, 3, 4, 5, 6, 7] rfl)
theorem dL_law_3191 : decode cL_law 3191 = .ok (.aload_n 1, 1) := by decide +kernel
theorem dL_law_3192 : decode cL_law 3192 = .ok (.aload_n 3, 1) := by decide +kernel
theorem dL_law_3193 : decode cL_law 3193 = .ok (.invokestatic 379, 3) := by decide +kernel
theorem dL_law_3196 : decode cL_law 3196 = .ok (.istore 6, 2) := by decide +kernel
theorem dL_law_3198 : decode cL_law 3198 = .ok (.aload_n 2, 1) := by decide +kernel
theorem dL_law_3199 : decode cL_law 3199 = .ok (.invokevirtual 381, 3) := by decide +kernel
theorem dL_law_3202 : decode cL_law 3202 = .ok (.istore 7, 2) := by decide +kernel
theorem dL_law_3204 : decode cL_law 3204 = .ok (.aload_n 2, 1) := by decide +kernel
theorem dL_law_3205 : decode cL_law 3205 = .ok (.invokevirtual 184, 3) := by decide +kernel
theorem dL_law_3208 : decode cL_law 3208 = .ok (.iload 6, 2) := by decide +kernel
theorem dL_law_3210 : decode cL_law 3210 = .ok (.if_icmp .eq 5, 3) := by decide +kernel
theorem dL_law_3215 : decode cL_law 3215 = .ok (.iload 6, 2) := by decide +kernel
theorem dL_law_3217 : decode cL_law 3217 = .ok (.ifCond .ne 15, 3) := by decide +kernel
theorem dL_law_3220 : decode cL_law 3220 = .ok (.aload_n 3, 1) := by decide +kernel
theorem dL_law_3221 : decode cL_law 3221 = .ok (.iconst 0, 1) := by decide +kernel
theorem dL_law_3222 : decode cL_law 3222 = .ok (.laload, 1) := by decide +kernel
theorem dL_law_3223 : decode cL_law 3223 = .ok (.iload 7, 2) := by decide +kernel
theorem dL_law_3225 : decode cL_law 3225 = .ok (.i2l, 1) := by decide +kernel
theorem dL_law_3226 : decode cL_law 3226 = .ok (.lcmp, 1) := by decide +kernel
theorem dL_law_3227 : decode cL_law 3227 = .ok (.ifCond .eq 5, 3) := by decide +kernel
theorem dL_law_3232 : decode cL_law 3232 = .ok (.goto 161, 3) := by decide +kernel
set_option maxRecDepth 100000 in
set_option maxHeartbeats 4000000 in
theorem Lc_58 {p : Program} {l : Launch} {e : Env} {s : State} {m : MethodId} {args : Array Value} {below : List Frame} {meth : Method} {c : Code} {H : Heap} {locs : List Loc} {cells slots : Nat} {Q : State → Prop} {E : gE} {M : gM} {x : gX} {b0 L i k : Nat} {xs : Nat → Int32} {ls : Array Slot} (K : gLw p l s m args c E b0 L xs) (hi : i + 5 ≤ L) (hk : k ≤ 580) (hcs : cells + 4 ≤ 603072 ∧ slots + 24 ≤ 7186538) (hV : gInv k M) (hI : gI E s M x H locs) (hl : lv_has ls 9 (gLv E b0 i))
    (kk : ∀ M2 x2 H2 locs2 ls2, gInv (k + 1) M2 → gI E s M2 x2 H2 locs2 → lv_has ls2 9 (gLv E b0 i) → W p l e room_1 s m args below meth c H2 locs2 (cells + 4) (slots + 24) Q (F0 m 3393 ls2 [])) : W p l e room_1 s m args below meth c H locs cells slots Q (F0 m 3191 ls []) := by
  have hC := K.1
  have hx := hC.1
  have hb := hC.2.1
  have hst := K.2.2.1
  obtain ⟨oc, M1, z, b, M2, hf, hm, hz, ha, hV2⟩ := K_errorPosition k M hk hV
  refine lv_aload_n hx hb dL_law_3191 rfl (lv_at hl 1 rfl) ?_
  refine lv_aload_n hx hb dL_law_3192 rfl (lv_at hl 3 rfl) ?_
  refine g_callH (n := 2) hC K.2.1 hI (H_errorPosition l hst E x hf ha) w1286 w0 w1285 w1284 ⟨⟨by decide, by decide⟩, by decide +kernel⟩ ⟨rfl, rfl⟩ ⟨Nat.le_of_ble_eq_true rfl, Nat.le_of_ble_eq_true rfl⟩ rfl hl.1 rfl (Nat.le_of_ble_eq_true rfl) dL_law_3193 ⟨show cells + 1 ≤ 603072 by omega, show slots + 6 ≤ 7186538 by omega⟩ (fun H locs hI => ?_)
  refine lv_istore (lv' := (6, .int z) :: gLv E b0 i) hx hb dL_law_3196 hl (by decide) rfl (fun ls hl => ?_)
  refine lv_aload_n hx hb dL_law_3198 rfl (lv_at hl 3 rfl) ?_
  refine g_callVi hC hI (C_X7_errorPosition l E _ hm) Y_X7_errorPosition V_X7_errorPosition w1815 (rcv_X7 hC hI) ⟨rfl, rfl⟩ ⟨Nat.le_of_ble_eq_true rfl, Nat.le_of_ble_eq_true rfl⟩ rfl hl.1 rfl (Nat.le_of_ble_eq_true rfl) dL_law_3199 ⟨show cells + 1 ≤ 603072 by omega, show slots + 6 ≤ 7186538 by omega⟩ (fun H locs hI => ?_)
  refine lv_istore (lv' := (7, .int b) :: (6, .int z) :: gLv E b0 i) hx hb dL_law_3202 hl (by decide) rfl (fun ls hl => ?_)
  refine g_tail_i K hI hz (fun h0 => ?_) hl ⟨show cells + 1 ≤ 603072 by omega, show slots + 6 ≤ 7186538 by omega⟩ (off := 161) (by decide) dL_law_3204 dL_law_3205 dL_law_3208 dL_law_3210 dL_law_3215 dL_law_3217 dL_law_3220 dL_law_3221 dL_law_3222 dL_law_3223 dL_law_3225 dL_law_3226 dL_law_3227 dL_law_3232 (fun H locs hI => ?_)
  · unfold gXo
    rw [if_pos h0]
    rfl
  · refine W.widen (k := cells + 4) (n := slots + 24) (by omega) (by omega) ?_
    exact kk M2 _ H locs ls hV2 hI (lv_sub hl [2, 3, 4, 5, 6, 7] rfl)
theorem dL_law_3235 : decode cL_law 3235 = .ok (.aload_n 1, 1) := by decide +kernel
theorem dL_law_3236 : decode cL_law 3236 = .ok (.aload_n 3, 1) := by decide +kernel
theorem dL_law_3237 : decode cL_law 3237 = .ok (.invokestatic 382, 3) := by decide +kernel
theorem dL_law_3240 : decode cL_law 3240 = .ok (.istore 6, 2) := by decide +kernel
theorem dL_law_3242 : decode cL_law 3242 = .ok (.aload_n 2, 1) := by decide +kernel
theorem dL_law_3243 : decode cL_law 3243 = .ok (.invokevirtual 384, 3) := by decide +kernel
theorem dL_law_3246 : decode cL_law 3246 = .ok (.istore 7, 2) := by decide +kernel
theorem dL_law_3248 : decode cL_law 3248 = .ok (.aload_n 2, 1) := by decide +kernel
theorem dL_law_3249 : decode cL_law 3249 = .ok (.invokevirtual 184, 3) := by decide +kernel
theorem dL_law_3252 : decode cL_law 3252 = .ok (.iload 6, 2) := by decide +kernel
theorem dL_law_3254 : decode cL_law 3254 = .ok (.if_icmp .eq 5, 3) := by decide +kernel
theorem dL_law_3259 : decode cL_law 3259 = .ok (.iload 6, 2) := by decide +kernel
theorem dL_law_3261 : decode cL_law 3261 = .ok (.ifCond .ne 15, 3) := by decide +kernel
theorem dL_law_3264 : decode cL_law 3264 = .ok (.aload_n 3, 1) := by decide +kernel
theorem dL_law_3265 : decode cL_law 3265 = .ok (.iconst 0, 1) := by decide +kernel
theorem dL_law_3266 : decode cL_law 3266 = .ok (.laload, 1) := by decide +kernel
theorem dL_law_3267 : decode cL_law 3267 = .ok (.iload 7, 2) := by decide +kernel
theorem dL_law_3269 : decode cL_law 3269 = .ok (.i2l, 1) := by decide +kernel
theorem dL_law_3270 : decode cL_law 3270 = .ok (.lcmp, 1) := by decide +kernel
theorem dL_law_3271 : decode cL_law 3271 = .ok (.ifCond .eq 5, 3) := by decide +kernel
theorem dL_law_3276 : decode cL_law 3276 = .ok (.goto 117, 3) := by decide +kernel
set_option maxRecDepth 100000 in
set_option maxHeartbeats 4000000 in
theorem Lc_59 {p : Program} {l : Launch} {e : Env} {s : State} {m : MethodId} {args : Array Value} {below : List Frame} {meth : Method} {c : Code} {H : Heap} {locs : List Loc} {cells slots : Nat} {Q : State → Prop} {E : gE} {M : gM} {x : gX} {b0 L i k : Nat} {xs : Nat → Int32} {ls : Array Slot} (K : gLw p l s m args c E b0 L xs) (hi : i + 5 ≤ L) (hk : k ≤ 580) (hcs : cells + 4 ≤ 603072 ∧ slots + 24 ≤ 7186538) (hV : gInv k M) (hI : gI E s M x H locs) (hl : lv_has ls 9 (gLv E b0 i))
    (kk : ∀ M2 x2 H2 locs2 ls2, gInv (k + 1) M2 → gI E s M2 x2 H2 locs2 → lv_has ls2 9 (gLv E b0 i) → W p l e room_1 s m args below meth c H2 locs2 (cells + 4) (slots + 24) Q (F0 m 3393 ls2 [])) : W p l e room_1 s m args below meth c H locs cells slots Q (F0 m 3235 ls []) := by
  have hC := K.1
  have hx := hC.1
  have hb := hC.2.1
  have hst := K.2.2.1
  obtain ⟨oc, M1, z, b, M2, hf, hm, hz, ha, hV2⟩ := K_failedCommand k M hk hV
  refine lv_aload_n hx hb dL_law_3235 rfl (lv_at hl 1 rfl) ?_
  refine lv_aload_n hx hb dL_law_3236 rfl (lv_at hl 3 rfl) ?_
  refine g_callH (n := 2) hC K.2.1 hI (H_failedCommand l hst E x hf ha) w1293 w0 w1292 w1291 ⟨⟨by decide, by decide⟩, by decide +kernel⟩ ⟨rfl, rfl⟩ ⟨Nat.le_of_ble_eq_true rfl, Nat.le_of_ble_eq_true rfl⟩ rfl hl.1 rfl (Nat.le_of_ble_eq_true rfl) dL_law_3237 ⟨show cells + 1 ≤ 603072 by omega, show slots + 6 ≤ 7186538 by omega⟩ (fun H locs hI => ?_)
  refine lv_istore (lv' := (6, .int z) :: gLv E b0 i) hx hb dL_law_3240 hl (by decide) rfl (fun ls hl => ?_)
  refine lv_aload_n hx hb dL_law_3242 rfl (lv_at hl 3 rfl) ?_
  refine g_callVi hC hI (C_X7_failedCommand l E _ hm) Y_X7_failedCommand V_X7_failedCommand w1819 (rcv_X7 hC hI) ⟨rfl, rfl⟩ ⟨Nat.le_of_ble_eq_true rfl, Nat.le_of_ble_eq_true rfl⟩ rfl hl.1 rfl (Nat.le_of_ble_eq_true rfl) dL_law_3243 ⟨show cells + 1 ≤ 603072 by omega, show slots + 6 ≤ 7186538 by omega⟩ (fun H locs hI => ?_)
  refine lv_istore (lv' := (7, .int b) :: (6, .int z) :: gLv E b0 i) hx hb dL_law_3246 hl (by decide) rfl (fun ls hl => ?_)
  refine g_tail_i K hI hz (fun h0 => ?_) hl ⟨show cells + 1 ≤ 603072 by omega, show slots + 6 ≤ 7186538 by omega⟩ (off := 117) (by decide) dL_law_3248 dL_law_3249 dL_law_3252 dL_law_3254 dL_law_3259 dL_law_3261 dL_law_3264 dL_law_3265 dL_law_3266 dL_law_3267 dL_law_3269 dL_law_3270 dL_law_3271 dL_law_3276 (fun H locs hI => ?_)
  · unfold gXo
    rw [if_pos h0]
    rfl
  · refine W.widen (k := cells + 4) (n := slots + 24) (by omega) (by omega) ?_
    exact kk M2 _ H locs ls hV2 hI (lv_sub hl [2, 3, 4, 5, 6, 7] rfl)
theorem dL_law_3279 : decode cL_law 3279 = .ok (.aload_n 1, 1) := by decide +kernel
theorem dL_law_3280 : decode cL_law 3280 = .ok (.invokevirtual 385, 3) := by decide +kernel
theorem dL_law_3283 : decode cL_law 3283 = .ok (.aload_n 2, 1) := by decide +kernel
theorem dL_law_3284 : decode cL_law 3284 = .ok (.invokevirtual 388, 3) := by decide +kernel
theorem dL_law_3287 : decode cL_law 3287 = .ok (.if_icmp .eq 106, 3) := by decide +kernel
set_option maxRecDepth 100000 in
set_option maxHeartbeats 4000000 in
theorem Lc_60 {p : Program} {l : Launch} {e : Env} {s : State} {m : MethodId} {args : Array Value} {below : List Frame} {meth : Method} {c : Code} {H : Heap} {locs : List Loc} {cells slots : Nat} {Q : State → Prop} {E : gE} {M : gM} {x : gX} {b0 L i k : Nat} {xs : Nat → Int32} {ls : Array Slot} (K : gLw p l s m args c E b0 L xs) (hi : i + 5 ≤ L) (hk : k ≤ 580) (hcs : cells + 4 ≤ 603072 ∧ slots + 24 ≤ 7186538) (hV : gInv k M) (hI : gI E s M x H locs) (hl : lv_has ls 9 (gLv E b0 i))
    (kk : ∀ M2 x2 H2 locs2 ls2, gInv (k + 1) M2 → gI E s M2 x2 H2 locs2 → lv_has ls2 9 (gLv E b0 i) → W p l e room_1 s m args below meth c H2 locs2 (cells + 4) (slots + 24) Q (F0 m 3393 ls2 [])) : W p l e room_1 s m args below meth c H locs cells slots Q (F0 m 3279 ls []) := by
  have hC := K.1
  have hx := hC.1
  have hb := hC.2.1
  have hst := K.2.2.1
  obtain ⟨b, M2, hf, hm, hz, hV2⟩ := K_undoableCount k M hk hV
  refine lv_aload_n hx hb dL_law_3279 rfl (lv_at hl 1 rfl) ?_
  refine g_callVi hC hI (C_X6_undoableCount l E x hf) Y_X6_undoableCount V_X6_undoableCount w419 (rcv_X6 hC hI) ⟨rfl, rfl⟩ ⟨Nat.le_of_ble_eq_true rfl, Nat.le_of_ble_eq_true rfl⟩ rfl hl.1 rfl (Nat.le_of_ble_eq_true rfl) dL_law_3280 ⟨show cells ≤ 603072 by omega, show slots ≤ 7186538 by omega⟩ (fun H locs hI => ?_)
  refine lv_aload_n hx hb dL_law_3283 rfl (lv_at hl 2 rfl) ?_
  refine g_callVi hC hI (C_X7_undoableCount l E x hm) Y_X7_undoableCount V_X7_undoableCount w1823 (rcv_X7 hC hI) ⟨rfl, rfl⟩ ⟨Nat.le_of_ble_eq_true rfl, Nat.le_of_ble_eq_true rfl⟩ rfl hl.1 rfl (Nat.le_of_ble_eq_true rfl) dL_law_3284 ⟨show cells ≤ 603072 by omega, show slots ≤ 7186538 by omega⟩ (fun H locs hI => ?_)
  refine lv_icmp_eq (tgt := 3393) hx hb dL_law_3287 rfl (fun _ => ?_) (fun h => absurd rfl h)
  refine W.widen (k := cells + 4) (n := slots + 24) (by omega) (by omega) ?_
  exact kk M2 _ H locs ls hV2 hI hl
theorem dL_law_3292 : decode cL_law 3292 = .ok (.aload_n 1, 1) := by decide +kernel
theorem dL_law_3293 : decode cL_law 3293 = .ok (.aload_n 3, 1) := by decide +kernel
theorem dL_law_3294 : decode cL_law 3294 = .ok (.invokestatic 389, 3) := by decide +kernel
theorem dL_law_3297 : decode cL_law 3297 = .ok (.istore 6, 2) := by decide +kernel
theorem dL_law_3299 : decode cL_law 3299 = .ok (.aload_n 2, 1) := by decide +kernel
theorem dL_law_3300 : decode cL_law 3300 = .ok (.invokevirtual 391, 3) := by decide +kernel
theorem dL_law_3303 : decode cL_law 3303 = .ok (.istore 7, 2) := by decide +kernel
theorem dL_law_3305 : decode cL_law 3305 = .ok (.aload_n 2, 1) := by decide +kernel
theorem dL_law_3306 : decode cL_law 3306 = .ok (.invokevirtual 184, 3) := by decide +kernel
theorem dL_law_3309 : decode cL_law 3309 = .ok (.iload 6, 2) := by decide +kernel
theorem dL_law_3311 : decode cL_law 3311 = .ok (.if_icmp .eq 5, 3) := by decide +kernel
theorem dL_law_3316 : decode cL_law 3316 = .ok (.iload 6, 2) := by decide +kernel
theorem dL_law_3318 : decode cL_law 3318 = .ok (.ifCond .ne 15, 3) := by decide +kernel
theorem dL_law_3321 : decode cL_law 3321 = .ok (.aload_n 3, 1) := by decide +kernel
theorem dL_law_3322 : decode cL_law 3322 = .ok (.iconst 0, 1) := by decide +kernel
theorem dL_law_3323 : decode cL_law 3323 = .ok (.laload, 1) := by decide +kernel
theorem dL_law_3324 : decode cL_law 3324 = .ok (.iload 7, 2) := by decide +kernel
theorem dL_law_3326 : decode cL_law 3326 = .ok (.i2l, 1) := by decide +kernel
theorem dL_law_3327 : decode cL_law 3327 = .ok (.lcmp, 1) := by decide +kernel
theorem dL_law_3328 : decode cL_law 3328 = .ok (.ifCond .eq 5, 3) := by decide +kernel
theorem dL_law_3333 : decode cL_law 3333 = .ok (.goto 60, 3) := by decide +kernel
set_option maxRecDepth 100000 in
set_option maxHeartbeats 4000000 in
theorem Lc_61 {p : Program} {l : Launch} {e : Env} {s : State} {m : MethodId} {args : Array Value} {below : List Frame} {meth : Method} {c : Code} {H : Heap} {locs : List Loc} {cells slots : Nat} {Q : State → Prop} {E : gE} {M : gM} {x : gX} {b0 L i k : Nat} {xs : Nat → Int32} {ls : Array Slot} (K : gLw p l s m args c E b0 L xs) (hi : i + 5 ≤ L) (hk : k ≤ 580) (hcs : cells + 4 ≤ 603072 ∧ slots + 24 ≤ 7186538) (hV : gInv k M) (hI : gI E s M x H locs) (hl : lv_has ls 9 (gLv E b0 i))
    (kk : ∀ M2 x2 H2 locs2 ls2, gInv (k + 1) M2 → gI E s M2 x2 H2 locs2 → lv_has ls2 9 (gLv E b0 i) → W p l e room_1 s m args below meth c H2 locs2 (cells + 4) (slots + 24) Q (F0 m 3393 ls2 [])) : W p l e room_1 s m args below meth c H locs cells slots Q (F0 m 3292 ls []) := by
  have hC := K.1
  have hx := hC.1
  have hb := hC.2.1
  have hst := K.2.2.1
  obtain ⟨oc, M1, z, b, M2, hf, hm, hz, ha, hV2⟩ := K_undo k M hk hV
  refine lv_aload_n hx hb dL_law_3292 rfl (lv_at hl 1 rfl) ?_
  refine lv_aload_n hx hb dL_law_3293 rfl (lv_at hl 3 rfl) ?_
  refine g_callH (n := 2) hC K.2.1 hI (H_undo l hst E x hf ha) w1300 w0 w1299 w1298 ⟨⟨by decide, by decide⟩, by decide +kernel⟩ ⟨rfl, rfl⟩ ⟨Nat.le_of_ble_eq_true rfl, Nat.le_of_ble_eq_true rfl⟩ rfl hl.1 rfl (Nat.le_of_ble_eq_true rfl) dL_law_3294 ⟨show cells + 1 ≤ 603072 by omega, show slots + 6 ≤ 7186538 by omega⟩ (fun H locs hI => ?_)
  refine lv_istore (lv' := (6, .int z) :: gLv E b0 i) hx hb dL_law_3297 hl (by decide) rfl (fun ls hl => ?_)
  refine lv_aload_n hx hb dL_law_3299 rfl (lv_at hl 3 rfl) ?_
  refine g_callVi hC hI (C_X7_undo l E _ hm) Y_X7_undo V_X7_undo w1827 (rcv_X7 hC hI) ⟨rfl, rfl⟩ ⟨Nat.le_of_ble_eq_true rfl, Nat.le_of_ble_eq_true rfl⟩ rfl hl.1 rfl (Nat.le_of_ble_eq_true rfl) dL_law_3300 ⟨show cells + 1 ≤ 603072 by omega, show slots + 6 ≤ 7186538 by omega⟩ (fun H locs hI => ?_)
  refine lv_istore (lv' := (7, .int b) :: (6, .int z) :: gLv E b0 i) hx hb dL_law_3303 hl (by decide) rfl (fun ls hl => ?_)
  refine g_tail_i K hI hz (fun h0 => ?_) hl ⟨show cells + 1 ≤ 603072 by omega, show slots + 6 ≤ 7186538 by omega⟩ (off := 60) (by decide) dL_law_3305 dL_law_3306 dL_law_3309 dL_law_3311 dL_law_3316 dL_law_3318 dL_law_3321 dL_law_3322 dL_law_3323 dL_law_3324 dL_law_3326 dL_law_3327 dL_law_3328 dL_law_3333 (fun H locs hI => ?_)
  · unfold gXo
    rw [if_pos h0]
    rfl
  · refine W.widen (k := cells + 4) (n := slots + 24) (by omega) (by omega) ?_
    exact kk M2 _ H locs ls hV2 hI (lv_sub hl [2, 3, 4, 5, 6, 7] rfl)
theorem dL_law_3336 : decode cL_law 3336 = .ok (.aload_n 1, 1) := by decide +kernel
theorem dL_law_3337 : decode cL_law 3337 = .ok (.invokevirtual 392, 3) := by decide +kernel
theorem dL_law_3340 : decode cL_law 3340 = .ok (.aload_n 2, 1) := by decide +kernel
theorem dL_law_3341 : decode cL_law 3341 = .ok (.invokevirtual 395, 3) := by decide +kernel
theorem dL_law_3344 : decode cL_law 3344 = .ok (.if_icmp .eq 49, 3) := by decide +kernel
set_option maxRecDepth 100000 in
set_option maxHeartbeats 4000000 in
theorem Lc_62 {p : Program} {l : Launch} {e : Env} {s : State} {m : MethodId} {args : Array Value} {below : List Frame} {meth : Method} {c : Code} {H : Heap} {locs : List Loc} {cells slots : Nat} {Q : State → Prop} {E : gE} {M : gM} {x : gX} {b0 L i k : Nat} {xs : Nat → Int32} {ls : Array Slot} (K : gLw p l s m args c E b0 L xs) (hi : i + 5 ≤ L) (hk : k ≤ 580) (hcs : cells + 4 ≤ 603072 ∧ slots + 24 ≤ 7186538) (hV : gInv k M) (hI : gI E s M x H locs) (hl : lv_has ls 9 (gLv E b0 i))
    (kk : ∀ M2 x2 H2 locs2 ls2, gInv (k + 1) M2 → gI E s M2 x2 H2 locs2 → lv_has ls2 9 (gLv E b0 i) → W p l e room_1 s m args below meth c H2 locs2 (cells + 4) (slots + 24) Q (F0 m 3393 ls2 [])) : W p l e room_1 s m args below meth c H locs cells slots Q (F0 m 3336 ls []) := by
  have hC := K.1
  have hx := hC.1
  have hb := hC.2.1
  have hst := K.2.2.1
  obtain ⟨b, M1, M2, hf, hm, hz, hV2⟩ := K_save k M hk hV
  refine lv_aload_n hx hb dL_law_3336 rfl (lv_at hl 1 rfl) ?_
  refine g_callVi hC hI (C_X6_save l E x hf) Y_X6_save V_X6_save w423 (rcv_X6 hC hI) ⟨rfl, rfl⟩ ⟨Nat.le_of_ble_eq_true rfl, Nat.le_of_ble_eq_true rfl⟩ rfl hl.1 rfl (Nat.le_of_ble_eq_true rfl) dL_law_3337 ⟨show cells ≤ 603072 by omega, show slots ≤ 7186538 by omega⟩ (fun H locs hI => ?_)
  refine lv_aload_n hx hb dL_law_3340 rfl (lv_at hl 2 rfl) ?_
  refine g_callVi hC hI (C_X7_save l E x hm) Y_X7_save V_X7_save w1831 (rcv_X7 hC hI) ⟨rfl, rfl⟩ ⟨Nat.le_of_ble_eq_true rfl, Nat.le_of_ble_eq_true rfl⟩ rfl hl.1 rfl (Nat.le_of_ble_eq_true rfl) dL_law_3341 ⟨show cells ≤ 603072 by omega, show slots ≤ 7186538 by omega⟩ (fun H locs hI => ?_)
  refine lv_icmp_eq (tgt := 3393) hx hb dL_law_3344 rfl (fun _ => ?_) (fun h => absurd rfl h)
  refine W.widen (k := cells + 4) (n := slots + 24) (by omega) (by omega) ?_
  exact kk M2 _ H locs ls hV2 hI hl
theorem dL_law_3349 : decode cL_law 3349 = .ok (.aload_n 1, 1) := by decide +kernel
theorem dL_law_3350 : decode cL_law 3350 = .ok (.aload_n 3, 1) := by decide +kernel
theorem dL_law_3351 : decode cL_law 3351 = .ok (.invokestatic 396, 3) := by decide +kernel
theorem dL_law_3354 : decode cL_law 3354 = .ok (.istore 6, 2) := by decide +kernel
theorem dL_law_3356 : decode cL_law 3356 = .ok (.aload_n 2, 1) := by decide +kernel
theorem dL_law_3357 : decode cL_law 3357 = .ok (.invokevirtual 398, 3) := by decide +kernel
theorem dL_law_3360 : decode cL_law 3360 = .ok (.istore 7, 2) := by decide +kernel
theorem dL_law_3362 : decode cL_law 3362 = .ok (.aload_n 2, 1) := by decide +kernel
theorem dL_law_3363 : decode cL_law 3363 = .ok (.invokevirtual 184, 3) := by decide +kernel
theorem dL_law_3366 : decode cL_law 3366 = .ok (.iload 6, 2) := by decide +kernel
theorem dL_law_3368 : decode cL_law 3368 = .ok (.if_icmp .eq 5, 3) := by decide +kernel
theorem dL_law_3373 : decode cL_law 3373 = .ok (.iload 6, 2) := by decide +kernel
theorem dL_law_3375 : decode cL_law 3375 = .ok (.ifCond .ne 15, 3) := by decide +kernel
theorem dL_law_3378 : decode cL_law 3378 = .ok (.aload_n 3, 1) := by decide +kernel
theorem dL_law_3379 : decode cL_law 3379 = .ok (.iconst 0, 1) := by decide +kernel
theorem dL_law_3380 : decode cL_law 3380 = .ok (.laload, 1) := by decide +kernel
theorem dL_law_3381 : decode cL_law 3381 = .ok (.iload 7, 2) := by decide +kernel
theorem dL_law_3383 : decode cL_law 3383 = .ok (.i2l, 1) := by decide +kernel
theorem dL_law_3384 : decode cL_law 3384 = .ok (.lcmp, 1) := by decide +kernel
theorem dL_law_3385 : decode cL_law 3385 = .ok (.ifCond .eq 5, 3) := by decide +kernel
theorem dL_law_3390 : decode cL_law 3390 = .ok (.goto 3, 3) := by decide +kernel
set_option maxRecDepth 100000 in
set_option maxHeartbeats 4000000 in
theorem Lc_63 {p : Program} {l : Launch} {e : Env} {s : State} {m : MethodId} {args : Array Value} {below : List Frame} {meth : Method} {c : Code} {H : Heap} {locs : List Loc} {cells slots : Nat} {Q : State → Prop} {E : gE} {M : gM} {x : gX} {b0 L i k : Nat} {xs : Nat → Int32} {ls : Array Slot} (K : gLw p l s m args c E b0 L xs) (hi : i + 5 ≤ L) (hk : k ≤ 580) (hcs : cells + 4 ≤ 603072 ∧ slots + 24 ≤ 7186538) (hV : gInv k M) (hI : gI E s M x H locs) (hl : lv_has ls 9 (gLv E b0 i))
    (kk : ∀ M2 x2 H2 locs2 ls2, gInv (k + 1) M2 → gI E s M2 x2 H2 locs2 → lv_has ls2 9 (gLv E b0 i) → W p l e room_1 s m args below meth c H2 locs2 (cells + 4) (slots + 24) Q (F0 m 3393 ls2 [])) : W p l e room_1 s m args below meth c H locs cells slots Q (F0 m 3349 ls []) := by
  have hC := K.1
  have hx := hC.1
  have hb := hC.2.1
  have hst := K.2.2.1
  obtain ⟨oc, M1, z, b, M2, hf, hm, hz, ha, hV2⟩ := K_restore k M hk hV
  refine lv_aload_n hx hb dL_law_3349 rfl (lv_at hl 1 rfl) ?_
  refine lv_aload_n hx hb dL_law_3350 rfl (lv_at hl 3 rfl) ?_
  refine g_callH (n := 2) hC K.2.1 hI (H_restore l hst E x hf ha) w1312 w0 w1311 w1310 ⟨⟨by decide, by decide⟩, by decide +kernel⟩ ⟨rfl, rfl⟩ ⟨Nat.le_of_ble_eq_true rfl, Nat.le_of_ble_eq_true rfl⟩ rfl hl.1 rfl (Nat.le_of_ble_eq_true rfl) dL_law_3351 ⟨show cells + 1 ≤ 603072 by omega, show slots + 6 ≤ 7186538 by omega⟩ (fun H locs hI => ?_)
  refine lv_istore (lv' := (6, .int z) :: gLv E b0 i) hx hb dL_law_3354 hl (by decide) rfl (fun ls hl => ?_)
  refine lv_aload_n hx hb dL_law_3356 rfl (lv_at hl 3 rfl) ?_
  refine g_callVi hC hI (C_X7_restore l E _ hm) Y_X7_restore V_X7_restore w1835 (rcv_X7 hC hI) ⟨rfl, rfl⟩ ⟨Nat.le_of_ble_eq_true rfl, Nat.le_of_ble_eq_true rfl⟩ rfl hl.1 rfl (Nat.le_of_ble_eq_true rfl) dL_law_3357 ⟨show cells + 1 ≤ 603072 by omega, show slots + 6 ≤ 7186538 by omega⟩ (fun H locs hI => ?_)
  refine lv_istore (lv' := (7, .int b) :: (6, .int z) :: gLv E b0 i) hx hb dL_law_3360 hl (by decide) rfl (fun ls hl => ?_)
  refine g_tail_i K hI hz (fun h0 => ?_) hl ⟨show cells + 1 ≤ 603072 by omega, show slots + 6 ≤ 7186538 by omega⟩ (off := 3) (by decide) dL_law_3362 dL_law_3363 dL_law_3366 dL_law_3368 dL_law_3373 dL_law_3375 dL_law_3378 dL_law_3379 dL_law_3380 dL_law_3381 dL_law_3383 dL_law_3384 dL_law_3385 dL_law_3390 (fun H locs hI => ?_)
  · unfold gXo
    rw [if_pos h0]
    rfl
  · refine W.widen (k := cells + 4) (n := slots + 24) (by omega) (by omega) ?_
    exact kk M2 _ H locs ls hV2 hI (lv_sub hl [2, 3, 4, 5, 6, 7] rfl)
