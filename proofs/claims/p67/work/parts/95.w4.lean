/-! The law's walk over z; laid by wip/p67/gen/w1.py. -/
section LZ
variable {p : Program} {l : Launch} {e : Env} {s : State} {m : MethodId} {args : Array Value} {below : List Frame} {meth : Method} {c : Code} {H : Heap} {locs : List Loc} {Q : State → Prop} {D : va_G} {cid : Nat → ClassId} {J : jA} {Ex Ey Ez : gE} {adK adV : Nat → Nat} {ls : Array Slot} {r : Nat → Int32} {β b : Nat}
set_option maxRecDepth 100000 in
set_option maxHeartbeats 8000000 in
theorem law_z2 {Mx My Mz : gM} {w k : Nat} (hw : w ≤ 8) (hk : k < 64) (hst : l.stackTraces = false) (hC : lC p s m args c cL_law 10 RL D cid J) (hLd : ldcR adK s) (hEx : lE s D cid Ex) (hSx : Ex.2.2.2.2.2 = lss) (hKx : Ex.2.2.2.1 = adK) (hEy : lE s D cid Ey) (hEz : lE s D cid Ez) (hSz : Ez.2.2.2.2.2 = lss) (hKz : Ez.2.2.2.1 = adK) (hz : zR2 w k (nI ((7 * k + w) % 10)) Mz = true) (hI : jI D s (A0 s) (gwl Ex Mx () ++ (gwl Ey My () ++ (gwl Ez Mz () ++ ([])))) H locs) (hl : lv_has ls 10 [(9, .ref (Ez.2.1 132)), (8, .int (nI ((7 * k + w) % 10))), (7, .int (nI k)), (6, .int (nI w)), (4, .int (stV r)), (3, .int (r 7 + r 8 + r 9)), (1, .ref (Ex.2.1 132))])
    (kk : ∀ (Mz : gM), zR3 w k (nI ((7 * k + w) % 10)) Mz = true → ∀ (H : Heap) (locs : List Loc) (ls : Array Slot), jI D s (A0 s) (gwl Ex Mx () ++ (gwl Ey My () ++ (gwl Ez Mz () ++ ([])))) H locs → lv_has ls 10 [(9, .ref (Ez.2.1 132)), (8, .int (nI ((7 * k + w) % 10))), (7, .int (nI k)), (6, .int (nI w)), (4, .int (stV r)), (3, .int (r 7 + r 8 + r 9)), (1, .ref (Ex.2.1 132))] → W p l e room_1 s m args below meth c H locs 32000 210000 Q (F0 m 881 ls [])) :
    W p l e room_1 s m args below meth c H locs 31000 200000 Q (F0 m 707 ls []) := by
  have hx := hC.1.1.1
  have hb := hC.1.1.2.1
  have hown := hC.1.1.2.2.2.1
  have hts := hC.1.1.2.2.2.2.1
  unfold zR2 at hz
  refine lv_aload hx hb dL_law_707 (lv_at hl 0 rfl) ?_
  refine lv_iconst (v := 1) hx hb dL_law_709 (by decide) ?_
  refine lv_iconst (v := 2) hx hb dL_law_710 (by decide) ?_
  refine lv_iconst (v := 1) hx hb dL_law_711 (by decide) ?_
  obtain ⟨Z0, e0, hz⟩ := zc_i hz
  refine l_callX (rest := []) (v0 := (.int (gb false))) (X' := (gwl Ex Mx () ++ (gwl Ey My () ++ (gwl Ez Z0 () ++ ([]))))) hC hEz hI pm3 pm3.symm (C_X6_clear l hst Ez () e0) Y_X6_clear V_X6_clear w406 rfl ⟨rfl, rfl⟩ ⟨Nat.le_of_ble_eq_true rfl, Nat.le_of_ble_eq_true rfl⟩ rfl hl.1 rfl (Nat.le_of_ble_eq_true rfl) dL_law_712 ⟨Nat.le_of_ble_eq_true rfl, Nat.le_of_ble_eq_true rfl⟩ (fun H locs (hI : jI D s (A0 s) (gwl Ex Mx () ++ (gwl Ey My () ++ (gwl Ez Z0 () ++ ([])))) H locs) => ?_)
  refine lv_if_ne (tgt := 879) hx hb dL_law_715 rfl (fun h => absurd rfl h) (fun _ => ?_)
  refine lv_aload hx hb dL_law_718 (lv_at hl 0 rfl) ?_
  refine lv_iconst (v := 1) hx hb dL_law_720 (by decide) ?_
  obtain ⟨Z1, e1, hz⟩ := zc_i hz
  refine l_callX (rest := []) (v0 := (.int 1)) (X' := (gwl Ex Mx () ++ (gwl Ey My () ++ (gwl Ez Z1 () ++ ([]))))) hC hEz hI pm3 pm3.symm (C_X6_wrongAnswers l hst Ez () e1) Y_X6_wrongAnswers V_X6_wrongAnswers w622 rfl ⟨rfl, rfl⟩ ⟨Nat.le_of_ble_eq_true rfl, Nat.le_of_ble_eq_true rfl⟩ rfl hl.1 rfl (Nat.le_of_ble_eq_true rfl) dL_law_721 ⟨Nat.le_of_ble_eq_true rfl, Nat.le_of_ble_eq_true rfl⟩ (fun H locs (hI : jI D s (A0 s) (gwl Ex Mx () ++ (gwl Ey My () ++ (gwl Ez Z1 () ++ ([])))) H locs) => ?_)
  refine lv_iconst (v := 1) hx hb dL_law_724 (by decide) ?_
  refine lv_icmp_ne (tgt := 879) hx hb dL_law_725 rfl (fun h => absurd rfl h) (fun _ => ?_)
  refine lv_aload hx hb dL_law_728 (lv_at hl 0 rfl) ?_
  obtain ⟨e2, hz⟩ := zq_i hz
  refine l_call0 (rest := []) (v0 := (.int 5)) (X' := (gwl Ex Mx () ++ (gwl Ey My () ++ (gwl Ez Z1 () ++ ([]))))) hC hEz hI pm3 pm3.symm (C_X6_fees l Ez () e2) Y_X6_fees V_X6_fees w792 rfl ⟨rfl, rfl⟩ ⟨Nat.le_of_ble_eq_true rfl, Nat.le_of_ble_eq_true rfl⟩ rfl hl.1 rfl (Nat.le_of_ble_eq_true rfl) dL_law_730 ⟨Nat.le_of_ble_eq_true rfl, Nat.le_of_ble_eq_true rfl⟩ (fun H locs (hI : jI D s (A0 s) (gwl Ex Mx () ++ (gwl Ey My () ++ (gwl Ez Z1 () ++ ([])))) H locs) => ?_)
  refine lv_iconst (v := 5) hx hb dL_law_733 (by decide) ?_
  refine lv_icmp_ne (tgt := 879) hx hb dL_law_734 rfl (fun h => absurd rfl h) (fun _ => ?_)
  refine lv_aload hx hb dL_law_737 (lv_at hl 0 rfl) ?_
  refine lv_iconst (v := 1) hx hb dL_law_739 (by decide) ?_
  refine lv_iconst (v := 2) hx hb dL_law_740 (by decide) ?_
  refine lv_bipush (v := 9) hx hb dL_law_741 (by decide) ?_
  obtain ⟨Z3, e3, hz⟩ := zc_i hz
  refine l_callX (rest := []) (v0 := (.int (gb false))) (X' := (gwl Ex Mx () ++ (gwl Ey My () ++ (gwl Ez Z3 () ++ ([]))))) hC hEz hI pm3 pm3.symm (C_X6_clear l hst Ez () e3) Y_X6_clear V_X6_clear w406 rfl ⟨rfl, rfl⟩ ⟨Nat.le_of_ble_eq_true rfl, Nat.le_of_ble_eq_true rfl⟩ rfl hl.1 rfl (Nat.le_of_ble_eq_true rfl) dL_law_743 ⟨Nat.le_of_ble_eq_true rfl, Nat.le_of_ble_eq_true rfl⟩ (fun H locs (hI : jI D s (A0 s) (gwl Ex Mx () ++ (gwl Ey My () ++ (gwl Ez Z3 () ++ ([])))) H locs) => ?_)
  refine lv_if_ne (tgt := 879) hx hb dL_law_746 rfl (fun h => absurd rfl h) (fun _ => ?_)
  refine lv_aload hx hb dL_law_749 (lv_at hl 0 rfl) ?_
  refine lv_iconst (v := 1) hx hb dL_law_751 (by decide) ?_
  refine lv_iconst (v := 2) hx hb dL_law_752 (by decide) ?_
  refine lv_iconst (v := 5) hx hb dL_law_753 (by decide) ?_
  obtain ⟨Z4, e4, hz⟩ := zc_i hz
  refine l_callX (rest := []) (v0 := (.int (gb false))) (X' := (gwl Ex Mx () ++ (gwl Ey My () ++ (gwl Ez Z4 () ++ ([]))))) hC hEz hI pm3 pm3.symm (C_X6_clear l hst Ez () e4) Y_X6_clear V_X6_clear w406 rfl ⟨rfl, rfl⟩ ⟨Nat.le_of_ble_eq_true rfl, Nat.le_of_ble_eq_true rfl⟩ rfl hl.1 rfl (Nat.le_of_ble_eq_true rfl) dL_law_754 ⟨Nat.le_of_ble_eq_true rfl, Nat.le_of_ble_eq_true rfl⟩ (fun H locs (hI : jI D s (A0 s) (gwl Ex Mx () ++ (gwl Ey My () ++ (gwl Ez Z4 () ++ ([])))) H locs) => ?_)
  refine lv_if_ne (tgt := 879) hx hb dL_law_757 rfl (fun h => absurd rfl h) (fun _ => ?_)
  refine lv_aload hx hb dL_law_760 (lv_at hl 0 rfl) ?_
  obtain ⟨e5, hz⟩ := zq_i hz
  refine l_call0 (rest := []) (v0 := (.int 15)) (X' := (gwl Ex Mx () ++ (gwl Ey My () ++ (gwl Ez Z4 () ++ ([]))))) hC hEz hI pm3 pm3.symm (C_X6_fees l Ez () e5) Y_X6_fees V_X6_fees w792 rfl ⟨rfl, rfl⟩ ⟨Nat.le_of_ble_eq_true rfl, Nat.le_of_ble_eq_true rfl⟩ rfl hl.1 rfl (Nat.le_of_ble_eq_true rfl) dL_law_762 ⟨Nat.le_of_ble_eq_true rfl, Nat.le_of_ble_eq_true rfl⟩ (fun H locs (hI : jI D s (A0 s) (gwl Ex Mx () ++ (gwl Ey My () ++ (gwl Ez Z4 () ++ ([])))) H locs) => ?_)
  refine lv_bipush (v := 15) hx hb dL_law_765 (by decide) ?_
  refine lv_icmp_ne (tgt := 879) hx hb dL_law_767 rfl (fun h => absurd rfl h) (fun _ => ?_)
  refine lv_aload hx hb dL_law_770 (lv_at hl 0 rfl) ?_
  refine lv_iconst (v := 1) hx hb dL_law_772 (by decide) ?_
  obtain ⟨Z6, e6, hz⟩ := zc_i hz
  refine l_callX (rest := []) (v0 := (.int 2)) (X' := (gwl Ex Mx () ++ (gwl Ey My () ++ (gwl Ez Z6 () ++ ([]))))) hC hEz hI pm3 pm3.symm (C_X6_lockedHours l hst Ez () e6) Y_X6_lockedHours V_X6_lockedHours w618 rfl ⟨rfl, rfl⟩ ⟨Nat.le_of_ble_eq_true rfl, Nat.le_of_ble_eq_true rfl⟩ rfl hl.1 rfl (Nat.le_of_ble_eq_true rfl) dL_law_773 ⟨Nat.le_of_ble_eq_true rfl, Nat.le_of_ble_eq_true rfl⟩ (fun H locs (hI : jI D s (A0 s) (gwl Ex Mx () ++ (gwl Ey My () ++ (gwl Ez Z6 () ++ ([])))) H locs) => ?_)
  refine lv_iconst (v := 2) hx hb dL_law_776 (by decide) ?_
  refine lv_icmp_ne (tgt := 879) hx hb dL_law_777 rfl (fun h => absurd rfl h) (fun _ => ?_)
  refine lv_aload hx hb dL_law_780 (lv_at hl 0 rfl) ?_
  refine lv_iconst (v := 1) hx hb dL_law_782 (by decide) ?_
  obtain ⟨Z7, e7, hz⟩ := zc_i hz
  refine l_callX (rest := []) (v0 := (.int 0)) (X' := (gwl Ex Mx () ++ (gwl Ey My () ++ (gwl Ez Z7 () ++ ([]))))) hC hEz hI pm3 pm3.symm (C_X6_wrongAnswers l hst Ez () e7) Y_X6_wrongAnswers V_X6_wrongAnswers w622 rfl ⟨rfl, rfl⟩ ⟨Nat.le_of_ble_eq_true rfl, Nat.le_of_ble_eq_true rfl⟩ rfl hl.1 rfl (Nat.le_of_ble_eq_true rfl) dL_law_783 ⟨Nat.le_of_ble_eq_true rfl, Nat.le_of_ble_eq_true rfl⟩ (fun H locs (hI : jI D s (A0 s) (gwl Ex Mx () ++ (gwl Ey My () ++ (gwl Ez Z7 () ++ ([])))) H locs) => ?_)
  refine lv_if_ne (tgt := 879) hx hb dL_law_786 rfl (fun h => absurd rfl h) (fun _ => ?_)
  refine lv_aload hx hb dL_law_789 (lv_at hl 0 rfl) ?_
  refine lv_iconst (v := 1) hx hb dL_law_791 (by decide) ?_
  refine lv_iconst (v := 1) hx hb dL_law_792 (by decide) ?_
  refine lv_iconst (v := 2) hx hb dL_law_793 (by decide) ?_
  refine lv_iconst (v := 0) hx hb dL_law_794 (by decide) ?_
  obtain ⟨Z8, e8, hz⟩ := zx_i hz
  refine l_callHW (n := 5) (rest := []) (X' := (gwl Ex Mx () ++ (gwl Ey My () ++ (gwl Ez Z8 () ++ ([]))))) hC hEz hI pm3 pm3.symm (A_clear l hst Ez (v1 := 1) (v2 := 2) (v3 := 0) e8 (fun e he => by cases he; decide)) w1098 w0 S_L_act w1096 ⟨⟨by decide, by decide⟩, by decide +kernel⟩ ⟨rfl, rfl⟩ ⟨Nat.le_of_ble_eq_true rfl, Nat.le_of_ble_eq_true rfl⟩ rfl hl.1 rfl (Nat.le_of_ble_eq_true rfl) dL_law_795 ⟨Nat.le_of_ble_eq_true rfl, Nat.le_of_ble_eq_true rfl⟩ (fun H locs (hI : jI D s (A0 s) (gwl Ex Mx () ++ (gwl Ey My () ++ (gwl Ez Z8 () ++ ([])))) H locs) => ?_)
  refine g_top (v := (-3)) (by decide) ?_
  refine lv_bipush (v := (-3)) hx hb dL_law_798 (by decide) ?_
  refine lv_icmp_ne (tgt := 879) hx hb dL_law_800 rfl (fun h => absurd rfl h) (fun _ => ?_)
  refine lv_aload hx hb dL_law_803 (lv_at hl 0 rfl) ?_
  refine lv_iconst (v := 3) hx hb dL_law_805 (by decide) ?_
  obtain ⟨Z9, e9, hz⟩ := zc_i hz
  refine l_callX (rest := []) (v0 := (.int 4)) (X' := (gwl Ex Mx () ++ (gwl Ey My () ++ (gwl Ez Z9 () ++ ([]))))) hC hEz hI pm3 pm3.symm (C_X6_feesAfter l hst Ez () e9) Y_X6_feesAfter V_X6_feesAfter w787 rfl ⟨rfl, rfl⟩ ⟨Nat.le_of_ble_eq_true rfl, Nat.le_of_ble_eq_true rfl⟩ rfl hl.1 rfl (Nat.le_of_ble_eq_true rfl) dL_law_806 ⟨Nat.le_of_ble_eq_true rfl, Nat.le_of_ble_eq_true rfl⟩ (fun H locs (hI : jI D s (A0 s) (gwl Ex Mx () ++ (gwl Ey My () ++ (gwl Ez Z9 () ++ ([])))) H locs) => ?_)
  refine lv_iconst (v := 4) hx hb dL_law_809 (by decide) ?_
  refine lv_icmp_ne (tgt := 879) hx hb dL_law_810 rfl (fun h => absurd rfl h) (fun _ => ?_)
  refine lv_aload hx hb dL_law_813 (lv_at hl 0 rfl) ?_
  refine lv_iconst (v := 1) hx hb dL_law_815 (by decide) ?_
  obtain ⟨Z10, e10, hz⟩ := zc_i hz
  refine l_callX (rest := []) (v0 := (.int 0)) (X' := (gwl Ex Mx () ++ (gwl Ey My () ++ (gwl Ez Z10 () ++ ([]))))) hC hEz hI pm3 pm3.symm (C_X6_pass l hst Ez () e10) Y_X6_pass V_X6_pass w538 rfl ⟨rfl, rfl⟩ ⟨Nat.le_of_ble_eq_true rfl, Nat.le_of_ble_eq_true rfl⟩ rfl hl.1 rfl (Nat.le_of_ble_eq_true rfl) dL_law_816 ⟨Nat.le_of_ble_eq_true rfl, Nat.le_of_ble_eq_true rfl⟩ (fun H locs (hI : jI D s (A0 s) (gwl Ex Mx () ++ (gwl Ey My () ++ (gwl Ez Z10 () ++ ([])))) H locs) => ?_)
  refine lv_if_ne (tgt := 879) hx hb dL_law_819 rfl (fun h => absurd rfl h) (fun _ => ?_)
  refine lv_aload hx hb dL_law_822 (lv_at hl 0 rfl) ?_
  refine lv_iconst (v := 1) hx hb dL_law_824 (by decide) ?_
  obtain ⟨Z11, e11, hz⟩ := zc_i hz
  refine l_callX (rest := []) (v0 := (.int 1)) (X' := (gwl Ex Mx () ++ (gwl Ey My () ++ (gwl Ez Z11 () ++ ([]))))) hC hEz hI pm3 pm3.symm (C_X6_lockedHours l hst Ez () e11) Y_X6_lockedHours V_X6_lockedHours w618 rfl ⟨rfl, rfl⟩ ⟨Nat.le_of_ble_eq_true rfl, Nat.le_of_ble_eq_true rfl⟩ rfl hl.1 rfl (Nat.le_of_ble_eq_true rfl) dL_law_825 ⟨Nat.le_of_ble_eq_true rfl, Nat.le_of_ble_eq_true rfl⟩ (fun H locs (hI : jI D s (A0 s) (gwl Ex Mx () ++ (gwl Ey My () ++ (gwl Ez Z11 () ++ ([])))) H locs) => ?_)
  refine lv_iconst (v := 1) hx hb dL_law_828 (by decide) ?_
  refine lv_icmp_ne (tgt := 879) hx hb dL_law_829 rfl (fun h => absurd rfl h) (fun _ => ?_)
  refine lv_aload hx hb dL_law_832 (lv_at hl 0 rfl) ?_
  refine lv_iconst (v := 2) hx hb dL_law_834 (by decide) ?_
  obtain ⟨Z12, e12, hz⟩ := zc_i hz
  refine l_callX (rest := []) (v0 := (.int 4)) (X' := (gwl Ex Mx () ++ (gwl Ey My () ++ (gwl Ez Z12 () ++ ([]))))) hC hEz hI pm3 pm3.symm (C_X6_pass l hst Ez () e12) Y_X6_pass V_X6_pass w538 rfl ⟨rfl, rfl⟩ ⟨Nat.le_of_ble_eq_true rfl, Nat.le_of_ble_eq_true rfl⟩ rfl hl.1 rfl (Nat.le_of_ble_eq_true rfl) dL_law_835 ⟨Nat.le_of_ble_eq_true rfl, Nat.le_of_ble_eq_true rfl⟩ (fun H locs (hI : jI D s (A0 s) (gwl Ex Mx () ++ (gwl Ey My () ++ (gwl Ez Z12 () ++ ([])))) H locs) => ?_)
  refine lv_iconst (v := 4) hx hb dL_law_838 (by decide) ?_
  refine lv_icmp_ne (tgt := 879) hx hb dL_law_839 rfl (fun h => absurd rfl h) (fun _ => ?_)
  refine lv_aload hx hb dL_law_842 (lv_at hl 0 rfl) ?_
  refine lv_iconst (v := 1) hx hb dL_law_844 (by decide) ?_
  obtain ⟨Z13, e13, hz⟩ := zc_i hz
  refine l_callX (rest := []) (v0 := (.int 0)) (X' := (gwl Ex Mx () ++ (gwl Ey My () ++ (gwl Ez Z13 () ++ ([]))))) hC hEz hI pm3 pm3.symm (C_X6_lockedHours l hst Ez () e13) Y_X6_lockedHours V_X6_lockedHours w618 rfl ⟨rfl, rfl⟩ ⟨Nat.le_of_ble_eq_true rfl, Nat.le_of_ble_eq_true rfl⟩ rfl hl.1 rfl (Nat.le_of_ble_eq_true rfl) dL_law_845 ⟨Nat.le_of_ble_eq_true rfl, Nat.le_of_ble_eq_true rfl⟩ (fun H locs (hI : jI D s (A0 s) (gwl Ex Mx () ++ (gwl Ey My () ++ (gwl Ez Z13 () ++ ([])))) H locs) => ?_)
  refine lv_if_ne (tgt := 879) hx hb dL_law_848 rfl (fun h => absurd rfl h) (fun _ => ?_)
  refine lv_aload hx hb dL_law_851 (lv_at hl 0 rfl) ?_
  refine lv_iconst (v := 1) hx hb dL_law_853 (by decide) ?_
  obtain ⟨Z14, e14, hz⟩ := zc_i hz
  refine l_callX (rest := []) (v0 := (.int (gb true))) (X' := (gwl Ex Mx () ++ (gwl Ey My () ++ (gwl Ez Z14 () ++ ([]))))) hC hEz hI pm3 pm3.symm (C_X6_floats l hst Ez () e14) Y_X6_floats V_X6_floats w571 rfl ⟨rfl, rfl⟩ ⟨Nat.le_of_ble_eq_true rfl, Nat.le_of_ble_eq_true rfl⟩ rfl hl.1 rfl (Nat.le_of_ble_eq_true rfl) dL_law_854 ⟨Nat.le_of_ble_eq_true rfl, Nat.le_of_ble_eq_true rfl⟩ (fun H locs (hI : jI D s (A0 s) (gwl Ex Mx () ++ (gwl Ey My () ++ (gwl Ez Z14 () ++ ([])))) H locs) => ?_)
  refine lv_if_eq (tgt := 879) hx hb dL_law_857 rfl (fun h => absurd h (by decide)) (fun _ => ?_)
  refine lv_aload hx hb dL_law_860 (lv_at hl 0 rfl) ?_
  refine lv_iconst (v := 1) hx hb dL_law_862 (by decide) ?_
  obtain ⟨Z15, e15, hz⟩ := zc_i hz
  refine l_callX (rest := []) (v0 := (.int (gb false))) (X' := (gwl Ex Mx () ++ (gwl Ey My () ++ (gwl Ez Z15 () ++ ([]))))) hC hEz hI pm3 pm3.symm (C_X6_canLeave l hst Ez () e15) Y_X6_canLeave V_X6_canLeave w614 rfl ⟨rfl, rfl⟩ ⟨Nat.le_of_ble_eq_true rfl, Nat.le_of_ble_eq_true rfl⟩ rfl hl.1 rfl (Nat.le_of_ble_eq_true rfl) dL_law_863 ⟨Nat.le_of_ble_eq_true rfl, Nat.le_of_ble_eq_true rfl⟩ (fun H locs (hI : jI D s (A0 s) (gwl Ex Mx () ++ (gwl Ey My () ++ (gwl Ez Z15 () ++ ([])))) H locs) => ?_)
  refine lv_if_ne (tgt := 879) hx hb dL_law_866 rfl (fun h => absurd rfl h) (fun _ => ?_)
  refine lv_aload hx hb dL_law_869 (lv_at hl 0 rfl) ?_
  obtain ⟨e16, hz⟩ := zq_i hz
  refine l_call0 (rest := []) (v0 := (.int 19)) (X' := (gwl Ex Mx () ++ (gwl Ey My () ++ (gwl Ez Z15 () ++ ([]))))) hC hEz hI pm3 pm3.symm (C_X6_fees l Ez () e16) Y_X6_fees V_X6_fees w792 rfl ⟨rfl, rfl⟩ ⟨Nat.le_of_ble_eq_true rfl, Nat.le_of_ble_eq_true rfl⟩ rfl hl.1 rfl (Nat.le_of_ble_eq_true rfl) dL_law_871 ⟨Nat.le_of_ble_eq_true rfl, Nat.le_of_ble_eq_true rfl⟩ (fun H locs (hI : jI D s (A0 s) (gwl Ex Mx () ++ (gwl Ey My () ++ (gwl Ez Z15 () ++ ([])))) H locs) => ?_)
  refine lv_bipush (v := 19) hx hb dL_law_874 (by decide) ?_
  refine lv_icmp_eq (tgt := 881) hx hb dL_law_876 rfl (fun _ => ?_) (fun h => absurd rfl h)
  refine W.widen (show _ ≤ 32000 by exact Nat.le_of_ble_eq_true rfl) (show _ ≤ 210000 by exact Nat.le_of_ble_eq_true rfl) ?_
  exact kk Z15 (show zR3 w k (nI ((7 * k + w) % 10)) Z15 = true from hz) H locs ls hI hl
end LZ
