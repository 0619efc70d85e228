/-! The law's walk over z; laid by wip/p67/gen/w1.py. -/
section LZ
variable {p : Program} {l : Launch} {e : Env} {s : State} {m : MethodId} {args : Array Value} {below : List Frame} {meth : Method} {c : Code} {H : Heap} {locs : List Loc} {Q : State → Prop} {D : va_G} {cid : Nat → ClassId} {J : jA} {Ex Ey Ez : gE} {adK adV : Nat → Nat} {ls : Array Slot} {r : Nat → Int32} {β b : Nat}
set_option maxRecDepth 100000 in
set_option maxHeartbeats 8000000 in
theorem law_z3 {Mx My Mz : gM} {w k : Nat} (hw : w ≤ 8) (hk : k < 64) (hst : l.stackTraces = false) (hC : lC p s m args c cL_law 10 RL D cid J) (hLd : ldcR adK s) (hEx : lE s D cid Ex) (hSx : Ex.2.2.2.2.2 = lss) (hKx : Ex.2.2.2.1 = adK) (hEy : lE s D cid Ey) (hEz : lE s D cid Ez) (hSz : Ez.2.2.2.2.2 = lss) (hKz : Ez.2.2.2.1 = adK) (hz : zR3 w k (nI ((7 * k + w) % 10)) Mz = true) (hI : jI D s (A0 s) (gwl Ex Mx () ++ (gwl Ey My () ++ (gwl Ez Mz () ++ ([])))) H locs) (hl : lv_has ls 10 [(9, .ref (Ez.2.1 132)), (8, .int (nI ((7 * k + w) % 10))), (7, .int (nI k)), (6, .int (nI w)), (4, .int (stV r)), (3, .int (r 7 + r 8 + r 9)), (1, .ref (Ex.2.1 132))])
    (kk : ∀ (Mz : gM), zR4 w k (nI ((7 * k + w) % 10)) Mz = true → ∀ (H : Heap) (locs : List Loc) (ls : Array Slot), jI D s (A0 s) (gwl Ex Mx () ++ (gwl Ey My () ++ (gwl Ez Mz () ++ ([])))) H locs → lv_has ls 10 [(9, .ref (Ez.2.1 132)), (8, .int (nI ((7 * k + w) % 10))), (7, .int (nI k)), (6, .int (nI w)), (4, .int (stV r)), (3, .int (r 7 + r 8 + r 9)), (1, .ref (Ex.2.1 132))] → W p l e room_1 s m args below meth c H locs 33000 220000 Q (F0 m 1065 ls [])) :
    W p l e room_1 s m args below meth c H locs 32000 210000 Q (F0 m 881 ls []) := by
  have hx := hC.1.1.1
  have hb := hC.1.1.2.1
  have hown := hC.1.1.2.2.2.1
  have hts := hC.1.1.2.2.2.2.1
  unfold zR3 at hz
  refine lv_aload hx hb dL_law_881 (lv_at hl 0 rfl) ?_
  refine lv_iconst (v := 1) hx hb dL_law_883 (by decide) ?_
  refine lv_iconst (v := 2) hx hb dL_law_884 (by decide) ?_
  refine lv_iconst (v := 0) hx hb dL_law_885 (by decide) ?_
  obtain ⟨Z0, e0, hz⟩ := zc_i hz
  refine l_callX (rest := []) (v0 := (.int (gb true))) (X' := (gwl Ex Mx () ++ (gwl Ey My () ++ (gwl Ez Z0 () ++ ([]))))) hC hEz hI pm3 pm3.symm (C_X6_clear l hst Ez () e0) Y_X6_clear V_X6_clear w406 rfl ⟨rfl, rfl⟩ ⟨Nat.le_of_ble_eq_true rfl, Nat.le_of_ble_eq_true rfl⟩ rfl hl.1 rfl (Nat.le_of_ble_eq_true rfl) dL_law_886 ⟨Nat.le_of_ble_eq_true rfl, Nat.le_of_ble_eq_true rfl⟩ (fun H locs (hI : jI D s (A0 s) (gwl Ex Mx () ++ (gwl Ey My () ++ (gwl Ez Z0 () ++ ([])))) H locs) => ?_)
  refine lv_if_eq (tgt := 1063) hx hb dL_law_889 rfl (fun h => absurd h (by decide)) (fun _ => ?_)
  refine lv_aload hx hb dL_law_892 (lv_at hl 0 rfl) ?_
  refine lv_iconst (v := 0) hx hb dL_law_894 (by decide) ?_
  obtain ⟨Z1, e1, hz⟩ := zc_i hz
  refine l_callX (rest := []) (v0 := (.int 1)) (X' := (gwl Ex Mx () ++ (gwl Ey My () ++ (gwl Ez Z1 () ++ ([]))))) hC hEz hI pm3 pm3.symm (C_X6_yardAt l hst Ez () e1) Y_X6_yardAt V_X6_yardAt w782 rfl ⟨rfl, rfl⟩ ⟨Nat.le_of_ble_eq_true rfl, Nat.le_of_ble_eq_true rfl⟩ rfl hl.1 rfl (Nat.le_of_ble_eq_true rfl) dL_law_895 ⟨Nat.le_of_ble_eq_true rfl, Nat.le_of_ble_eq_true rfl⟩ (fun H locs (hI : jI D s (A0 s) (gwl Ex Mx () ++ (gwl Ey My () ++ (gwl Ez Z1 () ++ ([])))) H locs) => ?_)
  refine lv_iconst (v := 1) hx hb dL_law_898 (by decide) ?_
  refine lv_icmp_ne (tgt := 1063) hx hb dL_law_899 rfl (fun h => absurd rfl h) (fun _ => ?_)
  refine lv_aload hx hb dL_law_902 (lv_at hl 0 rfl) ?_
  refine lv_iconst (v := 1) hx hb dL_law_904 (by decide) ?_
  refine lv_iconst (v := 2) hx hb dL_law_905 (by decide) ?_
  refine lv_iconst (v := 3) hx hb dL_law_906 (by decide) ?_
  obtain ⟨Z2, e2, hz⟩ := zc_i hz
  refine l_callX (rest := []) (v0 := (.int 0)) (X' := (gwl Ex Mx () ++ (gwl Ey My () ++ (gwl Ez Z2 () ++ ([]))))) hC hEz hI pm3 pm3.symm (C_X6_move l hst Ez () e2) Y_X6_move V_X6_move w450 rfl ⟨rfl, rfl⟩ ⟨Nat.le_of_ble_eq_true rfl, Nat.le_of_ble_eq_true rfl⟩ rfl hl.1 rfl (Nat.le_of_ble_eq_true rfl) dL_law_907 ⟨Nat.le_of_ble_eq_true rfl, Nat.le_of_ble_eq_true rfl⟩ (fun H locs (hI : jI D s (A0 s) (gwl Ex Mx () ++ (gwl Ey My () ++ (gwl Ez Z2 () ++ ([])))) H locs) => ?_)
  refine lv_if_ne (tgt := 1063) hx hb dL_law_910 rfl (fun h => absurd rfl h) (fun _ => ?_)
  refine lv_aload hx hb dL_law_913 (lv_at hl 0 rfl) ?_
  refine lv_iconst (v := 1) hx hb dL_law_915 (by decide) ?_
  refine lv_iconst (v := 3) hx hb dL_law_916 (by decide) ?_
  refine lv_iload hx hb dL_law_917 (lv_at hl 1 rfl) ?_
  obtain ⟨Z3, e3, hz⟩ := zc_i hz
  refine l_callX (rest := []) (v0 := (.int (gb true))) (X' := (gwl Ex Mx () ++ (gwl Ey My () ++ (gwl Ez Z3 () ++ ([]))))) hC hEz hI pm3 pm3.symm (C_X6_clear l hst Ez () e3) Y_X6_clear V_X6_clear w406 rfl ⟨rfl, rfl⟩ ⟨Nat.le_of_ble_eq_true rfl, Nat.le_of_ble_eq_true rfl⟩ rfl hl.1 rfl (Nat.le_of_ble_eq_true rfl) dL_law_919 ⟨Nat.le_of_ble_eq_true rfl, Nat.le_of_ble_eq_true rfl⟩ (fun H locs (hI : jI D s (A0 s) (gwl Ex Mx () ++ (gwl Ey My () ++ (gwl Ez Z3 () ++ ([])))) H locs) => ?_)
  refine lv_if_eq (tgt := 1063) hx hb dL_law_922 rfl (fun h => absurd h (by decide)) (fun _ => ?_)
  refine lv_aload hx hb dL_law_925 (lv_at hl 0 rfl) ?_
  refine lv_iconst (v := 1) hx hb dL_law_927 (by decide) ?_
  refine lv_iconst (v := 0) hx hb dL_law_928 (by decide) ?_
  refine lv_iload hx hb dL_law_929 (lv_at hl 1 rfl) ?_
  obtain ⟨Z4, e4, hz⟩ := zc_i hz
  refine l_callX (rest := []) (v0 := (.int (gb true))) (X' := (gwl Ex Mx () ++ (gwl Ey My () ++ (gwl Ez Z4 () ++ ([]))))) hC hEz hI pm3 pm3.symm (C_X6_clear l hst Ez () e4) Y_X6_clear V_X6_clear w406 rfl ⟨rfl, rfl⟩ ⟨Nat.le_of_ble_eq_true rfl, Nat.le_of_ble_eq_true rfl⟩ rfl hl.1 rfl (Nat.le_of_ble_eq_true rfl) dL_law_931 ⟨Nat.le_of_ble_eq_true rfl, Nat.le_of_ble_eq_true rfl⟩ (fun H locs (hI : jI D s (A0 s) (gwl Ex Mx () ++ (gwl Ey My () ++ (gwl Ez Z4 () ++ ([])))) H locs) => ?_)
  refine lv_if_eq (tgt := 1063) hx hb dL_law_934 rfl (fun h => absurd h (by decide)) (fun _ => ?_)
  refine lv_aload hx hb dL_law_937 (lv_at hl 0 rfl) ?_
  replace hz := zass hz
  obtain ⟨e5, hz⟩ := zq_i hz
  refine l_call0 (rest := []) (v0 := (.int 3)) (X' := (gwl Ex Mx () ++ (gwl Ey My () ++ (gwl Ez Z4 () ++ ([]))))) hC hEz hI pm3 pm3.symm (C_X6_yardCount l Ez () e5) Y_X6_yardCount V_X6_yardCount w778 rfl ⟨rfl, rfl⟩ ⟨Nat.le_of_ble_eq_true rfl, Nat.le_of_ble_eq_true rfl⟩ rfl hl.1 rfl (Nat.le_of_ble_eq_true rfl) dL_law_939 ⟨Nat.le_of_ble_eq_true rfl, Nat.le_of_ble_eq_true rfl⟩ (fun H locs (hI : jI D s (A0 s) (gwl Ex Mx () ++ (gwl Ey My () ++ (gwl Ez Z4 () ++ ([])))) H locs) => ?_)
  refine lv_iconst (v := 3) hx hb dL_law_942 (by decide) ?_
  refine lv_icmp_ne (tgt := 1063) hx hb dL_law_943 rfl (fun h => absurd rfl h) (fun _ => ?_)
  refine lv_aload hx hb dL_law_946 (lv_at hl 0 rfl) ?_
  obtain ⟨e6, hz⟩ := zq_i hz
  refine l_call0 (rest := []) (v0 := (.int 1)) (X' := (gwl Ex Mx () ++ (gwl Ey My () ++ (gwl Ez Z4 () ++ ([]))))) hC hEz hI pm3 pm3.symm (C_X6_keyTwins l Ez () e6) Y_X6_keyTwins V_X6_keyTwins w750 rfl ⟨rfl, rfl⟩ ⟨Nat.le_of_ble_eq_true rfl, Nat.le_of_ble_eq_true rfl⟩ rfl hl.1 rfl (Nat.le_of_ble_eq_true rfl) dL_law_948 ⟨Nat.le_of_ble_eq_true rfl, Nat.le_of_ble_eq_true rfl⟩ (fun H locs (hI : jI D s (A0 s) (gwl Ex Mx () ++ (gwl Ey My () ++ (gwl Ez Z4 () ++ ([])))) H locs) => ?_)
  refine lv_iconst (v := 1) hx hb dL_law_951 (by decide) ?_
  refine lv_icmp_ne (tgt := 1063) hx hb dL_law_952 rfl (fun h => absurd rfl h) (fun _ => ?_)
  refine lv_aload hx hb dL_law_955 (lv_at hl 0 rfl) ?_
  obtain ⟨Z7, e7, hz⟩ := zc_i hz
  refine l_callX (rest := []) (v0 := (.float 1056964608)) (X' := (gwl Ex Mx () ++ (gwl Ey My () ++ (gwl Ez Z7 () ++ ([]))))) hC hEz hI pm3 pm3.symm (C_X6_rightShare l hst Ez () e7) Y_X6_rightShare V_X6_rightShare w831 rfl ⟨rfl, rfl⟩ ⟨Nat.le_of_ble_eq_true rfl, Nat.le_of_ble_eq_true rfl⟩ rfl hl.1 rfl (Nat.le_of_ble_eq_true rfl) dL_law_957 ⟨Nat.le_of_ble_eq_true rfl, Nat.le_of_ble_eq_true rfl⟩ (fun H locs (hI : jI D s (A0 s) (gwl Ex Mx () ++ (gwl Ey My () ++ (gwl Ez Z7 () ++ ([])))) H locs) => ?_)
  refine l_ldcwF hx hb hown (hts _ w1590) dL_law_960 ?_
  refine lv_fcmp hx hb dL_law_963 ?_
  refine g_top (v := 0) (by decide +kernel) ?_
  refine lv_if_ne (tgt := 1063) hx hb dL_law_964 rfl (fun h => absurd rfl h) (fun _ => ?_)
  refine lv_aload hx hb dL_law_967 (lv_at hl 0 rfl) ?_
  refine lv_iconst (v := 0) hx hb dL_law_969 (by decide) ?_
  obtain ⟨Z8, e8, hz⟩ := zc_i hz
  refine l_callX (rest := []) (v0 := (.int 2)) (X' := (gwl Ex Mx () ++ (gwl Ey My () ++ (gwl Ez Z8 () ++ ([]))))) hC hEz hI pm3 pm3.symm (C_X6_deliver l hst Ez () e8) Y_X6_deliver V_X6_deliver w466 rfl ⟨rfl, rfl⟩ ⟨Nat.le_of_ble_eq_true rfl, Nat.le_of_ble_eq_true rfl⟩ rfl hl.1 rfl (Nat.le_of_ble_eq_true rfl) dL_law_970 ⟨Nat.le_of_ble_eq_true rfl, Nat.le_of_ble_eq_true rfl⟩ (fun H locs (hI : jI D s (A0 s) (gwl Ex Mx () ++ (gwl Ey My () ++ (gwl Ez Z8 () ++ ([])))) H locs) => ?_)
  refine lv_iconst (v := 2) hx hb dL_law_973 (by decide) ?_
  refine lv_icmp_ne (tgt := 1063) hx hb dL_law_974 rfl (fun h => absurd rfl h) (fun _ => ?_)
  refine lv_aload hx hb dL_law_977 (lv_at hl 0 rfl) ?_
  refine lv_iconst (v := 1) hx hb dL_law_979 (by decide) ?_
  obtain ⟨Z9, e9, hz⟩ := zc_i hz
  refine l_callX (rest := []) (v0 := (.int 2)) (X' := (gwl Ex Mx () ++ (gwl Ey My () ++ (gwl Ez Z9 () ++ ([]))))) hC hEz hI pm3 pm3.symm (C_X6_yardAt l hst Ez () e9) Y_X6_yardAt V_X6_yardAt w782 rfl ⟨rfl, rfl⟩ ⟨Nat.le_of_ble_eq_true rfl, Nat.le_of_ble_eq_true rfl⟩ rfl hl.1 rfl (Nat.le_of_ble_eq_true rfl) dL_law_980 ⟨Nat.le_of_ble_eq_true rfl, Nat.le_of_ble_eq_true rfl⟩ (fun H locs (hI : jI D s (A0 s) (gwl Ex Mx () ++ (gwl Ey My () ++ (gwl Ez Z9 () ++ ([])))) H locs) => ?_)
  refine lv_iconst (v := 2) hx hb dL_law_983 (by decide) ?_
  refine lv_icmp_ne (tgt := 1063) hx hb dL_law_984 rfl (fun h => absurd rfl h) (fun _ => ?_)
  refine lv_aload hx hb dL_law_987 (lv_at hl 0 rfl) ?_
  replace hz := zass hz
  obtain ⟨e10, hz⟩ := zq_i hz
  refine l_call0 (rest := []) (v0 := (.int 0)) (X' := (gwl Ex Mx () ++ (gwl Ey My () ++ (gwl Ez Z9 () ++ ([]))))) hC hEz hI pm3 pm3.symm (C_X6_keyTwins l Ez () e10) Y_X6_keyTwins V_X6_keyTwins w750 rfl ⟨rfl, rfl⟩ ⟨Nat.le_of_ble_eq_true rfl, Nat.le_of_ble_eq_true rfl⟩ rfl hl.1 rfl (Nat.le_of_ble_eq_true rfl) dL_law_989 ⟨Nat.le_of_ble_eq_true rfl, Nat.le_of_ble_eq_true rfl⟩ (fun H locs (hI : jI D s (A0 s) (gwl Ex Mx () ++ (gwl Ey My () ++ (gwl Ez Z9 () ++ ([])))) H locs) => ?_)
  refine lv_if_ne (tgt := 1063) hx hb dL_law_992 rfl (fun h => absurd rfl h) (fun _ => ?_)
  refine lv_aload hx hb dL_law_995 (lv_at hl 0 rfl) ?_
  refine lv_iconst (v := 0) hx hb dL_law_997 (by decide) ?_
  obtain ⟨e11, hz⟩ := zq_i hz
  refine l_call0 (rest := []) (v0 := (.int (gb false))) (X' := (gwl Ex Mx () ++ (gwl Ey My () ++ (gwl Ez Z9 () ++ ([]))))) hC hEz hI pm3 pm3.symm (C_X6_isInYard l Ez () e11) Y_X6_isInYard V_X6_isInYard w666 rfl ⟨rfl, rfl⟩ ⟨Nat.le_of_ble_eq_true rfl, Nat.le_of_ble_eq_true rfl⟩ rfl hl.1 rfl (Nat.le_of_ble_eq_true rfl) dL_law_998 ⟨Nat.le_of_ble_eq_true rfl, Nat.le_of_ble_eq_true rfl⟩ (fun H locs (hI : jI D s (A0 s) (gwl Ex Mx () ++ (gwl Ey My () ++ (gwl Ez Z9 () ++ ([])))) H locs) => ?_)
  refine lv_if_ne (tgt := 1063) hx hb dL_law_1001 rfl (fun h => absurd rfl h) (fun _ => ?_)
  refine lv_aload hx hb dL_law_1004 (lv_at hl 0 rfl) ?_
  refine lv_iconst (v := 3) hx hb dL_law_1006 (by decide) ?_
  refine lv_iconst (v := 0) hx hb dL_law_1007 (by decide) ?_
  refine lv_iconst (v := 0) hx hb dL_law_1008 (by decide) ?_
  refine lv_iconst (v := 0) hx hb dL_law_1009 (by decide) ?_
  obtain ⟨Z12, e12, hz⟩ := zx_i hz
  refine l_callHW (n := 5) (rest := []) (X' := (gwl Ex Mx () ++ (gwl Ey My () ++ (gwl Ez Z12 () ++ ([]))))) hC hEz hI pm3 pm3.symm (A_deliver l hst Ez (v1 := 0) (v2 := 0) (v3 := 0) e12 (fun e he => by cases he; decide)) w1098 w0 S_L_act w1096 ⟨⟨by decide, by decide⟩, by decide +kernel⟩ ⟨rfl, rfl⟩ ⟨Nat.le_of_ble_eq_true rfl, Nat.le_of_ble_eq_true rfl⟩ rfl hl.1 rfl (Nat.le_of_ble_eq_true rfl) dL_law_1010 ⟨Nat.le_of_ble_eq_true rfl, Nat.le_of_ble_eq_true rfl⟩ (fun H locs (hI : jI D s (A0 s) (gwl Ex Mx () ++ (gwl Ey My () ++ (gwl Ez Z12 () ++ ([])))) H locs) => ?_)
  refine g_top (v := (-4)) (by decide) ?_
  refine lv_bipush (v := (-4)) hx hb dL_law_1013 (by decide) ?_
  refine lv_icmp_ne (tgt := 1063) hx hb dL_law_1015 rfl (fun h => absurd rfl h) (fun _ => ?_)
  refine lv_aload hx hb dL_law_1018 (lv_at hl 0 rfl) ?_
  refine lv_iconst (v := 1) hx hb dL_law_1020 (by decide) ?_
  obtain ⟨Z13, e13, hz⟩ := zc_i hz
  refine l_callX (rest := []) (v0 := (.int 0)) (X' := (gwl Ex Mx () ++ (gwl Ey My () ++ (gwl Ez Z13 () ++ ([]))))) hC hEz hI pm3 pm3.symm (C_X6_leave l hst Ez () e13) Y_X6_leave V_X6_leave w507 rfl ⟨rfl, rfl⟩ ⟨Nat.le_of_ble_eq_true rfl, Nat.le_of_ble_eq_true rfl⟩ rfl hl.1 rfl (Nat.le_of_ble_eq_true rfl) dL_law_1021 ⟨Nat.le_of_ble_eq_true rfl, Nat.le_of_ble_eq_true rfl⟩ (fun H locs (hI : jI D s (A0 s) (gwl Ex Mx () ++ (gwl Ey My () ++ (gwl Ez Z13 () ++ ([])))) H locs) => ?_)
  refine lv_if_ne (tgt := 1063) hx hb dL_law_1024 rfl (fun h => absurd rfl h) (fun _ => ?_)
  refine lv_aload hx hb dL_law_1027 (lv_at hl 0 rfl) ?_
  refine lv_iconst (v := 1) hx hb dL_law_1029 (by decide) ?_
  obtain ⟨Z14, e14, hz⟩ := zc_i hz
  refine l_callX (rest := []) (v0 := (.int (gb false))) (X' := (gwl Ex Mx () ++ (gwl Ey My () ++ (gwl Ez Z14 () ++ ([]))))) hC hEz hI pm3 pm3.symm (C_X6_isMoored l hst Ez () e14) Y_X6_isMoored V_X6_isMoored w562 rfl ⟨rfl, rfl⟩ ⟨Nat.le_of_ble_eq_true rfl, Nat.le_of_ble_eq_true rfl⟩ rfl hl.1 rfl (Nat.le_of_ble_eq_true rfl) dL_law_1030 ⟨Nat.le_of_ble_eq_true rfl, Nat.le_of_ble_eq_true rfl⟩ (fun H locs (hI : jI D s (A0 s) (gwl Ex Mx () ++ (gwl Ey My () ++ (gwl Ez Z14 () ++ ([])))) H locs) => ?_)
  refine lv_if_ne (tgt := 1063) hx hb dL_law_1033 rfl (fun h => absurd rfl h) (fun _ => ?_)
  refine lv_aload hx hb dL_law_1036 (lv_at hl 0 rfl) ?_
  replace hz := zass hz
  replace hz := zass hz
  obtain ⟨e15, hz⟩ := zq_i hz
  refine l_call0 (rest := []) (v0 := (.int 3)) (X' := (gwl Ex Mx () ++ (gwl Ey My () ++ (gwl Ez Z14 () ++ ([]))))) hC hEz hI pm3 pm3.symm (C_X6_clearedTotal l Ez () e15) Y_X6_clearedTotal V_X6_clearedTotal w796 rfl ⟨rfl, rfl⟩ ⟨Nat.le_of_ble_eq_true rfl, Nat.le_of_ble_eq_true rfl⟩ rfl hl.1 rfl (Nat.le_of_ble_eq_true rfl) dL_law_1038 ⟨Nat.le_of_ble_eq_true rfl, Nat.le_of_ble_eq_true rfl⟩ (fun H locs (hI : jI D s (A0 s) (gwl Ex Mx () ++ (gwl Ey My () ++ (gwl Ez Z14 () ++ ([])))) H locs) => ?_)
  refine lv_iconst (v := 3) hx hb dL_law_1041 (by decide) ?_
  refine lv_icmp_ne (tgt := 1063) hx hb dL_law_1042 rfl (fun h => absurd rfl h) (fun _ => ?_)
  refine lv_aload hx hb dL_law_1045 (lv_at hl 0 rfl) ?_
  obtain ⟨e16, hz⟩ := zq_i hz
  refine l_call0 (rest := []) (v0 := (.int 1)) (X' := (gwl Ex Mx () ++ (gwl Ey My () ++ (gwl Ez Z14 () ++ ([]))))) hC hEz hI pm3 pm3.symm (C_X6_deliveredTotal l Ez () e16) Y_X6_deliveredTotal V_X6_deliveredTotal w800 rfl ⟨rfl, rfl⟩ ⟨Nat.le_of_ble_eq_true rfl, Nat.le_of_ble_eq_true rfl⟩ rfl hl.1 rfl (Nat.le_of_ble_eq_true rfl) dL_law_1047 ⟨Nat.le_of_ble_eq_true rfl, Nat.le_of_ble_eq_true rfl⟩ (fun H locs (hI : jI D s (A0 s) (gwl Ex Mx () ++ (gwl Ey My () ++ (gwl Ez Z14 () ++ ([])))) H locs) => ?_)
  refine lv_iconst (v := 1) hx hb dL_law_1050 (by decide) ?_
  refine lv_icmp_ne (tgt := 1063) hx hb dL_law_1051 rfl (fun h => absurd rfl h) (fun _ => ?_)
  refine lv_aload hx hb dL_law_1054 (lv_at hl 0 rfl) ?_
  obtain ⟨e17, hz⟩ := zq_i hz
  refine l_call0 (rest := []) (v0 := (.int 3)) (X' := (gwl Ex Mx () ++ (gwl Ey My () ++ (gwl Ez Z14 () ++ ([]))))) hC hEz hI pm3 pm3.symm (C_X6_wrongTotal l Ez () e17) Y_X6_wrongTotal V_X6_wrongTotal w804 rfl ⟨rfl, rfl⟩ ⟨Nat.le_of_ble_eq_true rfl, Nat.le_of_ble_eq_true rfl⟩ rfl hl.1 rfl (Nat.le_of_ble_eq_true rfl) dL_law_1056 ⟨Nat.le_of_ble_eq_true rfl, Nat.le_of_ble_eq_true rfl⟩ (fun H locs (hI : jI D s (A0 s) (gwl Ex Mx () ++ (gwl Ey My () ++ (gwl Ez Z14 () ++ ([])))) H locs) => ?_)
  refine lv_iconst (v := 3) hx hb dL_law_1059 (by decide) ?_
  refine lv_icmp_eq (tgt := 1065) hx hb dL_law_1060 rfl (fun _ => ?_) (fun h => absurd rfl h)
  refine W.widen (show _ ≤ 33000 by exact Nat.le_of_ble_eq_true rfl) (show _ ≤ 220000 by exact Nat.le_of_ble_eq_true rfl) ?_
  exact kk Z14 (show zR4 w k (nI ((7 * k + w) % 10)) Z14 = true from hz) H locs ls hI hl
end LZ
