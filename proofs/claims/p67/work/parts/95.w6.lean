/-! The law's walk over z, to its end; laid by wip/p67/gen/w1.py. -/
section LZ
variable {p : Program} {l : Launch} {e : Env} {s : State} {m : MethodId} {args : Array Value} {below : List Frame} {meth : Method} {c : Code} {H : Heap} {locs : List Loc} {Q : State → Prop} {D : va_G} {cid : Nat → ClassId} {J : jA} {Ex Ey Ez : gE} {adK adV : Nat → Nat} {ls : Array Slot} {r : Nat → Int32} {β b : Nat}
set_option maxRecDepth 100000 in
set_option maxHeartbeats 8000000 in
theorem law_z4 {Mx My Mz : gM} {w k : Nat} (hw : w ≤ 8) (hk : k < 64) (hst : l.stackTraces = false) (hC : lC p s m args c cL_law 10 RL D cid J) (hLd : ldcR adK s) (hEx : lE s D cid Ex) (hSx : Ex.2.2.2.2.2 = lss) (hKx : Ex.2.2.2.1 = adK) (hEy : lE s D cid Ey) (hEz : lE s D cid Ez) (hSz : Ez.2.2.2.2.2 = lss) (hKz : Ez.2.2.2.1 = adK) (hz : zR4 w k (nI ((7 * k + w) % 10)) Mz = true) (hI : jI D s (A0 s) (gwl Ex Mx () ++ (gwl Ey My () ++ (gwl Ez Mz () ++ ([])))) H locs) (hl : lv_has ls 10 [(9, .ref (Ez.2.1 132)), (8, .int (nI ((7 * k + w) % 10))), (7, .int (nI k)), (6, .int (nI w)), (4, .int (stV r)), (3, .int (r 7 + r 8 + r 9)), (1, .ref (Ex.2.1 132))])
    (kk : ∀ (Mz : gM), True → ∀ (H : Heap) (locs : List Loc) (ls : Array Slot), jI D s (A0 s) (gwl Ex Mx () ++ (gwl Ey My () ++ (gwl Ez Mz () ++ ([])))) H locs → lv_has ls 10 [(9, .ref (Ez.2.1 132)), (8, .int (nI ((7 * k + w) % 10))), (7, .int (nI k)), (6, .int (nI w)), (4, .int (stV r)), (3, .int (r 7 + r 8 + r 9)), (1, .ref (Ex.2.1 132))] → W p l e room_1 s m args below meth c H locs 34000 230000 Q (F0 m 1198 ls [])) :
    W p l e room_1 s m args below meth c H locs 33000 220000 Q (F0 m 1065 ls []) := by
  have hx := hC.1.1.1
  have hb := hC.1.1.2.1
  have hown := hC.1.1.2.2.2.1
  have hts := hC.1.1.2.2.2.2.1
  unfold zR4 at hz
  refine lv_aload hx hb dL_law_1065 (lv_at hl 0 rfl) ?_
  obtain ⟨v0, Z0, e0, n0, hz⟩ := zn_i hz
  refine l_callX (rest := []) (v0 := (.int v0)) (X' := (gwl Ex Mx () ++ (gwl Ey My () ++ (gwl Ez Z0 () ++ ([]))))) hC hEz hI pm3 pm3.symm (C_X6_undo l hst Ez () e0) Y_X6_undo V_X6_undo w1057 rfl ⟨rfl, rfl⟩ ⟨Nat.le_of_ble_eq_true rfl, Nat.le_of_ble_eq_true rfl⟩ rfl hl.1 rfl (Nat.le_of_ble_eq_true rfl) dL_law_1067 ⟨Nat.le_of_ble_eq_true rfl, Nat.le_of_ble_eq_true rfl⟩ (fun H locs (hI : jI D s (A0 s) (gwl Ex Mx () ++ (gwl Ey My () ++ (gwl Ez Z0 () ++ ([])))) H locs) => ?_)
  refine lv_if_lt (tgt := 1196) hx hb dL_law_1070 rfl (fun h => absurd h (Int32.not_lt.mpr n0)) (fun _ => ?_)
  refine lv_aload hx hb dL_law_1073 (lv_at hl 0 rfl) ?_
  refine lv_iconst (v := 1) hx hb dL_law_1075 (by decide) ?_
  obtain ⟨Z1, e1, hz⟩ := zc_i hz
  refine l_callX (rest := []) (v0 := (.int (gb true))) (X' := (gwl Ex Mx () ++ (gwl Ey My () ++ (gwl Ez Z1 () ++ ([]))))) hC hEz hI pm3 pm3.symm (C_X6_isMoored l hst Ez () e1) Y_X6_isMoored V_X6_isMoored w562 rfl ⟨rfl, rfl⟩ ⟨Nat.le_of_ble_eq_true rfl, Nat.le_of_ble_eq_true rfl⟩ rfl hl.1 rfl (Nat.le_of_ble_eq_true rfl) dL_law_1076 ⟨Nat.le_of_ble_eq_true rfl, Nat.le_of_ble_eq_true rfl⟩ (fun H locs (hI : jI D s (A0 s) (gwl Ex Mx () ++ (gwl Ey My () ++ (gwl Ez Z1 () ++ ([])))) H locs) => ?_)
  refine lv_if_eq (tgt := 1196) hx hb dL_law_1079 rfl (fun h => absurd h (by decide)) (fun _ => ?_)
  refine lv_aload hx hb dL_law_1082 (lv_at hl 0 rfl) ?_
  obtain ⟨Z2, e2, hz⟩ := zc_i hz
  refine l_callX (rest := []) (v0 := (.int 1)) (X' := (gwl Ex Mx () ++ (gwl Ey My () ++ (gwl Ez Z2 () ++ ([]))))) hC hEz hI pm3 pm3.symm (C_X6_mostUrgent l hst Ez () e2) Y_X6_mostUrgent V_X6_mostUrgent w597 rfl ⟨rfl, rfl⟩ ⟨Nat.le_of_ble_eq_true rfl, Nat.le_of_ble_eq_true rfl⟩ rfl hl.1 rfl (Nat.le_of_ble_eq_true rfl) dL_law_1084 ⟨Nat.le_of_ble_eq_true rfl, Nat.le_of_ble_eq_true rfl⟩ (fun H locs (hI : jI D s (A0 s) (gwl Ex Mx () ++ (gwl Ey My () ++ (gwl Ez Z2 () ++ ([])))) H locs) => ?_)
  refine lv_iconst (v := 1) hx hb dL_law_1087 (by decide) ?_
  refine lv_icmp_ne (tgt := 1196) hx hb dL_law_1088 rfl (fun h => absurd rfl h) (fun _ => ?_)
  refine lv_aload hx hb dL_law_1091 (lv_at hl 0 rfl) ?_
  obtain ⟨Z3, e3, hz⟩ := zc_i hz
  refine l_callX (rest := []) (v0 := (.double 0)) (X' := (gwl Ex Mx () ++ (gwl Ey My () ++ (gwl Ez Z3 () ++ ([]))))) hC hEz hI pm3 pm3.symm (C_X6_meanHeight l hst Ez () e3) Y_X6_meanHeight V_X6_meanHeight w808 rfl ⟨rfl, rfl⟩ ⟨Nat.le_of_ble_eq_true rfl, Nat.le_of_ble_eq_true rfl⟩ rfl hl.1 rfl (Nat.le_of_ble_eq_true rfl) dL_law_1093 ⟨Nat.le_of_ble_eq_true rfl, Nat.le_of_ble_eq_true rfl⟩ (fun H locs (hI : jI D s (A0 s) (gwl Ex Mx () ++ (gwl Ey My () ++ (gwl Ez Z3 () ++ ([])))) H locs) => ?_)
  refine lv_dconst0 hx hb dL_law_1096 ?_
  refine lv_dcmp hx hb dL_law_1097 ?_
  refine g_top (v := 0) (by decide +kernel) ?_
  refine lv_if_ne (tgt := 1196) hx hb dL_law_1098 rfl (fun h => absurd rfl h) (fun _ => ?_)
  refine lv_aload hx hb dL_law_1101 (lv_at hl 0 rfl) ?_
  refine lv_aload hx hb dL_law_1103 (lv_at hl 0 rfl) ?_
  refine lv_iconst (v := 1) hx hb dL_law_1105 (by decide) ?_
  obtain ⟨Z4, e4, hz⟩ := zc_i hz
  refine l_callX (rest := [.ref (Ez.2.1 132)]) (v0 := (.int 10)) (X' := (gwl Ex Mx () ++ (gwl Ey My () ++ (gwl Ez Z4 () ++ ([]))))) hC hEz hI pm3 pm3.symm (C_X6_formatBerth l hst Ez () e4) Y_X6_formatBerth V_X6_formatBerth w876 rfl ⟨rfl, rfl⟩ ⟨Nat.le_of_ble_eq_true rfl, Nat.le_of_ble_eq_true rfl⟩ rfl hl.1 rfl (Nat.le_of_ble_eq_true rfl) dL_law_1106 ⟨Nat.le_of_ble_eq_true rfl, Nat.le_of_ble_eq_true rfl⟩ (fun H locs (hI : jI D s (A0 s) (gwl Ex Mx () ++ (gwl Ey My () ++ (gwl Ez Z4 () ++ ([])))) H locs) => ?_)
  refine g_top (v := nI (ln_B1).length) (by decide +kernel) ?_
  refine l_ldcwS hx hb hown (hLd (323, "B1 d7 h2 0", 17) (by decide +kernel)) dL_law_1109 ?_
  obtain ⟨e5, hz⟩ := zl_i hz
  refine l_callHS (As := [.ref (Ez.2.1 132), .int (nI (ln_B1).length), .ref (Ez.2.2.2.1 (7 + 17))]) (rest := []) (X' := (gwl Ex Mx () ++ (gwl Ey My () ++ (gwl Ez Z4 () ++ ([]))))) hC hEz hI pm3 pm3.symm (C_isLine l hst Ez (j := 17) (bs := ln_B1) (by rw [hSz]; rfl) (Nat.le_of_ble_eq_true rfl) e5) Y_L_isLine S_L_isLine w1350 ⟨rfl, rfl⟩ ⟨Nat.le_of_ble_eq_true rfl, Nat.le_of_ble_eq_true rfl⟩ rfl hl.1 (by rw [hKz]; rfl) (Nat.le_of_ble_eq_true rfl) dL_law_1112 ⟨Nat.le_of_ble_eq_true rfl, Nat.le_of_ble_eq_true rfl⟩ (fun H locs (hI : jI D s (A0 s) (gwl Ex Mx () ++ (gwl Ey My () ++ (gwl Ez Z4 () ++ ([])))) H locs) => ?_)
  refine lv_if_eq (tgt := 1196) hx hb dL_law_1115 rfl (fun h => absurd h (by decide)) (fun _ => ?_)
  refine lv_aload hx hb dL_law_1118 (lv_at hl 0 rfl) ?_
  refine lv_aload hx hb dL_law_1120 (lv_at hl 0 rfl) ?_
  refine lv_iconst (v := 0) hx hb dL_law_1122 (by decide) ?_
  obtain ⟨Z6, e6, hz⟩ := zc_i hz
  refine l_callX (rest := [.ref (Ez.2.1 132)]) (v0 := (.int 4)) (X' := (gwl Ex Mx () ++ (gwl Ey My () ++ (gwl Ez Z6 () ++ ([]))))) hC hEz hI pm3 pm3.symm (C_X6_formatBerth l hst Ez () e6) Y_X6_formatBerth V_X6_formatBerth w876 rfl ⟨rfl, rfl⟩ ⟨Nat.le_of_ble_eq_true rfl, Nat.le_of_ble_eq_true rfl⟩ rfl hl.1 rfl (Nat.le_of_ble_eq_true rfl) dL_law_1123 ⟨Nat.le_of_ble_eq_true rfl, Nat.le_of_ble_eq_true rfl⟩ (fun H locs (hI : jI D s (A0 s) (gwl Ex Mx () ++ (gwl Ey My () ++ (gwl Ez Z6 () ++ ([])))) H locs) => ?_)
  refine g_top (v := nI (ln_B0).length) (by decide +kernel) ?_
  refine l_ldcwS hx hb hown (hLd (329, "B0 -", 18) (by decide +kernel)) dL_law_1126 ?_
  obtain ⟨e7, hz⟩ := zl_i hz
  refine l_callHS (As := [.ref (Ez.2.1 132), .int (nI (ln_B0).length), .ref (Ez.2.2.2.1 (7 + 18))]) (rest := []) (X' := (gwl Ex Mx () ++ (gwl Ey My () ++ (gwl Ez Z6 () ++ ([]))))) hC hEz hI pm3 pm3.symm (C_isLine l hst Ez (j := 18) (bs := ln_B0) (by rw [hSz]; rfl) (Nat.le_of_ble_eq_true rfl) e7) Y_L_isLine S_L_isLine w1350 ⟨rfl, rfl⟩ ⟨Nat.le_of_ble_eq_true rfl, Nat.le_of_ble_eq_true rfl⟩ rfl hl.1 (by rw [hKz]; rfl) (Nat.le_of_ble_eq_true rfl) dL_law_1129 ⟨Nat.le_of_ble_eq_true rfl, Nat.le_of_ble_eq_true rfl⟩ (fun H locs (hI : jI D s (A0 s) (gwl Ex Mx () ++ (gwl Ey My () ++ (gwl Ez Z6 () ++ ([])))) H locs) => ?_)
  refine lv_if_eq (tgt := 1196) hx hb dL_law_1132 rfl (fun h => absurd h (by decide)) (fun _ => ?_)
  refine lv_aload hx hb dL_law_1135 (lv_at hl 0 rfl) ?_
  refine lv_iconst (v := 1) hx hb dL_law_1137 (by decide) ?_
  refine lv_iconst (v := 0) hx hb dL_law_1138 (by decide) ?_
  refine lv_bipush (v := 30) hx hb dL_law_1139 (by decide) ?_
  refine lv_bipush (v := 99) hx hb dL_law_1141 (by decide) ?_
  obtain ⟨Z8, e8, hz⟩ := zc_i hz
  refine l_callX (rest := []) (v0 := (.int 3)) (X' := (gwl Ex Mx () ++ (gwl Ey My () ++ (gwl Ez Z8 () ++ ([]))))) hC hEz hI pm3 pm3.symm (C_X6_stow l hst Ez () e8) Y_X6_stow V_X6_stow w230 rfl ⟨rfl, rfl⟩ ⟨Nat.le_of_ble_eq_true rfl, Nat.le_of_ble_eq_true rfl⟩ rfl hl.1 rfl (Nat.le_of_ble_eq_true rfl) dL_law_1143 ⟨Nat.le_of_ble_eq_true rfl, Nat.le_of_ble_eq_true rfl⟩ (fun H locs (hI : jI D s (A0 s) (gwl Ex Mx () ++ (gwl Ey My () ++ (gwl Ez Z8 () ++ ([])))) H locs) => ?_)
  refine lv_iconst (v := 3) hx hb dL_law_1146 (by decide) ?_
  refine lv_icmp_ne (tgt := 1196) hx hb dL_law_1147 rfl (fun h => absurd rfl h) (fun _ => ?_)
  refine lv_aload hx hb dL_law_1150 (lv_at hl 0 rfl) ?_
  refine lv_aload hx hb dL_law_1152 (lv_at hl 0 rfl) ?_
  refine lv_iconst (v := 1) hx hb dL_law_1154 (by decide) ?_
  refine lv_iconst (v := 0) hx hb dL_law_1155 (by decide) ?_
  obtain ⟨Z9, e9, hz⟩ := zc_i hz
  refine l_callX (rest := [.ref (Ez.2.1 132)]) (v0 := (.int 7)) (X' := (gwl Ex Mx () ++ (gwl Ey My () ++ (gwl Ez Z9 () ++ ([]))))) hC hEz hI pm3 pm3.symm (C_X6_formatStack l hst Ez () e9) Y_X6_formatStack V_X6_formatStack w854 rfl ⟨rfl, rfl⟩ ⟨Nat.le_of_ble_eq_true rfl, Nat.le_of_ble_eq_true rfl⟩ rfl hl.1 rfl (Nat.le_of_ble_eq_true rfl) dL_law_1156 ⟨Nat.le_of_ble_eq_true rfl, Nat.le_of_ble_eq_true rfl⟩ (fun H locs (hI : jI D s (A0 s) (gwl Ex Mx () ++ (gwl Ey My () ++ (gwl Ez Z9 () ++ ([])))) H locs) => ?_)
  refine g_top (v := nI (ln_S).length) (by decide +kernel) ?_
  refine l_ldcwS hx hb hown (hLd (334, "3:30/99", 19) (by decide +kernel)) dL_law_1159 ?_
  replace hz := zass hz
  obtain ⟨e10, hz⟩ := zl_i hz
  refine l_callHS (As := [.ref (Ez.2.1 132), .int (nI (ln_S).length), .ref (Ez.2.2.2.1 (7 + 19))]) (rest := []) (X' := (gwl Ex Mx () ++ (gwl Ey My () ++ (gwl Ez Z9 () ++ ([]))))) hC hEz hI pm3 pm3.symm (C_isLine l hst Ez (j := 19) (bs := ln_S) (by rw [hSz]; rfl) (Nat.le_of_ble_eq_true rfl) e10) Y_L_isLine S_L_isLine w1350 ⟨rfl, rfl⟩ ⟨Nat.le_of_ble_eq_true rfl, Nat.le_of_ble_eq_true rfl⟩ rfl hl.1 (by rw [hKz]; rfl) (Nat.le_of_ble_eq_true rfl) dL_law_1162 ⟨Nat.le_of_ble_eq_true rfl, Nat.le_of_ble_eq_true rfl⟩ (fun H locs (hI : jI D s (A0 s) (gwl Ex Mx () ++ (gwl Ey My () ++ (gwl Ez Z9 () ++ ([])))) H locs) => ?_)
  refine lv_if_eq (tgt := 1196) hx hb dL_law_1165 rfl (fun h => absurd h (by decide)) (fun _ => ?_)
  refine lv_aload hx hb dL_law_1168 (lv_at hl 0 rfl) ?_
  obtain ⟨ek, hz⟩ := zq_i hz
  refine l_call0 (rest := []) (v0 := (.int (if k = 50 then 2 else 3))) (X' := (gwl Ex Mx () ++ (gwl Ey My () ++ (gwl Ez Z9 () ++ ([]))))) hC hEz hI pm3 pm3.symm (C_X6_differentKeys l Ez () ek) Y_X6_differentKeys V_X6_differentKeys w738 rfl ⟨rfl, rfl⟩ ⟨Nat.le_of_ble_eq_true rfl, Nat.le_of_ble_eq_true rfl⟩ rfl hl.1 rfl (Nat.le_of_ble_eq_true rfl) dL_law_1170 ⟨Nat.le_of_ble_eq_true rfl, Nat.le_of_ble_eq_true rfl⟩ (fun H locs (hI : jI D s (A0 s) (gwl Ex Mx () ++ (gwl Ey My () ++ (gwl Ez Z9 () ++ ([])))) H locs) => ?_)
  obtain ⟨Zl, el, hz⟩ := ze_i hz
  by_cases h50 : k = 50
  · refine g_top (v := 2) (by rw [if_pos h50]) ?_
    refine lv_iload hx hb dL_law_1173 (lv_at hl 2 rfl) ?_
    refine lv_bipush (v := 50) hx hb dL_law_1175 (by decide) ?_
    refine lv_icmp_ne (tgt := 1184) hx hb dL_law_1177 rfl (fun h => absurd (show nI k = 50 by rw [h50]; rfl) h) (fun _ => ?_)
    refine lv_iconst (v := 2) hx hb dL_law_1180 (by decide) ?_
    refine lv_goto (tgt := 1185) hx hb dL_law_1181 rfl ?_
    refine lv_icmp_ne (tgt := 1196) hx hb dL_law_1185 rfl (fun h => absurd rfl h) (fun _ => ?_)
    refine lv_aload hx hb dL_law_1188 (lv_at hl 0 rfl) ?_
    refine l_call0 (rest := []) (v0 := (.int (gb true))) (X' := (gwl Ex Mx () ++ (gwl Ey My () ++ (gwl Ez Zl () ++ ([]))))) hC hEz hI pm3 pm3.symm (C_X6_isConsistent l Ez () el) Y_X6_isConsistent V_X6_isConsistent w836 rfl ⟨rfl, rfl⟩ ⟨Nat.le_of_ble_eq_true rfl, Nat.le_of_ble_eq_true rfl⟩ rfl hl.1 rfl (Nat.le_of_ble_eq_true rfl) dL_law_1190 ⟨Nat.le_of_ble_eq_true rfl, Nat.le_of_ble_eq_true rfl⟩ (fun H locs (hI : jI D s (A0 s) (gwl Ex Mx () ++ (gwl Ey My () ++ (gwl Ez Zl () ++ ([])))) H locs) => ?_)
    refine lv_if_ne (tgt := 1198) hx hb dL_law_1193 rfl (fun _ => ?_) (fun h => absurd h (by decide))
    refine W.widen (show _ ≤ 34000 by exact Nat.le_of_ble_eq_true rfl) (show _ ≤ 230000 by exact Nat.le_of_ble_eq_true rfl) ?_
    exact kk Zl trivial H locs ls hI hl
  · refine g_top (v := 3) (by rw [if_neg h50]) ?_
    refine lv_iload hx hb dL_law_1173 (lv_at hl 2 rfl) ?_
    refine lv_bipush (v := 50) hx hb dL_law_1175 (by decide) ?_
    refine lv_icmp_ne (tgt := 1184) hx hb dL_law_1177 rfl (fun _ => ?_) (fun h9 => absurd ((nI_eq (by omega) (by omega)).mp (show nI k = nI 50 from h9)) h50)
    refine lv_iconst (v := 3) hx hb dL_law_1184 (by decide) ?_
    refine lv_icmp_ne (tgt := 1196) hx hb dL_law_1185 rfl (fun h => absurd rfl h) (fun _ => ?_)
    refine lv_aload hx hb dL_law_1188 (lv_at hl 0 rfl) ?_
    refine l_call0 (rest := []) (v0 := (.int (gb true))) (X' := (gwl Ex Mx () ++ (gwl Ey My () ++ (gwl Ez Zl () ++ ([]))))) hC hEz hI pm3 pm3.symm (C_X6_isConsistent l Ez () el) Y_X6_isConsistent V_X6_isConsistent w836 rfl ⟨rfl, rfl⟩ ⟨Nat.le_of_ble_eq_true rfl, Nat.le_of_ble_eq_true rfl⟩ rfl hl.1 rfl (Nat.le_of_ble_eq_true rfl) dL_law_1190 ⟨Nat.le_of_ble_eq_true rfl, Nat.le_of_ble_eq_true rfl⟩ (fun H locs (hI : jI D s (A0 s) (gwl Ex Mx () ++ (gwl Ey My () ++ (gwl Ez Zl () ++ ([])))) H locs) => ?_)
    refine lv_if_ne (tgt := 1198) hx hb dL_law_1193 rfl (fun _ => ?_) (fun h => absurd h (by decide))
    refine W.widen (show _ ≤ 34000 by exact Nat.le_of_ble_eq_true rfl) (show _ ≤ 230000 by exact Nat.le_of_ble_eq_true rfl) ?_
    exact kk Zl trivial H locs ls hI hl
end LZ
