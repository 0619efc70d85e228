theorem dL_law_1212 : decode cL_law 1212 = .ok (.aload_n 1, 1) := by decide +kernel
theorem dL_law_1213 : decode cL_law 1213 = .ok (.aload_n 3, 1) := by decide +kernel
theorem dL_law_1214 : decode cL_law 1214 = .ok (.invokestatic 237, 3) := by decide +kernel
theorem dL_law_1217 : decode cL_law 1217 = .ok (.istore 6, 2) := by decide +kernel
theorem dL_law_1219 : decode cL_law 1219 = .ok (.aload_n 2, 1) := by decide +kernel
theorem dL_law_1220 : decode cL_law 1220 = .ok (.invokevirtual 240, 3) := by decide +kernel
theorem dL_law_1223 : decode cL_law 1223 = .ok (.istore 7, 2) := by decide +kernel
theorem dL_law_1225 : decode cL_law 1225 = .ok (.aload_n 2, 1) := by decide +kernel
theorem dL_law_1226 : decode cL_law 1226 = .ok (.invokevirtual 184, 3) := by decide +kernel
theorem dL_law_1229 : decode cL_law 1229 = .ok (.iload 6, 2) := by decide +kernel
theorem dL_law_1231 : decode cL_law 1231 = .ok (.if_icmp .eq 5, 3) := by decide +kernel
theorem dL_law_1236 : decode cL_law 1236 = .ok (.iload 6, 2) := by decide +kernel
theorem dL_law_1238 : decode cL_law 1238 = .ok (.ifCond .ne 15, 3) := by decide +kernel
theorem dL_law_1241 : decode cL_law 1241 = .ok (.aload_n 3, 1) := by decide +kernel
theorem dL_law_1242 : decode cL_law 1242 = .ok (.iconst 0, 1) := by decide +kernel
theorem dL_law_1243 : decode cL_law 1243 = .ok (.laload, 1) := by decide +kernel
theorem dL_law_1244 : decode cL_law 1244 = .ok (.iload 7, 2) := by decide +kernel
theorem dL_law_1246 : decode cL_law 1246 = .ok (.i2l, 1) := by decide +kernel
theorem dL_law_1247 : decode cL_law 1247 = .ok (.lcmp, 1) := by decide +kernel
theorem dL_law_1248 : decode cL_law 1248 = .ok (.ifCond .eq 5, 3) := by decide +kernel
theorem dL_law_1253 : decode cL_law 1253 = .ok (.goto 2140, 3) := by decide +kernel
set_option maxRecDepth 100000 in
set_option maxHeartbeats 4000000 in
theorem Lc_16 {p : Program} {l : Launch} {e : Env} {s : State} {m : MethodId} {args : Array Value} {below : List Frame} {meth : Method} {c : Code} {H : Heap} {locs : List Loc} {cells slots : Nat} {Q : State → Prop} {E : gE} {M : gM} {x : gX} {b0 L i k : Nat} {xs : Nat → Int32} {ls : Array Slot} (K : gLw p l s m args c E b0 L xs) (hi : i + 5 ≤ L) (hk : k ≤ 580) (hcs : cells + 4 ≤ 603072 ∧ slots + 24 ≤ 7186538) (hV : gInv k M) (hI : gI E s M x H locs) (hl : lv_has ls 9 (gLv E b0 i))
    (kk : ∀ M2 x2 H2 locs2 ls2, gInv (k + 1) M2 → gI E s M2 x2 H2 locs2 → lv_has ls2 9 (gLv E b0 i) → W p l e room_1 s m args below meth c H2 locs2 (cells + 4) (slots + 24) Q (F0 m 3393 ls2 [])) : W p l e room_1 s m args below meth c H locs cells slots Q (F0 m 1212 ls []) := by
  have hC := K.1
  have hx := hC.1
  have hb := hC.2.1
  have hst := K.2.2.1
  obtain ⟨oc, M1, z, b, M2, hf, hm, hz, ha, hV2⟩ := K_mostUrgent k M hk hV
  refine lv_aload_n hx hb dL_law_1212 rfl (lv_at hl 1 rfl) ?_
  refine lv_aload_n hx hb dL_law_1213 rfl (lv_at hl 3 rfl) ?_
  refine g_callH (n := 2) hC K.2.1 hI (H_mostUrgent l hst E x hf ha) w801 w0 w800 w799 ⟨⟨by decide, by decide⟩, by decide +kernel⟩ ⟨rfl, rfl⟩ ⟨Nat.le_of_ble_eq_true rfl, Nat.le_of_ble_eq_true rfl⟩ rfl hl.1 rfl (Nat.le_of_ble_eq_true rfl) dL_law_1214 ⟨show cells + 1 ≤ 603072 by omega, show slots + 6 ≤ 7186538 by omega⟩ (fun H locs hI => ?_)
  refine lv_istore (lv' := (6, .int z) :: gLv E b0 i) hx hb dL_law_1217 hl (by decide) rfl (fun ls hl => ?_)
  refine lv_aload_n hx hb dL_law_1219 rfl (lv_at hl 3 rfl) ?_
  refine g_callVi hC hI (C_X7_mostUrgent l E _ hm) Y_X7_mostUrgent V_X7_mostUrgent w1558 (rcv_X7 hC hI) ⟨rfl, rfl⟩ ⟨Nat.le_of_ble_eq_true rfl, Nat.le_of_ble_eq_true rfl⟩ rfl hl.1 rfl (Nat.le_of_ble_eq_true rfl) dL_law_1220 ⟨show cells + 1 ≤ 603072 by omega, show slots + 6 ≤ 7186538 by omega⟩ (fun H locs hI => ?_)
  refine lv_istore (lv' := (7, .int b) :: (6, .int z) :: gLv E b0 i) hx hb dL_law_1223 hl (by decide) rfl (fun ls hl => ?_)
  refine g_tail_i K hI hz (fun h0 => ?_) hl ⟨show cells + 1 ≤ 603072 by omega, show slots + 6 ≤ 7186538 by omega⟩ (off := 2140) (by decide) dL_law_1225 dL_law_1226 dL_law_1229 dL_law_1231 dL_law_1236 dL_law_1238 dL_law_1241 dL_law_1242 dL_law_1243 dL_law_1244 dL_law_1246 dL_law_1247 dL_law_1248 dL_law_1253 (fun H locs hI => ?_)
  · unfold gXo
    rw [if_pos h0]
    rfl
  · refine W.widen (k := cells + 4) (n := slots + 24) (by omega) (by omega) ?_
    exact kk M2 _ H locs ls hV2 hI (lv_sub hl [2, 3, 4, 5, 6, 7] rfl)
theorem dL_law_1256 : decode cL_law 1256 = .ok (.aload_n 1, 1) := by decide +kernel
theorem dL_law_1257 : decode cL_law 1257 = .ok (.aload_n 0, 1) := by decide +kernel
theorem dL_law_1258 : decode cL_law 1258 = .ok (.iload 5, 2) := by decide +kernel
theorem dL_law_1260 : decode cL_law 1260 = .ok (.iconst 1, 1) := by decide +kernel
theorem dL_law_1261 : decode cL_law 1261 = .ok (.iadd, 1) := by decide +kernel
theorem dL_law_1262 : decode cL_law 1262 = .ok (.iaload, 1) := by decide +kernel
theorem dL_law_1263 : decode cL_law 1263 = .ok (.aload_n 3, 1) := by decide +kernel
theorem dL_law_1264 : decode cL_law 1264 = .ok (.invokestatic 241, 3) := by decide +kernel
theorem dL_law_1267 : decode cL_law 1267 = .ok (.istore 6, 2) := by decide +kernel
theorem dL_law_1269 : decode cL_law 1269 = .ok (.aload_n 2, 1) := by decide +kernel
theorem dL_law_1270 : decode cL_law 1270 = .ok (.aload_n 0, 1) := by decide +kernel
theorem dL_law_1271 : decode cL_law 1271 = .ok (.iload 5, 2) := by decide +kernel
theorem dL_law_1273 : decode cL_law 1273 = .ok (.iconst 1, 1) := by decide +kernel
theorem dL_law_1274 : decode cL_law 1274 = .ok (.iadd, 1) := by decide +kernel
theorem dL_law_1275 : decode cL_law 1275 = .ok (.iaload, 1) := by decide +kernel
theorem dL_law_1276 : decode cL_law 1276 = .ok (.invokevirtual 243, 3) := by decide +kernel
theorem dL_law_1279 : decode cL_law 1279 = .ok (.istore 7, 2) := by decide +kernel
theorem dL_law_1281 : decode cL_law 1281 = .ok (.aload_n 2, 1) := by decide +kernel
theorem dL_law_1282 : decode cL_law 1282 = .ok (.invokevirtual 184, 3) := by decide +kernel
theorem dL_law_1285 : decode cL_law 1285 = .ok (.iload 6, 2) := by decide +kernel
theorem dL_law_1287 : decode cL_law 1287 = .ok (.if_icmp .eq 5, 3) := by decide +kernel
theorem dL_law_1292 : decode cL_law 1292 = .ok (.iload 6, 2) := by decide +kernel
theorem dL_law_1294 : decode cL_law 1294 = .ok (.ifCond .ne 22, 3) := by decide +kernel
theorem dL_law_1297 : decode cL_law 1297 = .ok (.aload_n 3, 1) := by decide +kernel
theorem dL_law_1298 : decode cL_law 1298 = .ok (.iconst 0, 1) := by decide +kernel
theorem dL_law_1299 : decode cL_law 1299 = .ok (.laload, 1) := by decide +kernel
theorem dL_law_1300 : decode cL_law 1300 = .ok (.iload 7, 2) := by decide +kernel
theorem dL_law_1302 : decode cL_law 1302 = .ok (.ifCond .eq 7, 3) := by decide +kernel
theorem dL_law_1305 : decode cL_law 1305 = .ok (.lconst 1, 1) := by decide +kernel
theorem dL_law_1306 : decode cL_law 1306 = .ok (.goto 4, 3) := by decide +kernel
theorem dL_law_1309 : decode cL_law 1309 = .ok (.lconst 0, 1) := by decide +kernel
theorem dL_law_1310 : decode cL_law 1310 = .ok (.lcmp, 1) := by decide +kernel
theorem dL_law_1311 : decode cL_law 1311 = .ok (.ifCond .eq 5, 3) := by decide +kernel
theorem dL_law_1316 : decode cL_law 1316 = .ok (.goto 2077, 3) := by decide +kernel
set_option maxRecDepth 100000 in
set_option maxHeartbeats 4000000 in
theorem Lc_17 {p : Program} {l : Launch} {e : Env} {s : State} {m : MethodId} {args : Array Value} {below : List Frame} {meth : Method} {c : Code} {H : Heap} {locs : List Loc} {cells slots : Nat} {Q : State → Prop} {E : gE} {M : gM} {x : gX} {b0 L i k : Nat} {xs : Nat → Int32} {ls : Array Slot} (K : gLw p l s m args c E b0 L xs) (hi : i + 5 ≤ L) (hk : k ≤ 580) (hcs : cells + 4 ≤ 603072 ∧ slots + 24 ≤ 7186538) (hV : gInv k M) (hI : gI E s M x H locs) (hl : lv_has ls 9 (gLv E b0 i))
    (kk : ∀ M2 x2 H2 locs2 ls2, gInv (k + 1) M2 → gI E s M2 x2 H2 locs2 → lv_has ls2 9 (gLv E b0 i) → W p l e room_1 s m args below meth c H2 locs2 (cells + 4) (slots + 24) Q (F0 m 3393 ls2 [])) : W p l e room_1 s m args below meth c H locs cells slots Q (F0 m 1256 ls []) := by
  have hC := K.1
  have hx := hC.1
  have hb := hC.2.1
  have hst := K.2.2.1
  obtain ⟨oc, M1, z, b, M2, hf, hm, hz, ha, hV2⟩ := K_canLeave (xs (i + 1)) k M hk hV
  refine lv_aload_n hx hb dL_law_1256 rfl (lv_at hl 1 rfl) ?_
  refine g_arg K hI (j := 1) (by omega) (by decide) (lv_at hl 0 rfl) (lv_at hl 5 rfl) dL_law_1257 dL_law_1258 dL_law_1260 dL_law_1261 dL_law_1262 ?_
  refine lv_aload_n hx hb dL_law_1263 rfl (lv_at hl 3 rfl) ?_
  refine g_callH (n := 3) hC K.2.1 hI (H_canLeave l hst E x hf ha) w821 w0 w820 w819 ⟨⟨by decide, by decide⟩, by decide +kernel⟩ ⟨rfl, rfl⟩ ⟨Nat.le_of_ble_eq_true rfl, Nat.le_of_ble_eq_true rfl⟩ rfl hl.1 rfl (Nat.le_of_ble_eq_true rfl) dL_law_1264 ⟨show cells + 1 ≤ 603072 by omega, show slots + 6 ≤ 7186538 by omega⟩ (fun H locs hI => ?_)
  refine lv_istore (lv' := (6, .int z) :: gLv E b0 i) hx hb dL_law_1267 hl (by decide) rfl (fun ls hl => ?_)
  refine lv_aload_n hx hb dL_law_1269 rfl (lv_at hl 3 rfl) ?_
  refine g_arg K hI (j := 1) (by omega) (by decide) (lv_at hl 1 rfl) (lv_at hl 6 rfl) dL_law_1270 dL_law_1271 dL_law_1273 dL_law_1274 dL_law_1275 ?_
  refine g_callVi hC hI (C_X7_canLeave l E _ hm) Y_X7_canLeave V_X7_canLeave w1566 (rcv_X7 hC hI) ⟨rfl, rfl⟩ ⟨Nat.le_of_ble_eq_true rfl, Nat.le_of_ble_eq_true rfl⟩ rfl hl.1 rfl (Nat.le_of_ble_eq_true rfl) dL_law_1276 ⟨show cells + 1 ≤ 603072 by omega, show slots + 6 ≤ 7186538 by omega⟩ (fun H locs hI => ?_)
  refine lv_istore (lv' := (7, .int (gb b)) :: (6, .int z) :: gLv E b0 i) hx hb dL_law_1279 hl (by decide) rfl (fun ls hl => ?_)
  refine g_tail_b K hI hz (fun h0 => ?_) hl ⟨show cells + 1 ≤ 603072 by omega, show slots + 6 ≤ 7186538 by omega⟩ (off := 2077) (by decide) dL_law_1281 dL_law_1282 dL_law_1285 dL_law_1287 dL_law_1292 dL_law_1294 dL_law_1297 dL_law_1298 dL_law_1299 dL_law_1300 dL_law_1302 dL_law_1305 dL_law_1306 dL_law_1309 dL_law_1310 dL_law_1311 dL_law_1316 (fun H locs hI => ?_)
  · unfold gXo
    rw [if_pos h0]
    rfl
  · refine W.widen (k := cells + 4) (n := slots + 24) (by omega) (by omega) ?_
    exact kk M2 _ H locs ls hV2 hI (lv_sub hl [2, 3, 4, 5, 6, 7] rfl)
theorem dL_law_1319 : decode cL_law 1319 = .ok (.aload_n 1, 1) := by decide +kernel
theorem dL_law_1320 : decode cL_law 1320 = .ok (.aload_n 0, 1) := by decide +kernel
theorem dL_law_1321 : decode cL_law 1321 = .ok (.iload 5, 2) := by decide +kernel
theorem dL_law_1323 : decode cL_law 1323 = .ok (.iconst 1, 1) := by decide +kernel
theorem dL_law_1324 : decode cL_law 1324 = .ok (.iadd, 1) := by decide +kernel
theorem dL_law_1325 : decode cL_law 1325 = .ok (.iaload, 1) := by decide +kernel
theorem dL_law_1326 : decode cL_law 1326 = .ok (.aload_n 3, 1) := by decide +kernel
theorem dL_law_1327 : decode cL_law 1327 = .ok (.invokestatic 244, 3) := by decide +kernel
theorem dL_law_1330 : decode cL_law 1330 = .ok (.istore 6, 2) := by decide +kernel
theorem dL_law_1332 : decode cL_law 1332 = .ok (.aload_n 2, 1) := by decide +kernel
theorem dL_law_1333 : decode cL_law 1333 = .ok (.aload_n 0, 1) := by decide +kernel
theorem dL_law_1334 : decode cL_law 1334 = .ok (.iload 5, 2) := by decide +kernel
theorem dL_law_1336 : decode cL_law 1336 = .ok (.iconst 1, 1) := by decide +kernel
theorem dL_law_1337 : decode cL_law 1337 = .ok (.iadd, 1) := by decide +kernel
theorem dL_law_1338 : decode cL_law 1338 = .ok (.iaload, 1) := by decide +kernel
theorem dL_law_1339 : decode cL_law 1339 = .ok (.invokevirtual 246, 3) := by decide +kernel
theorem dL_law_1342 : decode cL_law 1342 = .ok (.istore 7, 2) := by decide +kernel
theorem dL_law_1344 : decode cL_law 1344 = .ok (.aload_n 2, 1) := by decide +kernel
theorem dL_law_1345 : decode cL_law 1345 = .ok (.invokevirtual 184, 3) := by decide +kernel
theorem dL_law_1348 : decode cL_law 1348 = .ok (.iload 6, 2) := by decide +kernel
theorem dL_law_1350 : decode cL_law 1350 = .ok (.if_icmp .eq 5, 3) := by decide +kernel
theorem dL_law_1355 : decode cL_law 1355 = .ok (.iload 6, 2) := by decide +kernel
theorem dL_law_1357 : decode cL_law 1357 = .ok (.ifCond .ne 15, 3) := by decide +kernel
theorem dL_law_1360 : decode cL_law 1360 = .ok (.aload_n 3, 1) := by decide +kernel
theorem dL_law_1361 : decode cL_law 1361 = .ok (.iconst 0, 1) := by decide +kernel
theorem dL_law_1362 : decode cL_law 1362 = .ok (.laload, 1) := by decide +kernel
theorem dL_law_1363 : decode cL_law 1363 = .ok (.iload 7, 2) := by decide +kernel
theorem dL_law_1365 : decode cL_law 1365 = .ok (.i2l, 1) := by decide +kernel
theorem dL_law_1366 : decode cL_law 1366 = .ok (.lcmp, 1) := by decide +kernel
theorem dL_law_1367 : decode cL_law 1367 = .ok (.ifCond .eq 5, 3) := by decide +kernel
theorem dL_law_1372 : decode cL_law 1372 = .ok (.goto 2021, 3) := by decide +kernel
set_option maxRecDepth 100000 in
set_option maxHeartbeats 4000000 in
theorem Lc_18 {p : Program} {l : Launch} {e : Env} {s : State} {m : MethodId} {args : Array Value} {below : List Frame} {meth : Method} {c : Code} {H : Heap} {locs : List Loc} {cells slots : Nat} {Q : State → Prop} {E : gE} {M : gM} {x : gX} {b0 L i k : Nat} {xs : Nat → Int32} {ls : Array Slot} (K : gLw p l s m args c E b0 L xs) (hi : i + 5 ≤ L) (hk : k ≤ 580) (hcs : cells + 4 ≤ 603072 ∧ slots + 24 ≤ 7186538) (hV : gInv k M) (hI : gI E s M x H locs) (hl : lv_has ls 9 (gLv E b0 i))
    (kk : ∀ M2 x2 H2 locs2 ls2, gInv (k + 1) M2 → gI E s M2 x2 H2 locs2 → lv_has ls2 9 (gLv E b0 i) → W p l e room_1 s m args below meth c H2 locs2 (cells + 4) (slots + 24) Q (F0 m 3393 ls2 [])) : W p l e room_1 s m args below meth c H locs cells slots Q (F0 m 1319 ls []) := by
  have hC := K.1
  have hx := hC.1
  have hb := hC.2.1
  have hst := K.2.2.1
  obtain ⟨oc, M1, z, b, M2, hf, hm, hz, ha, hV2⟩ := K_lockedHours (xs (i + 1)) k M hk hV
  refine lv_aload_n hx hb dL_law_1319 rfl (lv_at hl 1 rfl) ?_
  refine g_arg K hI (j := 1) (by omega) (by decide) (lv_at hl 0 rfl) (lv_at hl 5 rfl) dL_law_1320 dL_law_1321 dL_law_1323 dL_law_1324 dL_law_1325 ?_
  refine lv_aload_n hx hb dL_law_1326 rfl (lv_at hl 3 rfl) ?_
  refine g_callH (n := 3) hC K.2.1 hI (H_lockedHours l hst E x hf ha) w828 w0 w827 w826 ⟨⟨by decide, by decide⟩, by decide +kernel⟩ ⟨rfl, rfl⟩ ⟨Nat.le_of_ble_eq_true rfl, Nat.le_of_ble_eq_true rfl⟩ rfl hl.1 rfl (Nat.le_of_ble_eq_true rfl) dL_law_1327 ⟨show cells + 1 ≤ 603072 by omega, show slots + 6 ≤ 7186538 by omega⟩ (fun H locs hI => ?_)
  refine lv_istore (lv' := (6, .int z) :: gLv E b0 i) hx hb dL_law_1330 hl (by decide) rfl (fun ls hl => ?_)
  refine lv_aload_n hx hb dL_law_1332 rfl (lv_at hl 3 rfl) ?_
  refine g_arg K hI (j := 1) (by omega) (by decide) (lv_at hl 1 rfl) (lv_at hl 6 rfl) dL_law_1333 dL_law_1334 dL_law_1336 dL_law_1337 dL_law_1338 ?_
  refine g_callVi hC hI (C_X7_lockedHours l E _ hm) Y_X7_lockedHours V_X7_lockedHours w1570 (rcv_X7 hC hI) ⟨rfl, rfl⟩ ⟨Nat.le_of_ble_eq_true rfl, Nat.le_of_ble_eq_true rfl⟩ rfl hl.1 rfl (Nat.le_of_ble_eq_true rfl) dL_law_1339 ⟨show cells + 1 ≤ 603072 by omega, show slots + 6 ≤ 7186538 by omega⟩ (fun H locs hI => ?_)
  refine lv_istore (lv' := (7, .int b) :: (6, .int z) :: gLv E b0 i) hx hb dL_law_1342 hl (by decide) rfl (fun ls hl => ?_)
  refine g_tail_i K hI hz (fun h0 => ?_) hl ⟨show cells + 1 ≤ 603072 by omega, show slots + 6 ≤ 7186538 by omega⟩ (off := 2021) (by decide) dL_law_1344 dL_law_1345 dL_law_1348 dL_law_1350 dL_law_1355 dL_law_1357 dL_law_1360 dL_law_1361 dL_law_1362 dL_law_1363 dL_law_1365 dL_law_1366 dL_law_1367 dL_law_1372 (fun H locs hI => ?_)
  · unfold gXo
    rw [if_pos h0]
    rfl
  · refine W.widen (k := cells + 4) (n := slots + 24) (by omega) (by omega) ?_
    exact kk M2 _ H locs ls hV2 hI (lv_sub hl [2, 3, 4, 5, 6, 7] rfl)
theorem dL_law_1375 : decode cL_law 1375 = .ok (.aload_n 1, 1) := by decide +kernel
theorem dL_law_1376 : decode cL_law 1376 = .ok (.aload_n 0, 1) := by decide +kernel
theorem dL_law_1377 : decode cL_law 1377 = .ok (.iload 5, 2) := by decide +kernel
theorem dL_law_1379 : decode cL_law 1379 = .ok (.iconst 1, 1) := by decide +kernel
theorem dL_law_1380 : decode cL_law 1380 = .ok (.iadd, 1) := by decide +kernel
theorem dL_law_1381 : decode cL_law 1381 = .ok (.iaload, 1) := by decide +kernel
theorem dL_law_1382 : decode cL_law 1382 = .ok (.aload_n 3, 1) := by decide +kernel
theorem dL_law_1383 : decode cL_law 1383 = .ok (.invokestatic 247, 3) := by decide +kernel
theorem dL_law_1386 : decode cL_law 1386 = .ok (.istore 6, 2) := by decide +kernel
theorem dL_law_1388 : decode cL_law 1388 = .ok (.aload_n 2, 1) := by decide +kernel
theorem dL_law_1389 : decode cL_law 1389 = .ok (.aload_n 0, 1) := by decide +kernel
theorem dL_law_1390 : decode cL_law 1390 = .ok (.iload 5, 2) := by decide +kernel
theorem dL_law_1392 : decode cL_law 1392 = .ok (.iconst 1, 1) := by decide +kernel
theorem dL_law_1393 : decode cL_law 1393 = .ok (.iadd, 1) := by decide +kernel
theorem dL_law_1394 : decode cL_law 1394 = .ok (.iaload, 1) := by decide +kernel
theorem dL_law_1395 : decode cL_law 1395 = .ok (.invokevirtual 249, 3) := by decide +kernel
theorem dL_law_1398 : decode cL_law 1398 = .ok (.istore 7, 2) := by decide +kernel
theorem dL_law_1400 : decode cL_law 1400 = .ok (.aload_n 2, 1) := by decide +kernel
theorem dL_law_1401 : decode cL_law 1401 = .ok (.invokevirtual 184, 3) := by decide +kernel
theorem dL_law_1404 : decode cL_law 1404 = .ok (.iload 6, 2) := by decide +kernel
theorem dL_law_1406 : decode cL_law 1406 = .ok (.if_icmp .eq 5, 3) := by decide +kernel
theorem dL_law_1411 : decode cL_law 1411 = .ok (.iload 6, 2) := by decide +kernel
theorem dL_law_1413 : decode cL_law 1413 = .ok (.ifCond .ne 15, 3) := by decide +kernel
theorem dL_law_1416 : decode cL_law 1416 = .ok (.aload_n 3, 1) := by decide +kernel
theorem dL_law_1417 : decode cL_law 1417 = .ok (.iconst 0, 1) := by decide +kernel
theorem dL_law_1418 : decode cL_law 1418 = .ok (.laload, 1) := by decide +kernel
theorem dL_law_1419 : decode cL_law 1419 = .ok (.iload 7, 2) := by decide +kernel
theorem dL_law_1421 : decode cL_law 1421 = .ok (.i2l, 1) := by decide +kernel
theorem dL_law_1422 : decode cL_law 1422 = .ok (.lcmp, 1) := by decide +kernel
theorem dL_law_1423 : decode cL_law 1423 = .ok (.ifCond .eq 5, 3) := by decide +kernel
theorem dL_law_1428 : decode cL_law 1428 = .ok (.goto 1965, 3) := by decide +kernel
set_option maxRecDepth 100000 in
set_option maxHeartbeats 4000000 in
theorem Lc_19 {p : Program} {l : Launch} {e : Env} {s : State} {m : MethodId} {args : Array Value} {below : List Frame} {meth : Method} {c : Code} {H : Heap} {locs : List Loc} {cells slots : Nat} {Q : State → Prop} {E : gE} {M : gM} {x : gX} {b0 L i k : Nat} {xs : Nat → Int32} {ls : Array Slot} (K : gLw p l s m args c E b0 L xs) (hi : i + 5 ≤ L) (hk : k ≤ 580) (hcs : cells + 4 ≤ 603072 ∧ slots + 24 ≤ 7186538) (hV : gInv k M) (hI : gI E s M x H locs) (hl : lv_has ls 9 (gLv E b0 i))
    (kk : ∀ M2 x2 H2 locs2 ls2, gInv (k + 1) M2 → gI E s M2 x2 H2 locs2 → lv_has ls2 9 (gLv E b0 i) → W p l e room_1 s m args below meth c H2 locs2 (cells + 4) (slots + 24) Q (F0 m 3393 ls2 [])) : W p l e room_1 s m args below meth c H locs cells slots Q (F0 m 1375 ls []) := by
  have hC := K.1
  have hx := hC.1
  have hb := hC.2.1
  have hst := K.2.2.1
  obtain ⟨oc, M1, z, b, M2, hf, hm, hz, ha, hV2⟩ := K_wrongAnswers (xs (i + 1)) k M hk hV
  refine lv_aload_n hx hb dL_law_1375 rfl (lv_at hl 1 rfl) ?_
  refine g_arg K hI (j := 1) (by omega) (by decide) (lv_at hl 0 rfl) (lv_at hl 5 rfl) dL_law_1376 dL_law_1377 dL_law_1379 dL_law_1380 dL_law_1381 ?_
  refine lv_aload_n hx hb dL_law_1382 rfl (lv_at hl 3 rfl) ?_
  refine g_callH (n := 3) hC K.2.1 hI (H_wrongAnswers l hst E x hf ha) w835 w0 w834 w833 ⟨⟨by decide, by decide⟩, by decide +kernel⟩ ⟨rfl, rfl⟩ ⟨Nat.le_of_ble_eq_true rfl, Nat.le_of_ble_eq_true rfl⟩ rfl hl.1 rfl (Nat.le_of_ble_eq_true rfl) dL_law_1383 ⟨show cells + 1 ≤ 603072 by omega, show slots + 6 ≤ 7186538 by omega⟩ (fun H locs hI => ?_)
  refine lv_istore (lv' := (6, .int z) :: gLv E b0 i) hx hb dL_law_1386 hl (by decide) rfl (fun ls hl => ?_)
  refine lv_aload_n hx hb dL_law_1388 rfl (lv_at hl 3 rfl) ?_
  refine g_arg K hI (j := 1) (by omega) (by decide) (lv_at hl 1 rfl) (lv_at hl 6 rfl) dL_law_1389 dL_law_1390 dL_law_1392 dL_law_1393 dL_law_1394 ?_
  refine g_callVi hC hI (C_X7_wrongAnswers l E _ hm) Y_X7_wrongAnswers V_X7_wrongAnswers w1574 (rcv_X7 hC hI) ⟨rfl, rfl⟩ ⟨Nat.le_of_ble_eq_true rfl, Nat.le_of_ble_eq_true rfl⟩ rfl hl.1 rfl (Nat.le_of_ble_eq_true rfl) dL_law_1395 ⟨show cells + 1 ≤ 603072 by omega, show slots + 6 ≤ 7186538 by omega⟩ (fun H locs hI => ?_)
  refine lv_istore (lv' := (7, .int b) :: (6, .int z) :: gLv E b0 i) hx hb dL_law_1398 hl (by decide) rfl (fun ls hl => ?_)
  refine g_tail_i K hI hz (fun h0 => ?_) hl ⟨show cells + 1 ≤ 603072 by omega, show slots + 6 ≤ 7186538 by omega⟩ (off := 1965) (by decide) dL_law_1400 dL_law_1401 dL_law_1404 dL_law_1406 dL_law_1411 dL_law_1413 dL_law_1416 dL_law_1417 dL_law_1418 dL_law_1419 dL_law_1421 dL_law_1422 dL_law_1423 dL_law_1428 (fun H locs hI => ?_)
  · unfold gXo
    rw [if_pos h0]
    rfl
  · refine W.widen (k := cells + 4) (n := slots + 24) (by omega) (by omega) ?_
    exact kk M2 _ H locs ls hV2 hI (lv_sub hl [2, 3, 4, 5, 6, 7] rfl)
theorem dL_law_1431 : decode cL_law 1431 = .ok (.aload_n 1, 1) := by decide +kernel
theorem dL_law_1432 : decode cL_law 1432 = .ok (.aload_n 0, 1) := by decide +kernel
theorem dL_law_1433 : decode cL_law 1433 = .ok (.iload 5, 2) := by decide +kernel
theorem dL_law_1435 : decode cL_law 1435 = .ok (.iconst 1, 1) := by decide +kernel
theorem dL_law_1436 : decode cL_law 1436 = .ok (.iadd, 1) := by decide +kernel
theorem dL_law_1437 : decode cL_law 1437 = .ok (.iaload, 1) := by decide +kernel
theorem dL_law_1438 : decode cL_law 1438 = .ok (.aload_n 0, 1) := by decide +kernel
theorem dL_law_1439 : decode cL_law 1439 = .ok (.iload 5, 2) := by decide +kernel
theorem dL_law_1441 : decode cL_law 1441 = .ok (.iconst 2, 1) := by decide +kernel
theorem dL_law_1442 : decode cL_law 1442 = .ok (.iadd, 1) := by decide +kernel
theorem dL_law_1443 : decode cL_law 1443 = .ok (.iaload, 1) := by decide +kernel
theorem dL_law_1444 : decode cL_law 1444 = .ok (.aload_n 3, 1) := by decide +kernel
theorem dL_law_1445 : decode cL_law 1445 = .ok (.invokestatic 250, 3) := by decide +kernel
theorem dL_law_1448 : decode cL_law 1448 = .ok (.istore 6, 2) := by decide +kernel
theorem dL_law_1450 : decode cL_law 1450 = .ok (.aload_n 2, 1) := by decide +kernel
theorem dL_law_1451 : decode cL_law 1451 = .ok (.aload_n 0, 1) := by decide +kernel
theorem dL_law_1452 : decode cL_law 1452 = .ok (.iload 5, 2) := by decide +kernel
theorem dL_law_1454 : decode cL_law 1454 = .ok (.iconst 1, 1) := by decide +kernel
theorem dL_law_1455 : decode cL_law 1455 = .ok (.iadd, 1) := by decide +kernel
theorem dL_law_1456 : decode cL_law 1456 = .ok (.iaload, 1) := by decide +kernel
theorem dL_law_1457 : decode cL_law 1457 = .ok (.aload_n 0, 1) := by decide +kernel
theorem dL_law_1458 : decode cL_law 1458 = .ok (.iload 5, 2) := by decide +kernel
theorem dL_law_1460 : decode cL_law 1460 = .ok (.iconst 2, 1) := by decide +kernel
theorem dL_law_1461 : decode cL_law 1461 = .ok (.iadd, 1) := by decide +kernel
theorem dL_law_1462 : decode cL_law 1462 = .ok (.iaload, 1) := by decide +kernel
theorem dL_law_1463 : decode cL_law 1463 = .ok (.invokevirtual 253, 3) := by decide +kernel
theorem dL_law_1466 : decode cL_law 1466 = .ok (.istore 7, 2) := by decide +kernel
theorem dL_law_1468 : decode cL_law 1468 = .ok (.aload_n 2, 1) := by decide +kernel
theorem dL_law_1469 : decode cL_law 1469 = .ok (.invokevirtual 184, 3) := by decide +kernel
theorem dL_law_1472 : decode cL_law 1472 = .ok (.iload 6, 2) := by decide +kernel
theorem dL_law_1474 : decode cL_law 1474 = .ok (.if_icmp .eq 5, 3) := by decide +kernel
theorem dL_law_1479 : decode cL_law 1479 = .ok (.iload 6, 2) := by decide +kernel
theorem dL_law_1481 : decode cL_law 1481 = .ok (.ifCond .ne 15, 3) := by decide +kernel
theorem dL_law_1484 : decode cL_law 1484 = .ok (.aload_n 3, 1) := by decide +kernel
theorem dL_law_1485 : decode cL_law 1485 = .ok (.iconst 0, 1) := by decide +kernel
theorem dL_law_1486 : decode cL_law 1486 = .ok (.laload, 1) := by decide +kernel
theorem dL_law_1487 : decode cL_law 1487 = .ok (.iload 7, 2) := by decide +kernel
theorem dL_law_1489 : decode cL_law 1489 = .ok (.i2l, 1) := by decide +kernel
theorem dL_law_1490 : decode cL_law 1490 = .ok (.lcmp, 1) := by decide +kernel
theorem dL_law_1491 : decode cL_law 1491 = .ok (.ifCond .eq 5, 3) := by decide +kernel
theorem dL_law_1496 : decode cL_law 1496 = .ok (.goto 1897, 3) := by decide +kernel
set_option maxRecDepth 100000 in
set_option maxHeartbeats 4000000 in
theorem Lc_20 {p : Program} {l : Launch} {e : Env} {s : State} {m : MethodId} {args : Array Value} {below : List Frame} {meth : Method} {c : Code} {H : Heap} {locs : List Loc} {cells slots : Nat} {Q : State → Prop} {E : gE} {M : gM} {x : gX} {b0 L i k : Nat} {xs : Nat → Int32} {ls : Array Slot} (K : gLw p l s m args c E b0 L xs) (hi : i + 5 ≤ L) (hk : k ≤ 580) (hcs : cells + 4 ≤ 603072 ∧ slots + 24 ≤ 7186538) (hV : gInv k M) (hI : gI E s M x H locs) (hl : lv_has ls 9 (gLv E b0 i))
    (kk : ∀ M2 x2 H2 locs2 ls2, gInv (k + 1) M2 → gI E s M2 x2 H2 locs2 → lv_has ls2 9 (gLv E b0 i) → W p l e room_1 s m args below meth c H2 locs2 (cells + 4) (slots + 24) Q (F0 m 3393 ls2 [])) : W p l e room_1 s m args below meth c H locs cells slots Q (F0 m 1431 ls []) := by
  have hC := K.1
  have hx := hC.1
  have hb := hC.2.1
  have hst := K.2.2.1
  obtain ⟨oc, M1, z, b, M2, hf, hm, hz, ha, hV2⟩ := K_stackHeight (xs (i + 1)) (xs (i + 2)) k M hk hV
  refine lv_aload_n hx hb dL_law_1431 rfl (lv_at hl 1 rfl) ?_
  refine g_arg K hI (j := 1) (by omega) (by decide) (lv_at hl 0 rfl) (lv_at hl 5 rfl) dL_law_1432 dL_law_1433 dL_law_1435 dL_law_1436 dL_law_1437 ?_
  refine g_arg K hI (j := 2) (by omega) (by decide) (lv_at hl 0 rfl) (lv_at hl 5 rfl) dL_law_1438 dL_law_1439 dL_law_1441 dL_law_1442 dL_law_1443 ?_
  refine lv_aload_n hx hb dL_law_1444 rfl (lv_at hl 3 rfl) ?_
  refine g_callH (n := 4) hC K.2.1 hI (H_stackHeight l hst E x hf ha) w842 w0 w841 w840 ⟨⟨by decide, by decide⟩, by decide +kernel⟩ ⟨rfl, rfl⟩ ⟨Nat.le_of_ble_eq_true rfl, Nat.le_of_ble_eq_true rfl⟩ rfl hl.1 rfl (Nat.le_of_ble_eq_true rfl) dL_law_1445 ⟨show cells + 3 ≤ 603072 by omega, show slots + 18 ≤ 7186538 by omega⟩ (fun H locs hI => ?_)
  refine lv_istore (lv' := (6, .int z) :: gLv E b0 i) hx hb dL_law_1448 hl (by decide) rfl (fun ls hl => ?_)
  refine lv_aload_n hx hb dL_law_1450 rfl (lv_at hl 3 rfl) ?_
  refine g_arg K hI (j := 1) (by omega) (by decide) (lv_at hl 1 rfl) (lv_at hl 6 rfl) dL_law_1451 dL_law_1452 dL_law_1454 dL_law_1455 dL_law_1456 ?_
  refine g_arg K hI (j := 2) (by omega) (by decide) (lv_at hl 1 rfl) (lv_at hl 6 rfl) dL_law_1457 dL_law_1458 dL_law_1460 dL_law_1461 dL_law_1462 ?_
  refine g_callVi hC hI (C_X7_stackHeight l E _ hm) Y_X7_stackHeight V_X7_stackHeight w1578 (rcv_X7 hC hI) ⟨rfl, rfl⟩ ⟨Nat.le_of_ble_eq_true rfl, Nat.le_of_ble_eq_true rfl⟩ rfl hl.1 rfl (Nat.le_of_ble_eq_true rfl) dL_law_1463 ⟨show cells + 3 ≤ 603072 by omega, show slots + 18 ≤ 7186538 by omega⟩ (fun H locs hI => ?_)
  refine lv_istore (lv' := (7, .int b) :: (6, .int z) :: gLv E b0 i) hx hb dL_law_1466 hl (by decide) rfl (fun ls hl => ?_)
  refine g_tail_i K hI hz (fun h0 => ?_) hl ⟨show cells + 3 ≤ 603072 by omega, show slots + 18 ≤ 7186538 by omega⟩ (off := 1897) (by decide) dL_law_1468 dL_law_1469 dL_law_1472 dL_law_1474 dL_law_1479 dL_law_1481 dL_law_1484 dL_law_1485 dL_law_1486 dL_law_1487 dL_law_1489 dL_law_1490 dL_law_1491 dL_law_1496 (fun H locs hI => ?_)
  · unfold gXo
    rw [if_pos h0]
    rfl
  · refine W.widen (k := cells + 4) (n := slots + 24) (by omega) (by omega) ?_
    exact kk M2 _ H locs ls hV2 hI (lv_sub hl [2, 3, 4, 5, 6, 7] rfl)
theorem dL_law_1499 : decode cL_law 1499 = .ok (.aload_n 1, 1) := by decide +kernel
theorem dL_law_1500 : decode cL_law 1500 = .ok (.aload_n 0, 1) := by decide +kernel
theorem dL_law_1501 : decode cL_law 1501 = .ok (.iload 5, 2) := by decide +kernel
theorem dL_law_1503 : decode cL_law 1503 = .ok (.iconst 1, 1) := by decide +kernel
theorem dL_law_1504 : decode cL_law 1504 = .ok (.iadd, 1) := by decide +kernel
theorem dL_law_1505 : decode cL_law 1505 = .ok (.iaload, 1) := by decide +kernel
theorem dL_law_1506 : decode cL_law 1506 = .ok (.aload_n 0, 1) := by decide +kernel
theorem dL_law_1507 : decode cL_law 1507 = .ok (.iload 5, 2) := by decide +kernel
theorem dL_law_1509 : decode cL_law 1509 = .ok (.iconst 2, 1) := by decide +kernel
theorem dL_law_1510 : decode cL_law 1510 = .ok (.iadd, 1) := by decide +kernel
theorem dL_law_1511 : decode cL_law 1511 = .ok (.iaload, 1) := by decide +kernel
theorem dL_law_1512 : decode cL_law 1512 = .ok (.aload_n 0, 1) := by decide +kernel
theorem dL_law_1513 : decode cL_law 1513 = .ok (.iload 5, 2) := by decide +kernel
theorem dL_law_1515 : decode cL_law 1515 = .ok (.iconst 3, 1) := by decide +kernel
theorem dL_law_1516 : decode cL_law 1516 = .ok (.iadd, 1) := by decide +kernel
theorem dL_law_1517 : decode cL_law 1517 = .ok (.iaload, 1) := by decide +kernel
theorem dL_law_1518 : decode cL_law 1518 = .ok (.aload_n 3, 1) := by decide +kernel
theorem dL_law_1519 : decode cL_law 1519 = .ok (.invokestatic 254, 3) := by decide +kernel
theorem dL_law_1522 : decode cL_law 1522 = .ok (.istore 6, 2) := by decide +kernel
theorem dL_law_1524 : decode cL_law 1524 = .ok (.aload_n 2, 1) := by decide +kernel
theorem dL_law_1525 : decode cL_law 1525 = .ok (.aload_n 0, 1) := by decide +kernel
theorem dL_law_1526 : decode cL_law 1526 = .ok (.iload 5, 2) := by decide +kernel
theorem dL_law_1528 : decode cL_law 1528 = .ok (.iconst 1, 1) := by decide +kernel
theorem dL_law_1529 : decode cL_law 1529 = .ok (.iadd, 1) := by decide +kernel
theorem dL_law_1530 : decode cL_law 1530 = .ok (.iaload, 1) := by decide +kernel
theorem dL_law_1531 : decode cL_law 1531 = .ok (.aload_n 0, 1) := by decide +kernel
theorem dL_law_1532 : decode cL_law 1532 = .ok (.iload 5, 2) := by decide +kernel
theorem dL_law_1534 : decode cL_law 1534 = .ok (.iconst 2, 1) := by decide +kernel
theorem dL_law_1535 : decode cL_law 1535 = .ok (.iadd, 1) := by decide +kernel
theorem dL_law_1536 : decode cL_law 1536 = .ok (.iaload, 1) := by decide +kernel
theorem dL_law_1537 : decode cL_law 1537 = .ok (.aload_n 0, 1) := by decide +kernel
theorem dL_law_1538 : decode cL_law 1538 = .ok (.iload 5, 2) := by decide +kernel
theorem dL_law_1540 : decode cL_law 1540 = .ok (.iconst 3, 1) := by decide +kernel
theorem dL_law_1541 : decode cL_law 1541 = .ok (.iadd, 1) := by decide +kernel
theorem dL_law_1542 : decode cL_law 1542 = .ok (.iaload, 1) := by decide +kernel
theorem dL_law_1543 : decode cL_law 1543 = .ok (.invokevirtual 256, 3) := by decide +kernel
theorem dL_law_1546 : decode cL_law 1546 = .ok (.istore 7, 2) := by decide +kernel
theorem dL_law_1548 : decode cL_law 1548 = .ok (.aload_n 2, 1) := by decide +kernel
theorem dL_law_1549 : decode cL_law 1549 = .ok (.invokevirtual 184, 3) := by decide +kernel
theorem dL_law_1552 : decode cL_law 1552 = .ok (.iload 6, 2) := by decide +kernel
theorem dL_law_1554 : decode cL_law 1554 = .ok (.if_icmp .eq 5, 3) := by decide +kernel
theorem dL_law_1559 : decode cL_law 1559 = .ok (.iload 6, 2) := by decide +kernel
theorem dL_law_1561 : decode cL_law 1561 = .ok (.ifCond .ne 15, 3) := by decide +kernel
theorem dL_law_1564 : decode cL_law 1564 = .ok (.aload_n 3, 1) := by decide +kernel
theorem dL_law_1565 : decode cL_law 1565 = .ok (.iconst 0, 1) := by decide +kernel
theorem dL_law_1566 : decode cL_law 1566 = .ok (.laload, 1) := by decide +kernel
theorem dL_law_1567 : decode cL_law 1567 = .ok (.iload 7, 2) := by decide +kernel
theorem dL_law_1569 : decode cL_law 1569 = .ok (.i2l, 1) := by decide +kernel
theorem dL_law_1570 : decode cL_law 1570 = .ok (.lcmp, 1) := by decide +kernel
theorem dL_law_1571 : decode cL_law 1571 = .ok (.ifCond .eq 5, 3) := by decide +kernel
theorem dL_law_1576 : decode cL_law 1576 = .ok (.goto 1817, 3) := by decide +kernel
set_option maxRecDepth 100000 in
set_option maxHeartbeats 4000000 in
theorem Lc_21 {p : Program} {l : Launch} {e : Env} {s : State} {m : MethodId} {args : Array Value} {below : List Frame} {meth : Method} {c : Code} {H : Heap} {locs : List Loc} {cells slots : Nat} {Q : State → Prop} {E : gE} {M : gM} {x : gX} {b0 L i k : Nat} {xs : Nat → Int32} {ls : Array Slot} (K : gLw p l s m args c E b0 L xs) (hi : i + 5 ≤ L) (hk : k ≤ 580) (hcs : cells + 4 ≤ 603072 ∧ slots + 24 ≤ 7186538) (hV : gInv k M) (hI : gI E s M x H locs) (hl : lv_has ls 9 (gLv E b0 i))
    (kk : ∀ M2 x2 H2 locs2 ls2, gInv (k + 1) M2 → gI E s M2 x2 H2 locs2 → lv_has ls2 9 (gLv E b0 i) → W p l e room_1 s m args below meth c H2 locs2 (cells + 4) (slots + 24) Q (F0 m 3393 ls2 [])) : W p l e room_1 s m args below meth c H locs cells slots Q (F0 m 1499 ls []) := by
  have hC := K.1
  have hx := hC.1
  have hb := hC.2.1
  have hst := K.2.2.1
  obtain ⟨oc, M1, z, b, M2, hf, hm, hz, ha, hV2⟩ := K_containerAt (xs (i + 1)) (xs (i + 2)) (xs (i + 3)) k M hk hV
  refine lv_aload_n hx hb dL_law_1499 rfl (lv_at hl 1 rfl) ?_
  refine g_arg K hI (j := 1) (by omega) (by decide) (lv_at hl 0 rfl) (lv_at hl 5 rfl) dL_law_1500 dL_law_1501 dL_law_1503 dL_law_1504 dL_law_1505 ?_
  refine g_arg K hI (j := 2) (by omega) (by decide) (lv_at hl 0 rfl) (lv_at hl 5 rfl) dL_law_1506 dL_law_1507 dL_law_1509 dL_law_1510 dL_law_1511 ?_
  refine g_arg K hI (j := 3) (by omega) (by decide) (lv_at hl 0 rfl) (lv_at hl 5 rfl) dL_law_1512 dL_law_1513 dL_law_1515 dL_law_1516 dL_law_1517 ?_
  refine lv_aload_n hx hb dL_law_1518 rfl (lv_at hl 3 rfl) ?_
  refine g_callH (n := 5) hC K.2.1 hI (H_containerAt l hst E x hf ha) w855 w0 w854 w853 ⟨⟨by decide, by decide⟩, by decide +kernel⟩ ⟨rfl, rfl⟩ ⟨Nat.le_of_ble_eq_true rfl, Nat.le_of_ble_eq_true rfl⟩ rfl hl.1 rfl (Nat.le_of_ble_eq_true rfl) dL_law_1519 ⟨show cells + 4 ≤ 603072 by omega, show slots + 24 ≤ 7186538 by omega⟩ (fun H locs hI => ?_)
  refine lv_istore (lv' := (6, .int z) :: gLv E b0 i) hx hb dL_law_1522 hl (by decide) rfl (fun ls hl => ?_)
  refine lv_aload_n hx hb dL_law_1524 rfl (lv_at hl 3 rfl) ?_
  refine g_arg K hI (j := 1) (by omega) (by decide) (lv_at hl 1 rfl) (lv_at hl 6 rfl) dL_law_1525 dL_law_1526 dL_law_1528 dL_law_1529 dL_law_1530 ?_
  refine g_arg K hI (j := 2) (by omega) (by decide) (lv_at hl 1 rfl) (lv_at hl 6 rfl) dL_law_1531 dL_law_1532 dL_law_1534 dL_law_1535 dL_law_1536 ?_
  refine g_arg K hI (j := 3) (by omega) (by decide) (lv_at hl 1 rfl) (lv_at hl 6 rfl) dL_law_1537 dL_law_1538 dL_law_1540 dL_law_1541 dL_law_1542 ?_
  refine g_callVi hC hI (C_X7_containerAt l E _ hm) Y_X7_containerAt V_X7_containerAt w1586 (rcv_X7 hC hI) ⟨rfl, rfl⟩ ⟨Nat.le_of_ble_eq_true rfl, Nat.le_of_ble_eq_true rfl⟩ rfl hl.1 rfl (Nat.le_of_ble_eq_true rfl) dL_law_1543 ⟨show cells + 4 ≤ 603072 by omega, show slots + 24 ≤ 7186538 by omega⟩ (fun H locs hI => ?_)
  refine lv_istore (lv' := (7, .int b) :: (6, .int z) :: gLv E b0 i) hx hb dL_law_1546 hl (by decide) rfl (fun ls hl => ?_)
  refine g_tail_i K hI hz (fun h0 => ?_) hl ⟨show cells + 4 ≤ 603072 by omega, show slots + 24 ≤ 7186538 by omega⟩ (off := 1817) (by decide) dL_law_1548 dL_law_1549 dL_law_1552 dL_law_1554 dL_law_1559 dL_law_1561 dL_law_1564 dL_law_1565 dL_law_1566 dL_law_1567 dL_law_1569 dL_law_1570 dL_law_1571 dL_law_1576 (fun H locs hI => ?_)
  · unfold gXo
    rw [if_pos h0]
    rfl
  · refine W.widen (k := cells + 4) (n := slots + 24) (by omega) (by omega) ?_
    exact kk M2 _ H locs ls hV2 hI (lv_sub hl [2, 3, 4, 5, 6, 7] rfl)
theorem dL_law_1579 : decode cL_law 1579 = .ok (.aload_n 1, 1) := by decide +kernel
theorem dL_law_1580 : decode cL_law 1580 = .ok (.aload_n 0, 1) := by decide +kernel
theorem dL_law_1581 : decode cL_law 1581 = .ok (.iload 5, 2) := by decide +kernel
theorem dL_law_1583 : decode cL_law 1583 = .ok (.iconst 1, 1) := by decide +kernel
theorem dL_law_1584 : decode cL_law 1584 = .ok (.iadd, 1) := by decide +kernel
theorem dL_law_1585 : decode cL_law 1585 = .ok (.iaload, 1) := by decide +kernel
theorem dL_law_1586 : decode cL_law 1586 = .ok (.aload_n 0, 1) := by decide +kernel
theorem dL_law_1587 : decode cL_law 1587 = .ok (.iload 5, 2) := by decide +kernel
theorem dL_law_1589 : decode cL_law 1589 = .ok (.iconst 2, 1) := by decide +kernel
theorem dL_law_1590 : decode cL_law 1590 = .ok (.iadd, 1) := by decide +kernel
theorem dL_law_1591 : decode cL_law 1591 = .ok (.iaload, 1) := by decide +kernel
theorem dL_law_1592 : decode cL_law 1592 = .ok (.aload_n 3, 1) := by decide +kernel
theorem dL_law_1593 : decode cL_law 1593 = .ok (.invokestatic 257, 3) := by decide +kernel
theorem dL_law_1596 : decode cL_law 1596 = .ok (.istore 6, 2) := by decide +kernel
theorem dL_law_1598 : decode cL_law 1598 = .ok (.aload_n 2, 1) := by decide +kernel
theorem dL_law_1599 : decode cL_law 1599 = .ok (.aload_n 0, 1) := by decide +kernel
theorem dL_law_1600 : decode cL_law 1600 = .ok (.iload 5, 2) := by decide +kernel
theorem dL_law_1602 : decode cL_law 1602 = .ok (.iconst 1, 1) := by decide +kernel
theorem dL_law_1603 : decode cL_law 1603 = .ok (.iadd, 1) := by decide +kernel
theorem dL_law_1604 : decode cL_law 1604 = .ok (.iaload, 1) := by decide +kernel
theorem dL_law_1605 : decode cL_law 1605 = .ok (.aload_n 0, 1) := by decide +kernel
theorem dL_law_1606 : decode cL_law 1606 = .ok (.iload 5, 2) := by decide +kernel
theorem dL_law_1608 : decode cL_law 1608 = .ok (.iconst 2, 1) := by decide +kernel
theorem dL_law_1609 : decode cL_law 1609 = .ok (.iadd, 1) := by decide +kernel
theorem dL_law_1610 : decode cL_law 1610 = .ok (.iaload, 1) := by decide +kernel
theorem dL_law_1611 : decode cL_law 1611 = .ok (.invokevirtual 259, 3) := by decide +kernel
theorem dL_law_1614 : decode cL_law 1614 = .ok (.istore 7, 2) := by decide +kernel
theorem dL_law_1616 : decode cL_law 1616 = .ok (.aload_n 2, 1) := by decide +kernel
theorem dL_law_1617 : decode cL_law 1617 = .ok (.invokevirtual 184, 3) := by decide +kernel
theorem dL_law_1620 : decode cL_law 1620 = .ok (.iload 6, 2) := by decide +kernel
theorem dL_law_1622 : decode cL_law 1622 = .ok (.if_icmp .eq 5, 3) := by decide +kernel
theorem dL_law_1627 : decode cL_law 1627 = .ok (.iload 6, 2) := by decide +kernel
theorem dL_law_1629 : decode cL_law 1629 = .ok (.ifCond .ne 15, 3) := by decide +kernel
theorem dL_law_1632 : decode cL_law 1632 = .ok (.aload_n 3, 1) := by decide +kernel
theorem dL_law_1633 : decode cL_law 1633 = .ok (.iconst 0, 1) := by decide +kernel
theorem dL_law_1634 : decode cL_law 1634 = .ok (.laload, 1) := by decide +kernel
theorem dL_law_1635 : decode cL_law 1635 = .ok (.iload 7, 2) := by decide +kernel
theorem dL_law_1637 : decode cL_law 1637 = .ok (.i2l, 1) := by decide +kernel
theorem dL_law_1638 : decode cL_law 1638 = .ok (.lcmp, 1) := by decide +kernel
theorem dL_law_1639 : decode cL_law 1639 = .ok (.ifCond .eq 5, 3) := by decide +kernel
theorem dL_law_1644 : decode cL_law 1644 = .ok (.goto 1749, 3) := by decide +kernel
set_option maxRecDepth 100000 in
set_option maxHeartbeats 4000000 in
theorem Lc_22 {p : Program} {l : Launch} {e : Env} {s : State} {m : MethodId} {args : Array Value} {below : List Frame} {meth : Method} {c : Code} {H : Heap} {locs : List Loc} {cells slots : Nat} {Q : State → Prop} {E : gE} {M : gM} {x : gX} {b0 L i k : Nat} {xs : Nat → Int32} {ls : Array Slot} (K : gLw p l s m args c E b0 L xs) (hi : i + 5 ≤ L) (hk : k ≤ 580) (hcs : cells + 4 ≤ 603072 ∧ slots + 24 ≤ 7186538) (hV : gInv k M) (hI : gI E s M x H locs) (hl : lv_has ls 9 (gLv E b0 i))
    (kk : ∀ M2 x2 H2 locs2 ls2, gInv (k + 1) M2 → gI E s M2 x2 H2 locs2 → lv_has ls2 9 (gLv E b0 i) → W p l e room_1 s m args below meth c H2 locs2 (cells + 4) (slots + 24) Q (F0 m 3393 ls2 [])) : W p l e room_1 s m args below meth c H locs cells slots Q (F0 m 1579 ls []) := by
  have hC := K.1
  have hx := hC.1
  have hb := hC.2.1
  have hst := K.2.2.1
  obtain ⟨oc, M1, z, b, M2, hf, hm, hz, ha, hV2⟩ := K_topOf (xs (i + 1)) (xs (i + 2)) k M hk hV
  refine lv_aload_n hx hb dL_law_1579 rfl (lv_at hl 1 rfl) ?_
  refine g_arg K hI (j := 1) (by omega) (by decide) (lv_at hl 0 rfl) (lv_at hl 5 rfl) dL_law_1580 dL_law_1581 dL_law_1583 dL_law_1584 dL_law_1585 ?_
  refine g_arg K hI (j := 2) (by omega) (by decide) (lv_at hl 0 rfl) (lv_at hl 5 rfl) dL_law_1586 dL_law_1587 dL_law_1589 dL_law_1590 dL_law_1591 ?_
  refine lv_aload_n hx hb dL_law_1592 rfl (lv_at hl 3 rfl) ?_
  refine g_callH (n := 4) hC K.2.1 hI (H_topOf l hst E x hf ha) w867 w0 w866 w865 ⟨⟨by decide, by decide⟩, by decide +kernel⟩ ⟨rfl, rfl⟩ ⟨Nat.le_of_ble_eq_true rfl, Nat.le_of_ble_eq_true rfl⟩ rfl hl.1 rfl (Nat.le_of_ble_eq_true rfl) dL_law_1593 ⟨show cells + 4 ≤ 603072 by omega, show slots + 24 ≤ 7186538 by omega⟩ (fun H locs hI => ?_)
  refine lv_istore (lv' := (6, .int z) :: gLv E b0 i) hx hb dL_law_1596 hl (by decide) rfl (fun ls hl => ?_)
  refine lv_aload_n hx hb dL_law_1598 rfl (lv_at hl 3 rfl) ?_
  refine g_arg K hI (j := 1) (by omega) (by decide) (lv_at hl 1 rfl) (lv_at hl 6 rfl) dL_law_1599 dL_law_1600 dL_law_1602 dL_law_1603 dL_law_1604 ?_
  refine g_arg K hI (j := 2) (by omega) (by decide) (lv_at hl 1 rfl) (lv_at hl 6 rfl) dL_law_1605 dL_law_1606 dL_law_1608 dL_law_1609 dL_law_1610 ?_
  refine g_callVi hC hI (C_X7_topOf l E _ hm) Y_X7_topOf V_X7_topOf w1590 (rcv_X7 hC hI) ⟨rfl, rfl⟩ ⟨Nat.le_of_ble_eq_true rfl, Nat.le_of_ble_eq_true rfl⟩ rfl hl.1 rfl (Nat.le_of_ble_eq_true rfl) dL_law_1611 ⟨show cells + 4 ≤ 603072 by omega, show slots + 24 ≤ 7186538 by omega⟩ (fun H locs hI => ?_)
  refine lv_istore (lv' := (7, .int b) :: (6, .int z) :: gLv E b0 i) hx hb dL_law_1614 hl (by decide) rfl (fun ls hl => ?_)
  refine g_tail_i K hI hz (fun h0 => ?_) hl ⟨show cells + 4 ≤ 603072 by omega, show slots + 24 ≤ 7186538 by omega⟩ (off := 1749) (by decide) dL_law_1616 dL_law_1617 dL_law_1620 dL_law_1622 dL_law_1627 dL_law_1629 dL_law_1632 dL_law_1633 dL_law_1634 dL_law_1635 dL_law_1637 dL_law_1638 dL_law_1639 dL_law_1644 (fun H locs hI => ?_)
  · unfold gXo
    rw [if_pos h0]
    rfl
  · refine W.widen (k := cells + 4) (n := slots + 24) (by omega) (by omega) ?_
    exact kk M2 _ H locs ls hV2 hI (lv_sub hl [2, 3, 4, 5, 6, 7] rfl)
theorem dL_law_1647 : decode cL_law 1647 = .ok (.aload_n 1, 1) := by decide +kernel
theorem dL_law_1648 : decode cL_law 1648 = .ok (.aload_n 0, 1) := by decide +kernel
theorem dL_law_1649 : decode cL_law 1649 = .ok (.iload 5, 2) := by decide +kernel
theorem dL_law_1651 : decode cL_law 1651 = .ok (.iconst 1, 1) := by decide +kernel
theorem dL_law_1652 : decode cL_law 1652 = .ok (.iadd, 1) := by decide +kernel
theorem dL_law_1653 : decode cL_law 1653 = .ok (.iaload, 1) := by decide +kernel
theorem dL_law_1654 : decode cL_law 1654 = .ok (.aload_n 3, 1) := by decide +kernel
theorem dL_law_1655 : decode cL_law 1655 = .ok (.invokestatic 260, 3) := by decide +kernel
theorem dL_law_1658 : decode cL_law 1658 = .ok (.istore 6, 2) := by decide +kernel
theorem dL_law_1660 : decode cL_law 1660 = .ok (.aload_n 2, 1) := by decide +kernel
theorem dL_law_1661 : decode cL_law 1661 = .ok (.aload_n 0, 1) := by decide +kernel
theorem dL_law_1662 : decode cL_law 1662 = .ok (.iload 5, 2) := by decide +kernel
theorem dL_law_1664 : decode cL_law 1664 = .ok (.iconst 1, 1) := by decide +kernel
theorem dL_law_1665 : decode cL_law 1665 = .ok (.iadd, 1) := by decide +kernel
theorem dL_law_1666 : decode cL_law 1666 = .ok (.iaload, 1) := by decide +kernel
theorem dL_law_1667 : decode cL_law 1667 = .ok (.invokevirtual 262, 3) := by decide +kernel
theorem dL_law_1670 : decode cL_law 1670 = .ok (.istore 7, 2) := by decide +kernel
theorem dL_law_1672 : decode cL_law 1672 = .ok (.aload_n 2, 1) := by decide +kernel
theorem dL_law_1673 : decode cL_law 1673 = .ok (.invokevirtual 184, 3) := by decide +kernel
theorem dL_law_1676 : decode cL_law 1676 = .ok (.iload 6, 2) := by decide +kernel
theorem dL_law_1678 : decode cL_law 1678 = .ok (.if_icmp .eq 5, 3) := by decide +kernel
theorem dL_law_1683 : decode cL_law 1683 = .ok (.iload 6, 2) := by decide +kernel
theorem dL_law_1685 : decode cL_law 1685 = .ok (.ifCond .ne 15, 3) := by decide +kernel
theorem dL_law_1688 : decode cL_law 1688 = .ok (.aload_n 3, 1) := by decide +kernel
theorem dL_law_1689 : decode cL_law 1689 = .ok (.iconst 0, 1) := by decide +kernel
theorem dL_law_1690 : decode cL_law 1690 = .ok (.laload, 1) := by decide +kernel
theorem dL_law_1691 : decode cL_law 1691 = .ok (.iload 7, 2) := by decide +kernel
theorem dL_law_1693 : decode cL_law 1693 = .ok (.i2l, 1) := by decide +kernel
theorem dL_law_1694 : decode cL_law 1694 = .ok (.lcmp, 1) := by decide +kernel
theorem dL_law_1695 : decode cL_law 1695 = .ok (.ifCond .eq 5, 3) := by decide +kernel
theorem dL_law_1700 : decode cL_law 1700 = .ok (.goto 1693, 3) := by decide +kernel
set_option maxRecDepth 100000 in
set_option maxHeartbeats 4000000 in
theorem Lc_23 {p : Program} {l : Launch} {e : Env} {s : State} {m : MethodId} {args : Array Value} {below : List Frame} {meth : Method} {c : Code} {H : Heap} {locs : List Loc} {cells slots : Nat} {Q : State → Prop} {E : gE} {M : gM} {x : gX} {b0 L i k : Nat} {xs : Nat → Int32} {ls : Array Slot} (K : gLw p l s m args c E b0 L xs) (hi : i + 5 ≤ L) (hk : k ≤ 580) (hcs : cells + 4 ≤ 603072 ∧ slots + 24 ≤ 7186538) (hV : gInv k M) (hI : gI E s M x H locs) (hl : lv_has ls 9 (gLv E b0 i))
    (kk : ∀ M2 x2 H2 locs2 ls2, gInv (k + 1) M2 → gI E s M2 x2 H2 locs2 → lv_has ls2 9 (gLv E b0 i) → W p l e room_1 s m args below meth c H2 locs2 (cells + 4) (slots + 24) Q (F0 m 3393 ls2 [])) : W p l e room_1 s m args below meth c H locs cells slots Q (F0 m 1647 ls []) := by
  have hC := K.1
  have hx := hC.1
  have hb := hC.2.1
  have hst := K.2.2.1
  obtain ⟨oc, M1, z, b, M2, hf, hm, hz, ha, hV2⟩ := K_containersOn (xs (i + 1)) k M hk hV
  refine lv_aload_n hx hb dL_law_1647 rfl (lv_at hl 1 rfl) ?_
  refine g_arg K hI (j := 1) (by omega) (by decide) (lv_at hl 0 rfl) (lv_at hl 5 rfl) dL_law_1648 dL_law_1649 dL_law_1651 dL_law_1652 dL_law_1653 ?_
  refine lv_aload_n hx hb dL_law_1654 rfl (lv_at hl 3 rfl) ?_
  refine g_callH (n := 3) hC K.2.1 hI (H_containersOn l hst E x hf ha) w875 w0 w874 w873 ⟨⟨by decide, by decide⟩, by decide +kernel⟩ ⟨rfl, rfl⟩ ⟨Nat.le_of_ble_eq_true rfl, Nat.le_of_ble_eq_true rfl⟩ rfl hl.1 rfl (Nat.le_of_ble_eq_true rfl) dL_law_1655 ⟨show cells + 2 ≤ 603072 by omega, show slots + 12 ≤ 7186538 by omega⟩ (fun H locs hI => ?_)
  refine lv_istore (lv' := (6, .int z) :: gLv E b0 i) hx hb dL_law_1658 hl (by decide) rfl (fun ls hl => ?_)
  refine lv_aload_n hx hb dL_law_1660 rfl (lv_at hl 3 rfl) ?_
  refine g_arg K hI (j := 1) (by omega) (by decide) (lv_at hl 1 rfl) (lv_at hl 6 rfl) dL_law_1661 dL_law_1662 dL_law_1664 dL_law_1665 dL_law_1666 ?_
  refine g_callVi hC hI (C_X7_containersOn l E _ hm) Y_X7_containersOn V_X7_containersOn w1594 (rcv_X7 hC hI) ⟨rfl, rfl⟩ ⟨Nat.le_of_ble_eq_true rfl, Nat.le_of_ble_eq_true rfl⟩ rfl hl.1 rfl (Nat.le_of_ble_eq_true rfl) dL_law_1667 ⟨show cells + 2 ≤ 603072 by omega, show slots + 12 ≤ 7186538 by omega⟩ (fun H locs hI => ?_)
  refine lv_istore (lv' := (7, .int b) :: (6, .int z) :: gLv E b0 i) hx hb dL_law_1670 hl (by decide) rfl (fun ls hl => ?_)
  refine g_tail_i K hI hz (fun h0 => ?_) hl ⟨show cells + 2 ≤ 603072 by omega, show slots + 12 ≤ 7186538 by omega⟩ (off := 1693) (by decide) dL_law_1672 dL_law_1673 dL_law_1676 dL_law_1678 dL_law_1683 dL_law_1685 dL_law_1688 dL_law_1689 dL_law_1690 dL_law_1691 dL_law_1693 dL_law_1694 dL_law_1695 dL_law_1700 (fun H locs hI => ?_)
  · unfold gXo
    rw [if_pos h0]
    rfl
  · refine W.widen (k := cells + 4) (n := slots + 24) (by omega) (by omega) ?_
    exact kk M2 _ H locs ls hV2 hI (lv_sub hl [2, 3, 4, 5, 6, 7] rfl)
theorem dL_law_1703 : decode cL_law 1703 = .ok (.aload_n 1, 1) := by decide +kernel
theorem dL_law_1704 : decode cL_law 1704 = .ok (.aload_n 0, 1) := by decide +kernel
theorem dL_law_1705 : decode cL_law 1705 = .ok (.iload 5, 2) := by decide +kernel
theorem dL_law_1707 : decode cL_law 1707 = .ok (.iconst 1, 1) := by decide +kernel
theorem dL_law_1708 : decode cL_law 1708 = .ok (.iadd, 1) := by decide +kernel
theorem dL_law_1709 : decode cL_law 1709 = .ok (.iaload, 1) := by decide +kernel
theorem dL_law_1710 : decode cL_law 1710 = .ok (.aload_n 3, 1) := by decide +kernel
theorem dL_law_1711 : decode cL_law 1711 = .ok (.invokestatic 263, 3) := by decide +kernel
theorem dL_law_1714 : decode cL_law 1714 = .ok (.istore 6, 2) := by decide +kernel
theorem dL_law_1716 : decode cL_law 1716 = .ok (.aload_n 2, 1) := by decide +kernel
theorem dL_law_1717 : decode cL_law 1717 = .ok (.aload_n 0, 1) := by decide +kernel
theorem dL_law_1718 : decode cL_law 1718 = .ok (.iload 5, 2) := by decide +kernel
theorem dL_law_1720 : decode cL_law 1720 = .ok (.iconst 1, 1) := by decide +kernel
theorem dL_law_1721 : decode cL_law 1721 = .ok (.iadd, 1) := by decide +kernel
theorem dL_law_1722 : decode cL_law 1722 = .ok (.iaload, 1) := by decide +kernel
theorem dL_law_1723 : decode cL_law 1723 = .ok (.invokevirtual 265, 3) := by decide +kernel
theorem dL_law_1726 : decode cL_law 1726 = .ok (.istore 7, 2) := by decide +kernel
theorem dL_law_1728 : decode cL_law 1728 = .ok (.aload_n 2, 1) := by decide +kernel
theorem dL_law_1729 : decode cL_law 1729 = .ok (.invokevirtual 184, 3) := by decide +kernel
theorem dL_law_1732 : decode cL_law 1732 = .ok (.iload 6, 2) := by decide +kernel
theorem dL_law_1734 : decode cL_law 1734 = .ok (.if_icmp .eq 5, 3) := by decide +kernel
theorem dL_law_1739 : decode cL_law 1739 = .ok (.iload 6, 2) := by decide +kernel
theorem dL_law_1741 : decode cL_law 1741 = .ok (.ifCond .ne 15, 3) := by decide +kernel
theorem dL_law_1744 : decode cL_law 1744 = .ok (.aload_n 3, 1) := by decide +kernel
theorem dL_law_1745 : decode cL_law 1745 = .ok (.iconst 0, 1) := by decide +kernel
theorem dL_law_1746 : decode cL_law 1746 = .ok (.laload, 1) := by decide +kernel
theorem dL_law_1747 : decode cL_law 1747 = .ok (.iload 7, 2) := by decide +kernel
theorem dL_law_1749 : decode cL_law 1749 = .ok (.i2l, 1) := by decide +kernel
theorem dL_law_1750 : decode cL_law 1750 = .ok (.lcmp, 1) := by decide +kernel
theorem dL_law_1751 : decode cL_law 1751 = .ok (.ifCond .eq 5, 3) := by decide +kernel
theorem dL_law_1756 : decode cL_law 1756 = .ok (.goto 1637, 3) := by decide +kernel
set_option maxRecDepth 100000 in
set_option maxHeartbeats 4000000 in
theorem Lc_24 {p : Program} {l : Launch} {e : Env} {s : State} {m : MethodId} {args : Array Value} {below : List Frame} {meth : Method} {c : Code} {H : Heap} {locs : List Loc} {cells slots : Nat} {Q : State → Prop} {E : gE} {M : gM} {x : gX} {b0 L i k : Nat} {xs : Nat → Int32} {ls : Array Slot} (K : gLw p l s m args c E b0 L xs) (hi : i + 5 ≤ L) (hk : k ≤ 580) (hcs : cells + 4 ≤ 603072 ∧ slots + 24 ≤ 7186538) (hV : gInv k M) (hI : gI E s M x H locs) (hl : lv_has ls 9 (gLv E b0 i))
    (kk : ∀ M2 x2 H2 locs2 ls2, gInv (k + 1) M2 → gI E s M2 x2 H2 locs2 → lv_has ls2 9 (gLv E b0 i) → W p l e room_1 s m args below meth c H2 locs2 (cells + 4) (slots + 24) Q (F0 m 3393 ls2 [])) : W p l e room_1 s m args below meth c H locs cells slots Q (F0 m 1703 ls []) := by
  have hC := K.1
  have hx := hC.1
  have hb := hC.2.1
  have hst := K.2.2.1
  obtain ⟨oc, M1, z, b, M2, hf, hm, hz, ha, hV2⟩ := K_weightOn (xs (i + 1)) k M hk hV
  refine lv_aload_n hx hb dL_law_1703 rfl (lv_at hl 1 rfl) ?_
  refine g_arg K hI (j := 1) (by omega) (by decide) (lv_at hl 0 rfl) (lv_at hl 5 rfl) dL_law_1704 dL_law_1705 dL_law_1707 dL_law_1708 dL_law_1709 ?_
  refine lv_aload_n hx hb dL_law_1710 rfl (lv_at hl 3 rfl) ?_
  refine g_callH (n := 3) hC K.2.1 hI (H_weightOn l hst E x hf ha) w883 w0 w882 w881 ⟨⟨by decide, by decide⟩, by decide +kernel⟩ ⟨rfl, rfl⟩ ⟨Nat.le_of_ble_eq_true rfl, Nat.le_of_ble_eq_true rfl⟩ rfl hl.1 rfl (Nat.le_of_ble_eq_true rfl) dL_law_1711 ⟨show cells + 2 ≤ 603072 by omega, show slots + 12 ≤ 7186538 by omega⟩ (fun H locs hI => ?_)
  refine lv_istore (lv' := (6, .int z) :: gLv E b0 i) hx hb dL_law_1714 hl (by decide) rfl (fun ls hl => ?_)
  refine lv_aload_n hx hb dL_law_1716 rfl (lv_at hl 3 rfl) ?_
  refine g_arg K hI (j := 1) (by omega) (by decide) (lv_at hl 1 rfl) (lv_at hl 6 rfl) dL_law_1717 dL_law_1718 dL_law_1720 dL_law_1721 dL_law_1722 ?_
  refine g_callVi hC hI (C_X7_weightOn l E _ hm) Y_X7_weightOn V_X7_weightOn w1598 (rcv_X7 hC hI) ⟨rfl, rfl⟩ ⟨Nat.le_of_ble_eq_true rfl, Nat.le_of_ble_eq_true rfl⟩ rfl hl.1 rfl (Nat.le_of_ble_eq_true rfl) dL_law_1723 ⟨show cells + 2 ≤ 603072 by omega, show slots + 12 ≤ 7186538 by omega⟩ (fun H locs hI => ?_)
  refine lv_istore (lv' := (7, .int b) :: (6, .int z) :: gLv E b0 i) hx hb dL_law_1726 hl (by decide) rfl (fun ls hl => ?_)
  refine g_tail_i K hI hz (fun h0 => ?_) hl ⟨show cells + 2 ≤ 603072 by omega, show slots + 12 ≤ 7186538 by omega⟩ (off := 1637) (by decide) dL_law_1728 dL_law_1729 dL_law_1732 dL_law_1734 dL_law_1739 dL_law_1741 dL_law_1744 dL_law_1745 dL_law_1746 dL_law_1747 dL_law_1749 dL_law_1750 dL_law_1751 dL_law_1756 (fun H locs hI => ?_)
  · unfold gXo
    rw [if_pos h0]
    rfl
  · refine W.widen (k := cells + 4) (n := slots + 24) (by omega) (by omega) ?_
    exact kk M2 _ H locs ls hV2 hI (lv_sub hl [2, 3, 4, 5, 6, 7] rfl)
theorem dL_law_1759 : decode cL_law 1759 = .ok (.aload_n 1, 1) := by decide +kernel
theorem dL_law_1760 : decode cL_law 1760 = .ok (.aload_n 0, 1) := by decide +kernel
theorem dL_law_1761 : decode cL_law 1761 = .ok (.iload 5, 2) := by decide +kernel
theorem dL_law_1763 : decode cL_law 1763 = .ok (.iconst 1, 1) := by decide +kernel
theorem dL_law_1764 : decode cL_law 1764 = .ok (.iadd, 1) := by decide +kernel
theorem dL_law_1765 : decode cL_law 1765 = .ok (.iaload, 1) := by decide +kernel
theorem dL_law_1766 : decode cL_law 1766 = .ok (.aload_n 3, 1) := by decide +kernel
theorem dL_law_1767 : decode cL_law 1767 = .ok (.invokestatic 266, 3) := by decide +kernel
theorem dL_law_1770 : decode cL_law 1770 = .ok (.istore 6, 2) := by decide +kernel
theorem dL_law_1772 : decode cL_law 1772 = .ok (.aload_n 2, 1) := by decide +kernel
theorem dL_law_1773 : decode cL_law 1773 = .ok (.aload_n 0, 1) := by decide +kernel
theorem dL_law_1774 : decode cL_law 1774 = .ok (.iload 5, 2) := by decide +kernel
theorem dL_law_1776 : decode cL_law 1776 = .ok (.iconst 1, 1) := by decide +kernel
theorem dL_law_1777 : decode cL_law 1777 = .ok (.iadd, 1) := by decide +kernel
theorem dL_law_1778 : decode cL_law 1778 = .ok (.iaload, 1) := by decide +kernel
theorem dL_law_1779 : decode cL_law 1779 = .ok (.invokevirtual 268, 3) := by decide +kernel
theorem dL_law_1782 : decode cL_law 1782 = .ok (.istore 7, 2) := by decide +kernel
theorem dL_law_1784 : decode cL_law 1784 = .ok (.aload_n 2, 1) := by decide +kernel
theorem dL_law_1785 : decode cL_law 1785 = .ok (.invokevirtual 184, 3) := by decide +kernel
theorem dL_law_1788 : decode cL_law 1788 = .ok (.iload 6, 2) := by decide +kernel
theorem dL_law_1790 : decode cL_law 1790 = .ok (.if_icmp .eq 5, 3) := by decide +kernel
theorem dL_law_1795 : decode cL_law 1795 = .ok (.iload 6, 2) := by decide +kernel
theorem dL_law_1797 : decode cL_law 1797 = .ok (.ifCond .ne 15, 3) := by decide +kernel
theorem dL_law_1800 : decode cL_law 1800 = .ok (.aload_n 3, 1) := by decide +kernel
theorem dL_law_1801 : decode cL_law 1801 = .ok (.iconst 0, 1) := by decide +kernel
theorem dL_law_1802 : decode cL_law 1802 = .ok (.laload, 1) := by decide +kernel
theorem dL_law_1803 : decode cL_law 1803 = .ok (.iload 7, 2) := by decide +kernel
theorem dL_law_1805 : decode cL_law 1805 = .ok (.i2l, 1) := by decide +kernel
theorem dL_law_1806 : decode cL_law 1806 = .ok (.lcmp, 1) := by decide +kernel
theorem dL_law_1807 : decode cL_law 1807 = .ok (.ifCond .eq 5, 3) := by decide +kernel
theorem dL_law_1812 : decode cL_law 1812 = .ok (.goto 1581, 3) := by decide +kernel
set_option maxRecDepth 100000 in
set_option maxHeartbeats 4000000 in
theorem Lc_25 {p : Program} {l : Launch} {e : Env} {s : State} {m : MethodId} {args : Array Value} {below : List Frame} {meth : Method} {c : Code} {H : Heap} {locs : List Loc} {cells slots : Nat} {Q : State → Prop} {E : gE} {M : gM} {x : gX} {b0 L i k : Nat} {xs : Nat → Int32} {ls : Array Slot} (K : gLw p l s m args c E b0 L xs) (hi : i + 5 ≤ L) (hk : k ≤ 580) (hcs : cells + 4 ≤ 603072 ∧ slots + 24 ≤ 7186538) (hV : gInv k M) (hI : gI E s M x H locs) (hl : lv_has ls 9 (gLv E b0 i))
    (kk : ∀ M2 x2 H2 locs2 ls2, gInv (k + 1) M2 → gI E s M2 x2 H2 locs2 → lv_has ls2 9 (gLv E b0 i) → W p l e room_1 s m args below meth c H2 locs2 (cells + 4) (slots + 24) Q (F0 m 3393 ls2 [])) : W p l e room_1 s m args below meth c H locs cells slots Q (F0 m 1759 ls []) := by
  have hC := K.1
  have hx := hC.1
  have hb := hC.2.1
  have hst := K.2.2.1
  obtain ⟨oc, M1, z, b, M2, hf, hm, hz, ha, hV2⟩ := K_weightOnByContainers (xs (i + 1)) k M hk hV
  refine lv_aload_n hx hb dL_law_1759 rfl (lv_at hl 1 rfl) ?_
  refine g_arg K hI (j := 1) (by omega) (by decide) (lv_at hl 0 rfl) (lv_at hl 5 rfl) dL_law_1760 dL_law_1761 dL_law_1763 dL_law_1764 dL_law_1765 ?_
  refine lv_aload_n hx hb dL_law_1766 rfl (lv_at hl 3 rfl) ?_
  refine g_callH (n := 3) hC K.2.1 hI (H_weightOnByContainers l hst E x hf ha) w891 w0 w890 w889 ⟨⟨by decide, by decide⟩, by decide +kernel⟩ ⟨rfl, rfl⟩ ⟨Nat.le_of_ble_eq_true rfl, Nat.le_of_ble_eq_true rfl⟩ rfl hl.1 rfl (Nat.le_of_ble_eq_true rfl) dL_law_1767 ⟨show cells + 2 ≤ 603072 by omega, show slots + 12 ≤ 7186538 by omega⟩ (fun H locs hI => ?_)
  refine lv_istore (lv' := (6, .int z) :: gLv E b0 i) hx hb dL_law_1770 hl (by decide) rfl (fun ls hl => ?_)
  refine lv_aload_n hx hb dL_law_1772 rfl (lv_at hl 3 rfl) ?_
  refine g_arg K hI (j := 1) (by omega) (by decide) (lv_at hl 1 rfl) (lv_at hl 6 rfl) dL_law_1773 dL_law_1774 dL_law_1776 dL_law_1777 dL_law_1778 ?_
  refine g_callVi hC hI (C_X7_weightOnByContainers l E _ hm) Y_X7_weightOnByContainers V_X7_weightOnByContainers w1606 (rcv_X7 hC hI) ⟨rfl, rfl⟩ ⟨Nat.le_of_ble_eq_true rfl, Nat.le_of_ble_eq_true rfl⟩ rfl hl.1 rfl (Nat.le_of_ble_eq_true rfl) dL_law_1779 ⟨show cells + 2 ≤ 603072 by omega, show slots + 12 ≤ 7186538 by omega⟩ (fun H locs hI => ?_)
  refine lv_istore (lv' := (7, .int b) :: (6, .int z) :: gLv E b0 i) hx hb dL_law_1782 hl (by decide) rfl (fun ls hl => ?_)
  refine g_tail_i K hI hz (fun h0 => ?_) hl ⟨show cells + 2 ≤ 603072 by omega, show slots + 12 ≤ 7186538 by omega⟩ (off := 1581) (by decide) dL_law_1784 dL_law_1785 dL_law_1788 dL_law_1790 dL_law_1795 dL_law_1797 dL_law_1800 dL_law_1801 dL_law_1802 dL_law_1803 dL_law_1805 dL_law_1806 dL_law_1807 dL_law_1812 (fun H locs hI => ?_)
  · unfold gXo
    rw [if_pos h0]
    rfl
  · refine W.widen (k := cells + 4) (n := slots + 24) (by omega) (by omega) ?_
    exact kk M2 _ H locs ls hV2 hI (lv_sub hl [2, 3, 4, 5, 6, 7] rfl)
theorem dL_law_1815 : decode cL_law 1815 = .ok (.aload_n 1, 1) := by decide +kernel
theorem dL_law_1816 : decode cL_law 1816 = .ok (.aload_n 0, 1) := by decide +kernel
theorem dL_law_1817 : decode cL_law 1817 = .ok (.iload 5, 2) := by decide +kernel
theorem dL_law_1819 : decode cL_law 1819 = .ok (.iconst 1, 1) := by decide +kernel
theorem dL_law_1820 : decode cL_law 1820 = .ok (.iadd, 1) := by decide +kernel
theorem dL_law_1821 : decode cL_law 1821 = .ok (.iaload, 1) := by decide +kernel
theorem dL_law_1822 : decode cL_law 1822 = .ok (.invokevirtual 269, 3) := by decide +kernel
theorem dL_law_1825 : decode cL_law 1825 = .ok (.aload_n 2, 1) := by decide +kernel
theorem dL_law_1826 : decode cL_law 1826 = .ok (.aload_n 0, 1) := by decide +kernel
theorem dL_law_1827 : decode cL_law 1827 = .ok (.iload 5, 2) := by decide +kernel
theorem dL_law_1829 : decode cL_law 1829 = .ok (.iconst 1, 1) := by decide +kernel
theorem dL_law_1830 : decode cL_law 1830 = .ok (.iadd, 1) := by decide +kernel
theorem dL_law_1831 : decode cL_law 1831 = .ok (.iaload, 1) := by decide +kernel
theorem dL_law_1832 : decode cL_law 1832 = .ok (.invokevirtual 272, 3) := by decide +kernel
theorem dL_law_1835 : decode cL_law 1835 = .ok (.if_icmp .eq 1558, 3) := by decide +kernel
set_option maxRecDepth 100000 in
set_option maxHeartbeats 4000000 in
theorem Lc_26 {p : Program} {l : Launch} {e : Env} {s : State} {m : MethodId} {args : Array Value} {below : List Frame} {meth : Method} {c : Code} {H : Heap} {locs : List Loc} {cells slots : Nat} {Q : State → Prop} {E : gE} {M : gM} {x : gX} {b0 L i k : Nat} {xs : Nat → Int32} {ls : Array Slot} (K : gLw p l s m args c E b0 L xs) (hi : i + 5 ≤ L) (hk : k ≤ 580) (hcs : cells + 4 ≤ 603072 ∧ slots + 24 ≤ 7186538) (hV : gInv k M) (hI : gI E s M x H locs) (hl : lv_has ls 9 (gLv E b0 i))
    (kk : ∀ M2 x2 H2 locs2 ls2, gInv (k + 1) M2 → gI E s M2 x2 H2 locs2 → lv_has ls2 9 (gLv E b0 i) → W p l e room_1 s m args below meth c H2 locs2 (cells + 4) (slots + 24) Q (F0 m 3393 ls2 [])) : W p l e room_1 s m args below meth c H locs cells slots Q (F0 m 1815 ls []) := by
  have hC := K.1
  have hx := hC.1
  have hb := hC.2.1
  have hst := K.2.2.1
  obtain ⟨b, M2, hf, hm, hz, hV2⟩ := K_isOnShip (xs (i + 1)) k M hk hV
  refine lv_aload_n hx hb dL_law_1815 rfl (lv_at hl 1 rfl) ?_
  refine g_arg K hI (j := 1) (by omega) (by decide) (lv_at hl 0 rfl) (lv_at hl 5 rfl) dL_law_1816 dL_law_1817 dL_law_1819 dL_law_1820 dL_law_1821 ?_
  refine g_callVi hC hI (C_X6_isOnShip l E x hf) Y_X6_isOnShip V_X6_isOnShip w249 (rcv_X6 hC hI) ⟨rfl, rfl⟩ ⟨Nat.le_of_ble_eq_true rfl, Nat.le_of_ble_eq_true rfl⟩ rfl hl.1 rfl (Nat.le_of_ble_eq_true rfl) dL_law_1822 ⟨show cells ≤ 603072 by omega, show slots ≤ 7186538 by omega⟩ (fun H locs hI => ?_)
  refine lv_aload_n hx hb dL_law_1825 rfl (lv_at hl 2 rfl) ?_
  refine g_arg K hI (j := 1) (by omega) (by decide) (lv_at hl 0 rfl) (lv_at hl 5 rfl) dL_law_1826 dL_law_1827 dL_law_1829 dL_law_1830 dL_law_1831 ?_
  refine g_callVi hC hI (C_X7_isOnShip l E x hm) Y_X7_isOnShip V_X7_isOnShip w1611 (rcv_X7 hC hI) ⟨rfl, rfl⟩ ⟨Nat.le_of_ble_eq_true rfl, Nat.le_of_ble_eq_true rfl⟩ rfl hl.1 rfl (Nat.le_of_ble_eq_true rfl) dL_law_1832 ⟨show cells ≤ 603072 by omega, show slots ≤ 7186538 by omega⟩ (fun H locs hI => ?_)
  refine lv_icmp_eq (tgt := 3393) hx hb dL_law_1835 rfl (fun _ => ?_) (fun h => absurd rfl h)
  refine W.widen (k := cells + 4) (n := slots + 24) (by omega) (by omega) ?_
  exact kk M2 _ H locs ls hV2 hI hl
theorem dL_law_1840 : decode cL_law 1840 = .ok (.aload_n 1, 1) := by decide +kernel
theorem dL_law_1841 : decode cL_law 1841 = .ok (.aload_n 0, 1) := by decide +kernel
theorem dL_law_1842 : decode cL_law 1842 = .ok (.iload 5, 2) := by decide +kernel
theorem dL_law_1844 : decode cL_law 1844 = .ok (.iconst 1, 1) := by decide +kernel
theorem dL_law_1845 : decode cL_law 1845 = .ok (.iadd, 1) := by decide +kernel
theorem dL_law_1846 : decode cL_law 1846 = .ok (.iaload, 1) := by decide +kernel
theorem dL_law_1847 : decode cL_law 1847 = .ok (.invokevirtual 273, 3) := by decide +kernel
theorem dL_law_1850 : decode cL_law 1850 = .ok (.aload_n 2, 1) := by decide +kernel
theorem dL_law_1851 : decode cL_law 1851 = .ok (.aload_n 0, 1) := by decide +kernel
theorem dL_law_1852 : decode cL_law 1852 = .ok (.iload 5, 2) := by decide +kernel
theorem dL_law_1854 : decode cL_law 1854 = .ok (.iconst 1, 1) := by decide +kernel
theorem dL_law_1855 : decode cL_law 1855 = .ok (.iadd, 1) := by decide +kernel
theorem dL_law_1856 : decode cL_law 1856 = .ok (.iaload, 1) := by decide +kernel
theorem dL_law_1857 : decode cL_law 1857 = .ok (.invokevirtual 276, 3) := by decide +kernel
theorem dL_law_1860 : decode cL_law 1860 = .ok (.if_icmp .eq 1533, 3) := by decide +kernel
set_option maxRecDepth 100000 in
set_option maxHeartbeats 4000000 in
theorem Lc_27 {p : Program} {l : Launch} {e : Env} {s : State} {m : MethodId} {args : Array Value} {below : List Frame} {meth : Method} {c : Code} {H : Heap} {locs : List Loc} {cells slots : Nat} {Q : State → Prop} {E : gE} {M : gM} {x : gX} {b0 L i k : Nat} {xs : Nat → Int32} {ls : Array Slot} (K : gLw p l s m args c E b0 L xs) (hi : i + 5 ≤ L) (hk : k ≤ 580) (hcs : cells + 4 ≤ 603072 ∧ slots + 24 ≤ 7186538) (hV : gInv k M) (hI : gI E s M x H locs) (hl : lv_has ls 9 (gLv E b0 i))
    (kk : ∀ M2 x2 H2 locs2 ls2, gInv (k + 1) M2 → gI E s M2 x2 H2 locs2 → lv_has ls2 9 (gLv E b0 i) → W p l e room_1 s m args below meth c H2 locs2 (cells + 4) (slots + 24) Q (F0 m 3393 ls2 [])) : W p l e room_1 s m args below meth c H locs cells slots Q (F0 m 1840 ls []) := by
  have hC := K.1
  have hx := hC.1
  have hb := hC.2.1
  have hst := K.2.2.1
  obtain ⟨b, M2, hf, hm, hz, hV2⟩ := K_isInYard (xs (i + 1)) k M hk hV
  refine lv_aload_n hx hb dL_law_1840 rfl (lv_at hl 1 rfl) ?_
  refine g_arg K hI (j := 1) (by omega) (by decide) (lv_at hl 0 rfl) (lv_at hl 5 rfl) dL_law_1841 dL_law_1842 dL_law_1844 dL_law_1845 dL_law_1846 ?_
  refine g_callVi hC hI (C_X6_isInYard l E x hf) Y_X6_isInYard V_X6_isInYard w269 (rcv_X6 hC hI) ⟨rfl, rfl⟩ ⟨Nat.le_of_ble_eq_true rfl, Nat.le_of_ble_eq_true rfl⟩ rfl hl.1 rfl (Nat.le_of_ble_eq_true rfl) dL_law_1847 ⟨show cells ≤ 603072 by omega, show slots ≤ 7186538 by omega⟩ (fun H locs hI => ?_)
  refine lv_aload_n hx hb dL_law_1850 rfl (lv_at hl 2 rfl) ?_
  refine g_arg K hI (j := 1) (by omega) (by decide) (lv_at hl 0 rfl) (lv_at hl 5 rfl) dL_law_1851 dL_law_1852 dL_law_1854 dL_law_1855 dL_law_1856 ?_
  refine g_callVi hC hI (C_X7_isInYard l E x hm) Y_X7_isInYard V_X7_isInYard w1619 (rcv_X7 hC hI) ⟨rfl, rfl⟩ ⟨Nat.le_of_ble_eq_true rfl, Nat.le_of_ble_eq_true rfl⟩ rfl hl.1 rfl (Nat.le_of_ble_eq_true rfl) dL_law_1857 ⟨show cells ≤ 603072 by omega, show slots ≤ 7186538 by omega⟩ (fun H locs hI => ?_)
  refine lv_icmp_eq (tgt := 3393) hx hb dL_law_1860 rfl (fun _ => ?_) (fun h => absurd rfl h)
  refine W.widen (k := cells + 4) (n := slots + 24) (by omega) (by omega) ?_
  exact kk M2 _ H locs ls hV2 hI hl
theorem dL_law_1865 : decode cL_law 1865 = .ok (.aload_n 1, 1) := by decide +kernel
theorem dL_law_1866 : decode cL_law 1866 = .ok (.aload_n 0, 1) := by decide +kernel
theorem dL_law_1867 : decode cL_law 1867 = .ok (.iload 5, 2) := by decide +kernel
theorem dL_law_1869 : decode cL_law 1869 = .ok (.iconst 1, 1) := by decide +kernel
theorem dL_law_1870 : decode cL_law 1870 = .ok (.iadd, 1) := by decide +kernel
theorem dL_law_1871 : decode cL_law 1871 = .ok (.iaload, 1) := by decide +kernel
theorem dL_law_1872 : decode cL_law 1872 = .ok (.aload_n 3, 1) := by decide +kernel
theorem dL_law_1873 : decode cL_law 1873 = .ok (.invokestatic 277, 3) := by decide +kernel
theorem dL_law_1876 : decode cL_law 1876 = .ok (.istore 6, 2) := by decide +kernel
theorem dL_law_1878 : decode cL_law 1878 = .ok (.aload_n 2, 1) := by decide +kernel
theorem dL_law_1879 : decode cL_law 1879 = .ok (.aload_n 0, 1) := by decide +kernel
theorem dL_law_1880 : decode cL_law 1880 = .ok (.iload 5, 2) := by decide +kernel
theorem dL_law_1882 : decode cL_law 1882 = .ok (.iconst 1, 1) := by decide +kernel
theorem dL_law_1883 : decode cL_law 1883 = .ok (.iadd, 1) := by decide +kernel
theorem dL_law_1884 : decode cL_law 1884 = .ok (.iaload, 1) := by decide +kernel
theorem dL_law_1885 : decode cL_law 1885 = .ok (.invokevirtual 279, 3) := by decide +kernel
theorem dL_law_1888 : decode cL_law 1888 = .ok (.istore 7, 2) := by decide +kernel
theorem dL_law_1890 : decode cL_law 1890 = .ok (.aload_n 2, 1) := by decide +kernel
theorem dL_law_1891 : decode cL_law 1891 = .ok (.invokevirtual 184, 3) := by decide +kernel
theorem dL_law_1894 : decode cL_law 1894 = .ok (.iload 6, 2) := by decide +kernel
theorem dL_law_1896 : decode cL_law 1896 = .ok (.if_icmp .eq 5, 3) := by decide +kernel
theorem dL_law_1901 : decode cL_law 1901 = .ok (.iload 6, 2) := by decide +kernel
theorem dL_law_1903 : decode cL_law 1903 = .ok (.ifCond .ne 15, 3) := by decide +kernel
theorem dL_law_1906 : decode cL_law 1906 = .ok (.aload_n 3, 1) := by decide +kernel
theorem dL_law_1907 : decode cL_law 1907 = .ok (.iconst 0, 1) := by decide +kernel
theorem dL_law_1908 : decode cL_law 1908 = .ok (.laload, 1) := by decide +kernel
theorem dL_law_1909 : decode cL_law 1909 = .ok (.iload 7, 2) := by decide +kernel
theorem dL_law_1911 : decode cL_law 1911 = .ok (.i2l, 1) := by decide +kernel
theorem dL_law_1912 : decode cL_law 1912 = .ok (.lcmp, 1) := by decide +kernel
theorem dL_law_1913 : decode cL_law 1913 = .ok (.ifCond .eq 5, 3) := by decide +kernel
theorem dL_law_1918 : decode cL_law 1918 = .ok (.goto 1475, 3) := by decide +kernel
set_option maxRecDepth 100000 in
set_option maxHeartbeats 4000000 in
theorem Lc_28 {p : Program} {l : Launch} {e : Env} {s : State} {m : MethodId} {args : Array Value} {below : List Frame} {meth : Method} {c : Code} {H : Heap} {locs : List Loc} {cells slots : Nat} {Q : State → Prop} {E : gE} {M : gM} {x : gX} {b0 L i k : Nat} {xs : Nat → Int32} {ls : Array Slot} (K : gLw p l s m args c E b0 L xs) (hi : i + 5 ≤ L) (hk : k ≤ 580) (hcs : cells + 4 ≤ 603072 ∧ slots + 24 ≤ 7186538) (hV : gInv k M) (hI : gI E s M x H locs) (hl : lv_has ls 9 (gLv E b0 i))
    (kk : ∀ M2 x2 H2 locs2 ls2, gInv (k + 1) M2 → gI E s M2 x2 H2 locs2 → lv_has ls2 9 (gLv E b0 i) → W p l e room_1 s m args below meth c H2 locs2 (cells + 4) (slots + 24) Q (F0 m 3393 ls2 [])) : W p l e room_1 s m args below meth c H locs cells slots Q (F0 m 1865 ls []) := by
  have hC := K.1
  have hx := hC.1
  have hb := hC.2.1
  have hst := K.2.2.1
  obtain ⟨oc, M1, z, b, M2, hf, hm, hz, ha, hV2⟩ := K_weightOf (xs (i + 1)) k M hk hV
  refine lv_aload_n hx hb dL_law_1865 rfl (lv_at hl 1 rfl) ?_
  refine g_arg K hI (j := 1) (by omega) (by decide) (lv_at hl 0 rfl) (lv_at hl 5 rfl) dL_law_1866 dL_law_1867 dL_law_1869 dL_law_1870 dL_law_1871 ?_
  refine lv_aload_n hx hb dL_law_1872 rfl (lv_at hl 3 rfl) ?_
  refine g_callH (n := 3) hC K.2.1 hI (H_weightOf l hst E x hf ha) w899 w0 w898 w897 ⟨⟨by decide, by decide⟩, by decide +kernel⟩ ⟨rfl, rfl⟩ ⟨Nat.le_of_ble_eq_true rfl, Nat.le_of_ble_eq_true rfl⟩ rfl hl.1 rfl (Nat.le_of_ble_eq_true rfl) dL_law_1873 ⟨show cells + 1 ≤ 603072 by omega, show slots + 6 ≤ 7186538 by omega⟩ (fun H locs hI => ?_)
  refine lv_istore (lv' := (6, .int z) :: gLv E b0 i) hx hb dL_law_1876 hl (by decide) rfl (fun ls hl => ?_)
  refine lv_aload_n hx hb dL_law_1878 rfl (lv_at hl 3 rfl) ?_
  refine g_arg K hI (j := 1) (by omega) (by decide) (lv_at hl 1 rfl) (lv_at hl 6 rfl) dL_law_1879 dL_law_1880 dL_law_1882 dL_law_1883 dL_law_1884 ?_
  refine g_callVi hC hI (C_X7_weightOf l E _ hm) Y_X7_weightOf V_X7_weightOf w1623 (rcv_X7 hC hI) ⟨rfl, rfl⟩ ⟨Nat.le_of_ble_eq_true rfl, Nat.le_of_ble_eq_true rfl⟩ rfl hl.1 rfl (Nat.le_of_ble_eq_true rfl) dL_law_1885 ⟨show cells + 1 ≤ 603072 by omega, show slots + 6 ≤ 7186538 by omega⟩ (fun H locs hI => ?_)
  refine lv_istore (lv' := (7, .int b) :: (6, .int z) :: gLv E b0 i) hx hb dL_law_1888 hl (by decide) rfl (fun ls hl => ?_)
  refine g_tail_i K hI hz (fun h0 => ?_) hl ⟨show cells + 1 ≤ 603072 by omega, show slots + 6 ≤ 7186538 by omega⟩ (off := 1475) (by decide) dL_law_1890 dL_law_1891 dL_law_1894 dL_law_1896 dL_law_1901 dL_law_1903 dL_law_1906 dL_law_1907 dL_law_1908 dL_law_1909 dL_law_1911 dL_law_1912 dL_law_1913 dL_law_1918 (fun H locs hI => ?_)
  · unfold gXo
    rw [if_pos h0]
    rfl
  · refine W.widen (k := cells + 4) (n := slots + 24) (by omega) (by omega) ?_
    exact kk M2 _ H locs ls hV2 hI (lv_sub hl [2, 3, 4, 5, 6, 7] rfl)
theorem dL_law_1921 : decode cL_law 1921 = .ok (.aload_n 1, 1) := by decide +kernel
theorem dL_law_1922 : decode cL_law 1922 = .ok (.aload_n 0, 1) := by decide +kernel
theorem dL_law_1923 : decode cL_law 1923 = .ok (.iload 5, 2) := by decide +kernel
theorem dL_law_1925 : decode cL_law 1925 = .ok (.iconst 1, 1) := by decide +kernel
theorem dL_law_1926 : decode cL_law 1926 = .ok (.iadd, 1) := by decide +kernel
theorem dL_law_1927 : decode cL_law 1927 = .ok (.iaload, 1) := by decide +kernel
theorem dL_law_1928 : decode cL_law 1928 = .ok (.aload_n 3, 1) := by decide +kernel
theorem dL_law_1929 : decode cL_law 1929 = .ok (.invokestatic 280, 3) := by decide +kernel
theorem dL_law_1932 : decode cL_law 1932 = .ok (.istore 6, 2) := by decide +kernel
theorem dL_law_1934 : decode cL_law 1934 = .ok (.aload_n 2, 1) := by decide +kernel
theorem dL_law_1935 : decode cL_law 1935 = .ok (.aload_n 0, 1) := by decide +kernel
theorem dL_law_1936 : decode cL_law 1936 = .ok (.iload 5, 2) := by decide +kernel
theorem dL_law_1938 : decode cL_law 1938 = .ok (.iconst 1, 1) := by decide +kernel
theorem dL_law_1939 : decode cL_law 1939 = .ok (.iadd, 1) := by decide +kernel
theorem dL_law_1940 : decode cL_law 1940 = .ok (.iaload, 1) := by decide +kernel
theorem dL_law_1941 : decode cL_law 1941 = .ok (.invokevirtual 282, 3) := by decide +kernel
theorem dL_law_1944 : decode cL_law 1944 = .ok (.istore 7, 2) := by decide +kernel
theorem dL_law_1946 : decode cL_law 1946 = .ok (.aload_n 2, 1) := by decide +kernel
theorem dL_law_1947 : decode cL_law 1947 = .ok (.invokevirtual 184, 3) := by decide +kernel
theorem dL_law_1950 : decode cL_law 1950 = .ok (.iload 6, 2) := by decide +kernel
theorem dL_law_1952 : decode cL_law 1952 = .ok (.if_icmp .eq 5, 3) := by decide +kernel
theorem dL_law_1957 : decode cL_law 1957 = .ok (.iload 6, 2) := by decide +kernel
theorem dL_law_1959 : decode cL_law 1959 = .ok (.ifCond .ne 15, 3) := by decide +kernel
theorem dL_law_1962 : decode cL_law 1962 = .ok (.aload_n 3, 1) := by decide +kernel
theorem dL_law_1963 : decode cL_law 1963 = .ok (.iconst 0, 1) := by decide +kernel
theorem dL_law_1964 : decode cL_law 1964 = .ok (.laload, 1) := by decide +kernel
theorem dL_law_1965 : decode cL_law 1965 = .ok (.iload 7, 2) := by decide +kernel
theorem dL_law_1967 : decode cL_law 1967 = .ok (.i2l, 1) := by decide +kernel
theorem dL_law_1968 : decode cL_law 1968 = .ok (.lcmp, 1) := by decide +kernel
theorem dL_law_1969 : decode cL_law 1969 = .ok (.ifCond .eq 5, 3) := by decide +kernel
theorem dL_law_1974 : decode cL_law 1974 = .ok (.goto 1419, 3) := by decide +kernel
set_option maxRecDepth 100000 in
set_option maxHeartbeats 4000000 in
theorem Lc_29 {p : Program} {l : Launch} {e : Env} {s : State} {m : MethodId} {args : Array Value} {below : List Frame} {meth : Method} {c : Code} {H : Heap} {locs : List Loc} {cells slots : Nat} {Q : State → Prop} {E : gE} {M : gM} {x : gX} {b0 L i k : Nat} {xs : Nat → Int32} {ls : Array Slot} (K : gLw p l s m args c E b0 L xs) (hi : i + 5 ≤ L) (hk : k ≤ 580) (hcs : cells + 4 ≤ 603072 ∧ slots + 24 ≤ 7186538) (hV : gInv k M) (hI : gI E s M x H locs) (hl : lv_has ls 9 (gLv E b0 i))
    (kk : ∀ M2 x2 H2 locs2 ls2, gInv (k + 1) M2 → gI E s M2 x2 H2 locs2 → lv_has ls2 9 (gLv E b0 i) → W p l e room_1 s m args below meth c H2 locs2 (cells + 4) (slots + 24) Q (F0 m 3393 ls2 [])) : W p l e room_1 s m args below meth c H locs cells slots Q (F0 m 1921 ls []) := by
  have hC := K.1
  have hx := hC.1
  have hb := hC.2.1
  have hst := K.2.2.1
  obtain ⟨oc, M1, z, b, M2, hf, hm, hz, ha, hV2⟩ := K_keyOf (xs (i + 1)) k M hk hV
  refine lv_aload_n hx hb dL_law_1921 rfl (lv_at hl 1 rfl) ?_
  refine g_arg K hI (j := 1) (by omega) (by decide) (lv_at hl 0 rfl) (lv_at hl 5 rfl) dL_law_1922 dL_law_1923 dL_law_1925 dL_law_1926 dL_law_1927 ?_
  refine lv_aload_n hx hb dL_law_1928 rfl (lv_at hl 3 rfl) ?_
  refine g_callH (n := 3) hC K.2.1 hI (H_keyOf l hst E x hf ha) w908 w0 w907 w906 ⟨⟨by decide, by decide⟩, by decide +kernel⟩ ⟨rfl, rfl⟩ ⟨Nat.le_of_ble_eq_true rfl, Nat.le_of_ble_eq_true rfl⟩ rfl hl.1 rfl (Nat.le_of_ble_eq_true rfl) dL_law_1929 ⟨show cells + 1 ≤ 603072 by omega, show slots + 6 ≤ 7186538 by omega⟩ (fun H locs hI => ?_)
  refine lv_istore (lv' := (6, .int z) :: gLv E b0 i) hx hb dL_law_1932 hl (by decide) rfl (fun ls hl => ?_)
  refine lv_aload_n hx hb dL_law_1934 rfl (lv_at hl 3 rfl) ?_
  refine g_arg K hI (j := 1) (by omega) (by decide) (lv_at hl 1 rfl) (lv_at hl 6 rfl) dL_law_1935 dL_law_1936 dL_law_1938 dL_law_1939 dL_law_1940 ?_
  refine g_callVi hC hI (C_X7_keyOf l E _ hm) Y_X7_keyOf V_X7_keyOf w1631 (rcv_X7 hC hI) ⟨rfl, rfl⟩ ⟨Nat.le_of_ble_eq_true rfl, Nat.le_of_ble_eq_true rfl⟩ rfl hl.1 rfl (Nat.le_of_ble_eq_true rfl) dL_law_1941 ⟨show cells + 1 ≤ 603072 by omega, show slots + 6 ≤ 7186538 by omega⟩ (fun H locs hI => ?_)
  refine lv_istore (lv' := (7, .int b) :: (6, .int z) :: gLv E b0 i) hx hb dL_law_1944 hl (by decide) rfl (fun ls hl => ?_)
  refine g_tail_i K hI hz (fun h0 => ?_) hl ⟨show cells + 1 ≤ 603072 by omega, show slots + 6 ≤ 7186538 by omega⟩ (off := 1419) (by decide) dL_law_1946 dL_law_1947 dL_law_1950 dL_law_1952 dL_law_1957 dL_law_1959 dL_law_1962 dL_law_1963 dL_law_1964 dL_law_1965 dL_law_1967 dL_law_1968 dL_law_1969 dL_law_1974 (fun H locs hI => ?_)
  · unfold gXo
    rw [if_pos h0]
    rfl
  · refine W.widen (k := cells + 4) (n := slots + 24) (by omega) (by omega) ?_
    exact kk M2 _ H locs ls hV2 hI (lv_sub hl [2, 3, 4, 5, 6, 7] rfl)
theorem dL_law_1977 : decode cL_law 1977 = .ok (.aload_n 1, 1) := by decide +kernel
theorem dL_law_1978 : decode cL_law 1978 = .ok (.aload_n 0, 1) := by decide +kernel
theorem dL_law_1979 : decode cL_law 1979 = .ok (.iload 5, 2) := by decide +kernel
theorem dL_law_1981 : decode cL_law 1981 = .ok (.iconst 1, 1) := by decide +kernel
theorem dL_law_1982 : decode cL_law 1982 = .ok (.iadd, 1) := by decide +kernel
theorem dL_law_1983 : decode cL_law 1983 = .ok (.iaload, 1) := by decide +kernel
theorem dL_law_1984 : decode cL_law 1984 = .ok (.aload_n 3, 1) := by decide +kernel
theorem dL_law_1985 : decode cL_law 1985 = .ok (.invokestatic 283, 3) := by decide +kernel
theorem dL_law_1988 : decode cL_law 1988 = .ok (.istore 6, 2) := by decide +kernel
theorem dL_law_1990 : decode cL_law 1990 = .ok (.aload_n 2, 1) := by decide +kernel
theorem dL_law_1991 : decode cL_law 1991 = .ok (.aload_n 0, 1) := by decide +kernel
theorem dL_law_1992 : decode cL_law 1992 = .ok (.iload 5, 2) := by decide +kernel
theorem dL_law_1994 : decode cL_law 1994 = .ok (.iconst 1, 1) := by decide +kernel
theorem dL_law_1995 : decode cL_law 1995 = .ok (.iadd, 1) := by decide +kernel
theorem dL_law_1996 : decode cL_law 1996 = .ok (.iaload, 1) := by decide +kernel
theorem dL_law_1997 : decode cL_law 1997 = .ok (.invokevirtual 285, 3) := by decide +kernel
theorem dL_law_2000 : decode cL_law 2000 = .ok (.istore 7, 2) := by decide +kernel
theorem dL_law_2002 : decode cL_law 2002 = .ok (.aload_n 2, 1) := by decide +kernel
theorem dL_law_2003 : decode cL_law 2003 = .ok (.invokevirtual 184, 3) := by decide +kernel
theorem dL_law_2006 : decode cL_law 2006 = .ok (.iload 6, 2) := by decide +kernel
theorem dL_law_2008 : decode cL_law 2008 = .ok (.if_icmp .eq 5, 3) := by decide +kernel
theorem dL_law_2013 : decode cL_law 2013 = .ok (.iload 6, 2) := by decide +kernel
theorem dL_law_2015 : decode cL_law 2015 = .ok (.ifCond .ne 15, 3) := by decide +kernel
theorem dL_law_2018 : decode cL_law 2018 = .ok (.aload_n 3, 1) := by decide +kernel
theorem dL_law_2019 : decode cL_law 2019 = .ok (.iconst 0, 1) := by decide +kernel
theorem dL_law_2020 : decode cL_law 2020 = .ok (.laload, 1) := by decide +kernel
theorem dL_law_2021 : decode cL_law 2021 = .ok (.iload 7, 2) := by decide +kernel
theorem dL_law_2023 : decode cL_law 2023 = .ok (.i2l, 1) := by decide +kernel
theorem dL_law_2024 : decode cL_law 2024 = .ok (.lcmp, 1) := by decide +kernel
theorem dL_law_2025 : decode cL_law 2025 = .ok (.ifCond .eq 5, 3) := by decide +kernel
theorem dL_law_2030 : decode cL_law 2030 = .ok (.goto 1363, 3) := by decide +kernel
set_option maxRecDepth 100000 in
set_option maxHeartbeats 4000000 in
theorem Lc_30 {p : Program} {l : Launch} {e : Env} {s : State} {m : MethodId} {args : Array Value} {below : List Frame} {meth : Method} {c : Code} {H : Heap} {locs : List Loc} {cells slots : Nat} {Q : State → Prop} {E : gE} {M : gM} {x : gX} {b0 L i k : Nat} {xs : Nat → Int32} {ls : Array Slot} (K : gLw p l s m args c E b0 L xs) (hi : i + 5 ≤ L) (hk : k ≤ 580) (hcs : cells + 4 ≤ 603072 ∧ slots + 24 ≤ 7186538) (hV : gInv k M) (hI : gI E s M x H locs) (hl : lv_has ls 9 (gLv E b0 i))
    (kk : ∀ M2 x2 H2 locs2 ls2, gInv (k + 1) M2 → gI E s M2 x2 H2 locs2 → lv_has ls2 9 (gLv E b0 i) → W p l e room_1 s m args below meth c H2 locs2 (cells + 4) (slots + 24) Q (F0 m 3393 ls2 [])) : W p l e room_1 s m args below meth c H locs cells slots Q (F0 m 1977 ls []) := by
  have hC := K.1
  have hx := hC.1
  have hb := hC.2.1
  have hst := K.2.2.1
  obtain ⟨oc, M1, z, b, M2, hf, hm, hz, ha, hV2⟩ := K_answerOf (xs (i + 1)) k M hk hV
  refine lv_aload_n hx hb dL_law_1977 rfl (lv_at hl 1 rfl) ?_
  refine g_arg K hI (j := 1) (by omega) (by decide) (lv_at hl 0 rfl) (lv_at hl 5 rfl) dL_law_1978 dL_law_1979 dL_law_1981 dL_law_1982 dL_law_1983 ?_
  refine lv_aload_n hx hb dL_law_1984 rfl (lv_at hl 3 rfl) ?_
  refine g_callH (n := 3) hC K.2.1 hI (H_answerOf l hst E x hf ha) w916 w0 w915 w914 ⟨⟨by decide, by decide⟩, by decide +kernel⟩ ⟨rfl, rfl⟩ ⟨Nat.le_of_ble_eq_true rfl, Nat.le_of_ble_eq_true rfl⟩ rfl hl.1 rfl (Nat.le_of_ble_eq_true rfl) dL_law_1985 ⟨show cells + 1 ≤ 603072 by omega, show slots + 6 ≤ 7186538 by omega⟩ (fun H locs hI => ?_)
  refine lv_istore (lv' := (6, .int z) :: gLv E b0 i) hx hb dL_law_1988 hl (by decide) rfl (fun ls hl => ?_)
  refine lv_aload_n hx hb dL_law_1990 rfl (lv_at hl 3 rfl) ?_
  refine g_arg K hI (j := 1) (by omega) (by decide) (lv_at hl 1 rfl) (lv_at hl 6 rfl) dL_law_1991 dL_law_1992 dL_law_1994 dL_law_1995 dL_law_1996 ?_
  refine g_callVi hC hI (C_X7_answerOf l E _ hm) Y_X7_answerOf V_X7_answerOf w1635 (rcv_X7 hC hI) ⟨rfl, rfl⟩ ⟨Nat.le_of_ble_eq_true rfl, Nat.le_of_ble_eq_true rfl⟩ rfl hl.1 rfl (Nat.le_of_ble_eq_true rfl) dL_law_1997 ⟨show cells + 1 ≤ 603072 by omega, show slots + 6 ≤ 7186538 by omega⟩ (fun H locs hI => ?_)
  refine lv_istore (lv' := (7, .int b) :: (6, .int z) :: gLv E b0 i) hx hb dL_law_2000 hl (by decide) rfl (fun ls hl => ?_)
  refine g_tail_i K hI hz (fun h0 => ?_) hl ⟨show cells + 1 ≤ 603072 by omega, show slots + 6 ≤ 7186538 by omega⟩ (off := 1363) (by decide) dL_law_2002 dL_law_2003 dL_law_2006 dL_law_2008 dL_law_2013 dL_law_2015 dL_law_2018 dL_law_2019 dL_law_2020 dL_law_2021 dL_law_2023 dL_law_2024 dL_law_2025 dL_law_2030 (fun H locs hI => ?_)
  · unfold gXo
    rw [if_pos h0]
    rfl
  · refine W.widen (k := cells + 4) (n := slots + 24) (by omega) (by omega) ?_
    exact kk M2 _ H locs ls hV2 hI (lv_sub hl [2, 3, 4, 5, 6, 7] rfl)
theorem dL_law_2033 : decode cL_law 2033 = .ok (.aload_n 1, 1) := by decide +kernel
theorem dL_law_2034 : decode cL_law 2034 = .ok (.aload_n 0, 1) := by decide +kernel
theorem dL_law_2035 : decode cL_law 2035 = .ok (.iload 5, 2) := by decide +kernel
theorem dL_law_2037 : decode cL_law 2037 = .ok (.iconst 1, 1) := by decide +kernel
theorem dL_law_2038 : decode cL_law 2038 = .ok (.iadd, 1) := by decide +kernel
theorem dL_law_2039 : decode cL_law 2039 = .ok (.iaload, 1) := by decide +kernel
theorem dL_law_2040 : decode cL_law 2040 = .ok (.aload_n 3, 1) := by decide +kernel
theorem dL_law_2041 : decode cL_law 2041 = .ok (.invokestatic 286, 3) := by decide +kernel
theorem dL_law_2044 : decode cL_law 2044 = .ok (.istore 6, 2) := by decide +kernel
theorem dL_law_2046 : decode cL_law 2046 = .ok (.aload_n 2, 1) := by decide +kernel
theorem dL_law_2047 : decode cL_law 2047 = .ok (.aload_n 0, 1) := by decide +kernel
theorem dL_law_2048 : decode cL_law 2048 = .ok (.iload 5, 2) := by decide +kernel
theorem dL_law_2050 : decode cL_law 2050 = .ok (.iconst 1, 1) := by decide +kernel
theorem dL_law_2051 : decode cL_law 2051 = .ok (.iadd, 1) := by decide +kernel
theorem dL_law_2052 : decode cL_law 2052 = .ok (.iaload, 1) := by decide +kernel
theorem dL_law_2053 : decode cL_law 2053 = .ok (.invokevirtual 288, 3) := by decide +kernel
theorem dL_law_2056 : decode cL_law 2056 = .ok (.istore 7, 2) := by decide +kernel
theorem dL_law_2058 : decode cL_law 2058 = .ok (.aload_n 2, 1) := by decide +kernel
theorem dL_law_2059 : decode cL_law 2059 = .ok (.invokevirtual 184, 3) := by decide +kernel
theorem dL_law_2062 : decode cL_law 2062 = .ok (.iload 6, 2) := by decide +kernel
theorem dL_law_2064 : decode cL_law 2064 = .ok (.if_icmp .eq 5, 3) := by decide +kernel
theorem dL_law_2069 : decode cL_law 2069 = .ok (.iload 6, 2) := by decide +kernel
theorem dL_law_2071 : decode cL_law 2071 = .ok (.ifCond .ne 15, 3) := by decide +kernel
theorem dL_law_2074 : decode cL_law 2074 = .ok (.aload_n 3, 1) := by decide +kernel
theorem dL_law_2075 : decode cL_law 2075 = .ok (.iconst 0, 1) := by decide +kernel
theorem dL_law_2076 : decode cL_law 2076 = .ok (.laload, 1) := by decide +kernel
theorem dL_law_2077 : decode cL_law 2077 = .ok (.iload 7, 2) := by decide +kernel
theorem dL_law_2079 : decode cL_law 2079 = .ok (.i2l, 1) := by decide +kernel
theorem dL_law_2080 : decode cL_law 2080 = .ok (.lcmp, 1) := by decide +kernel
theorem dL_law_2081 : decode cL_law 2081 = .ok (.ifCond .eq 5, 3) := by decide +kernel
theorem dL_law_2086 : decode cL_law 2086 = .ok (.goto 1307, 3) := by decide +kernel
set_option maxRecDepth 100000 in
set_option maxHeartbeats 4000000 in
theorem Lc_31 {p : Program} {l : Launch} {e : Env} {s : State} {m : MethodId} {args : Array Value} {below : List Frame} {meth : Method} {c : Code} {H : Heap} {locs : List Loc} {cells slots : Nat} {Q : State → Prop} {E : gE} {M : gM} {x : gX} {b0 L i k : Nat} {xs : Nat → Int32} {ls : Array Slot} (K : gLw p l s m args c E b0 L xs) (hi : i + 5 ≤ L) (hk : k ≤ 580) (hcs : cells + 4 ≤ 603072 ∧ slots + 24 ≤ 7186538) (hV : gInv k M) (hI : gI E s M x H locs) (hl : lv_has ls 9 (gLv E b0 i))
    (kk : ∀ M2 x2 H2 locs2 ls2, gInv (k + 1) M2 → gI E s M2 x2 H2 locs2 → lv_has ls2 9 (gLv E b0 i) → W p l e room_1 s m args below meth c H2 locs2 (cells + 4) (slots + 24) Q (F0 m 3393 ls2 [])) : W p l e room_1 s m args below meth c H locs cells slots Q (F0 m 2033 ls []) := by
  have hC := K.1
  have hx := hC.1
  have hb := hC.2.1
  have hst := K.2.2.1
  obtain ⟨oc, M1, z, b, M2, hf, hm, hz, ha, hV2⟩ := K_berthOf (xs (i + 1)) k M hk hV
  refine lv_aload_n hx hb dL_law_2033 rfl (lv_at hl 1 rfl) ?_
  refine g_arg K hI (j := 1) (by omega) (by decide) (lv_at hl 0 rfl) (lv_at hl 5 rfl) dL_law_2034 dL_law_2035 dL_law_2037 dL_law_2038 dL_law_2039 ?_
  refine lv_aload_n hx hb dL_law_2040 rfl (lv_at hl 3 rfl) ?_
  refine g_callH (n := 3) hC K.2.1 hI (H_berthOf l hst E x hf ha) w924 w0 w923 w922 ⟨⟨by decide, by decide⟩, by decide +kernel⟩ ⟨rfl, rfl⟩ ⟨Nat.le_of_ble_eq_true rfl, Nat.le_of_ble_eq_true rfl⟩ rfl hl.1 rfl (Nat.le_of_ble_eq_true rfl) dL_law_2041 ⟨show cells + 1 ≤ 603072 by omega, show slots + 6 ≤ 7186538 by omega⟩ (fun H locs hI => ?_)
  refine lv_istore (lv' := (6, .int z) :: gLv E b0 i) hx hb dL_law_2044 hl (by decide) rfl (fun ls hl => ?_)
  refine lv_aload_n hx hb dL_law_2046 rfl (lv_at hl 3 rfl) ?_
  refine g_arg K hI (j := 1) (by omega) (by decide) (lv_at hl 1 rfl) (lv_at hl 6 rfl) dL_law_2047 dL_law_2048 dL_law_2050 dL_law_2051 dL_law_2052 ?_
  refine g_callVi hC hI (C_X7_berthOf l E _ hm) Y_X7_berthOf V_X7_berthOf w1641 (rcv_X7 hC hI) ⟨rfl, rfl⟩ ⟨Nat.le_of_ble_eq_true rfl, Nat.le_of_ble_eq_true rfl⟩ rfl hl.1 rfl (Nat.le_of_ble_eq_true rfl) dL_law_2053 ⟨show cells + 1 ≤ 603072 by omega, show slots + 6 ≤ 7186538 by omega⟩ (fun H locs hI => ?_)
  refine lv_istore (lv' := (7, .int b) :: (6, .int z) :: gLv E b0 i) hx hb dL_law_2056 hl (by decide) rfl (fun ls hl => ?_)
  refine g_tail_i K hI hz (fun h0 => ?_) hl ⟨show cells + 1 ≤ 603072 by omega, show slots + 6 ≤ 7186538 by omega⟩ (off := 1307) (by decide) dL_law_2058 dL_law_2059 dL_law_2062 dL_law_2064 dL_law_2069 dL_law_2071 dL_law_2074 dL_law_2075 dL_law_2076 dL_law_2077 dL_law_2079 dL_law_2080 dL_law_2081 dL_law_2086 (fun H locs hI => ?_)
  · unfold gXo
    rw [if_pos h0]
    rfl
  · refine W.widen (k := cells + 4) (n := slots + 24) (by omega) (by omega) ?_
    exact kk M2 _ H locs ls hV2 hI (lv_sub hl [2, 3, 4, 5, 6, 7] rfl)
