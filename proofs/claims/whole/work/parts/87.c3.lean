theorem dL_law_2089 : decode cL_law 2089 = .ok (.aload_n 1, 1) := by decide +kernel
theorem dL_law_2090 : decode cL_law 2090 = .ok (.aload_n 0, 1) := by decide +kernel
theorem dL_law_2091 : decode cL_law 2091 = .ok (.iload 5, 2) := by decide +kernel
theorem dL_law_2093 : decode cL_law 2093 = .ok (.iconst 1, 1) := by decide +kernel
theorem dL_law_2094 : decode cL_law 2094 = .ok (.iadd, 1) := by decide +kernel
theorem dL_law_2095 : decode cL_law 2095 = .ok (.iaload, 1) := by decide +kernel
theorem dL_law_2096 : decode cL_law 2096 = .ok (.aload_n 3, 1) := by decide +kernel
theorem dL_law_2097 : decode cL_law 2097 = .ok (.invokestatic 289, 3) := by decide +kernel
theorem dL_law_2100 : decode cL_law 2100 = .ok (.istore 6, 2) := by decide +kernel
theorem dL_law_2102 : decode cL_law 2102 = .ok (.aload_n 2, 1) := by decide +kernel
theorem dL_law_2103 : decode cL_law 2103 = .ok (.aload_n 0, 1) := by decide +kernel
theorem dL_law_2104 : decode cL_law 2104 = .ok (.iload 5, 2) := by decide +kernel
theorem dL_law_2106 : decode cL_law 2106 = .ok (.iconst 1, 1) := by decide +kernel
theorem dL_law_2107 : decode cL_law 2107 = .ok (.iadd, 1) := by decide +kernel
theorem dL_law_2108 : decode cL_law 2108 = .ok (.iaload, 1) := by decide +kernel
theorem dL_law_2109 : decode cL_law 2109 = .ok (.invokevirtual 291, 3) := by decide +kernel
theorem dL_law_2112 : decode cL_law 2112 = .ok (.istore 7, 2) := by decide +kernel
theorem dL_law_2114 : decode cL_law 2114 = .ok (.aload_n 2, 1) := by decide +kernel
theorem dL_law_2115 : decode cL_law 2115 = .ok (.invokevirtual 184, 3) := by decide +kernel
theorem dL_law_2118 : decode cL_law 2118 = .ok (.iload 6, 2) := by decide +kernel
theorem dL_law_2120 : decode cL_law 2120 = .ok (.if_icmp .eq 5, 3) := by decide +kernel
theorem dL_law_2125 : decode cL_law 2125 = .ok (.iload 6, 2) := by decide +kernel
theorem dL_law_2127 : decode cL_law 2127 = .ok (.ifCond .ne 15, 3) := by decide +kernel
theorem dL_law_2130 : decode cL_law 2130 = .ok (.aload_n 3, 1) := by decide +kernel
theorem dL_law_2131 : decode cL_law 2131 = .ok (.iconst 0, 1) := by decide +kernel
theorem dL_law_2132 : decode cL_law 2132 = .ok (.laload, 1) := by decide +kernel
theorem dL_law_2133 : decode cL_law 2133 = .ok (.iload 7, 2) := by decide +kernel
theorem dL_law_2135 : decode cL_law 2135 = .ok (.i2l, 1) := by decide +kernel
theorem dL_law_2136 : decode cL_law 2136 = .ok (.lcmp, 1) := by decide +kernel
theorem dL_law_2137 : decode cL_law 2137 = .ok (.ifCond .eq 5, 3) := by decide +kernel
theorem dL_law_2142 : decode cL_law 2142 = .ok (.goto 1251, 3) := by decide +kernel
set_option maxRecDepth 100000 in
set_option maxHeartbeats 4000000 in
theorem Lc_32 {p : Program} {l : Launch} {e : Env} {s : State} {m : MethodId} {args : Array Value} {below : List Frame} {meth : Method} {c : Code} {H : Heap} {locs : List Loc} {cells slots : Nat} {Q : State → Prop} {E : gE} {M : gM} {x : gX} {b0 L i k : Nat} {xs : Nat → Int32} {ls : Array Slot} (K : gLw p l s m args c E b0 L xs) (hi : i + 5 ≤ L) (hk : k ≤ 580) (hcs : cells + 4 ≤ 603072 ∧ slots + 24 ≤ 7186538) (hV : gInv k M) (hI : gI E s M x H locs) (hl : lv_has ls 9 (gLv E b0 i))
    (kk : ∀ M2 x2 H2 locs2 ls2, gInv (k + 1) M2 → gI E s M2 x2 H2 locs2 → lv_has ls2 9 (gLv E b0 i) → W p l e room_1 s m args below meth c H2 locs2 (cells + 4) (slots + 24) Q (F0 m 3393 ls2 [])) : W p l e room_1 s m args below meth c H locs cells slots Q (F0 m 2089 ls []) := by
  have hC := K.1
  have hx := hC.1
  have hb := hC.2.1
  have hst := K.2.2.1
  obtain ⟨oc, M1, z, b, M2, hf, hm, hz, ha, hV2⟩ := K_stackOf (xs (i + 1)) k M hk hV
  refine lv_aload_n hx hb dL_law_2089 rfl (lv_at hl 1 rfl) ?_
  refine g_arg K hI (j := 1) (by omega) (by decide) (lv_at hl 0 rfl) (lv_at hl 5 rfl) dL_law_2090 dL_law_2091 dL_law_2093 dL_law_2094 dL_law_2095 ?_
  refine lv_aload_n hx hb dL_law_2096 rfl (lv_at hl 3 rfl) ?_
  refine g_callH (n := 3) hC K.2.1 hI (H_stackOf l hst E x hf ha) w932 w0 w931 w930 ⟨⟨by decide, by decide⟩, by decide +kernel⟩ ⟨rfl, rfl⟩ ⟨Nat.le_of_ble_eq_true rfl, Nat.le_of_ble_eq_true rfl⟩ rfl hl.1 rfl (Nat.le_of_ble_eq_true rfl) dL_law_2097 ⟨show cells + 1 ≤ 603072 by omega, show slots + 6 ≤ 7186538 by omega⟩ (fun H locs hI => ?_)
  refine lv_istore (lv' := (6, .int z) :: gLv E b0 i) hx hb dL_law_2100 hl (by decide) rfl (fun ls hl => ?_)
  refine lv_aload_n hx hb dL_law_2102 rfl (lv_at hl 3 rfl) ?_
  refine g_arg K hI (j := 1) (by omega) (by decide) (lv_at hl 1 rfl) (lv_at hl 6 rfl) dL_law_2103 dL_law_2104 dL_law_2106 dL_law_2107 dL_law_2108 ?_
  refine g_callVi hC hI (C_X7_stackOf l E _ hm) Y_X7_stackOf V_X7_stackOf w1645 (rcv_X7 hC hI) ⟨rfl, rfl⟩ ⟨Nat.le_of_ble_eq_true rfl, Nat.le_of_ble_eq_true rfl⟩ rfl hl.1 rfl (Nat.le_of_ble_eq_true rfl) dL_law_2109 ⟨show cells + 1 ≤ 603072 by omega, show slots + 6 ≤ 7186538 by omega⟩ (fun H locs hI => ?_)
  refine lv_istore (lv' := (7, .int b) :: (6, .int z) :: gLv E b0 i) hx hb dL_law_2112 hl (by decide) rfl (fun ls hl => ?_)
  refine g_tail_i K hI hz (fun h0 => ?_) hl ⟨show cells + 1 ≤ 603072 by omega, show slots + 6 ≤ 7186538 by omega⟩ (off := 1251) (by decide) dL_law_2114 dL_law_2115 dL_law_2118 dL_law_2120 dL_law_2125 dL_law_2127 dL_law_2130 dL_law_2131 dL_law_2132 dL_law_2133 dL_law_2135 dL_law_2136 dL_law_2137 dL_law_2142 (fun H locs hI => ?_)
  · unfold gXo
    rw [if_pos h0]
    rfl
  · refine W.widen (k := cells + 4) (n := slots + 24) (by omega) (by omega) ?_
    exact kk M2 _ H locs ls hV2 hI (lv_sub hl [2, 3, 4, 5, 6, 7] rfl)
theorem dL_law_2145 : decode cL_law 2145 = .ok (.aload_n 1, 1) := by decide +kernel
theorem dL_law_2146 : decode cL_law 2146 = .ok (.aload_n 0, 1) := by decide +kernel
theorem dL_law_2147 : decode cL_law 2147 = .ok (.iload 5, 2) := by decide +kernel
theorem dL_law_2149 : decode cL_law 2149 = .ok (.iconst 1, 1) := by decide +kernel
theorem dL_law_2150 : decode cL_law 2150 = .ok (.iadd, 1) := by decide +kernel
theorem dL_law_2151 : decode cL_law 2151 = .ok (.iaload, 1) := by decide +kernel
theorem dL_law_2152 : decode cL_law 2152 = .ok (.aload_n 3, 1) := by decide +kernel
theorem dL_law_2153 : decode cL_law 2153 = .ok (.invokestatic 292, 3) := by decide +kernel
theorem dL_law_2156 : decode cL_law 2156 = .ok (.istore 6, 2) := by decide +kernel
theorem dL_law_2158 : decode cL_law 2158 = .ok (.aload_n 2, 1) := by decide +kernel
theorem dL_law_2159 : decode cL_law 2159 = .ok (.aload_n 0, 1) := by decide +kernel
theorem dL_law_2160 : decode cL_law 2160 = .ok (.iload 5, 2) := by decide +kernel
theorem dL_law_2162 : decode cL_law 2162 = .ok (.iconst 1, 1) := by decide +kernel
theorem dL_law_2163 : decode cL_law 2163 = .ok (.iadd, 1) := by decide +kernel
theorem dL_law_2164 : decode cL_law 2164 = .ok (.iaload, 1) := by decide +kernel
theorem dL_law_2165 : decode cL_law 2165 = .ok (.invokevirtual 294, 3) := by decide +kernel
theorem dL_law_2168 : decode cL_law 2168 = .ok (.istore 7, 2) := by decide +kernel
theorem dL_law_2170 : decode cL_law 2170 = .ok (.aload_n 2, 1) := by decide +kernel
theorem dL_law_2171 : decode cL_law 2171 = .ok (.invokevirtual 184, 3) := by decide +kernel
theorem dL_law_2174 : decode cL_law 2174 = .ok (.iload 6, 2) := by decide +kernel
theorem dL_law_2176 : decode cL_law 2176 = .ok (.if_icmp .eq 5, 3) := by decide +kernel
theorem dL_law_2181 : decode cL_law 2181 = .ok (.iload 6, 2) := by decide +kernel
theorem dL_law_2183 : decode cL_law 2183 = .ok (.ifCond .ne 15, 3) := by decide +kernel
theorem dL_law_2186 : decode cL_law 2186 = .ok (.aload_n 3, 1) := by decide +kernel
theorem dL_law_2187 : decode cL_law 2187 = .ok (.iconst 0, 1) := by decide +kernel
theorem dL_law_2188 : decode cL_law 2188 = .ok (.laload, 1) := by decide +kernel
theorem dL_law_2189 : decode cL_law 2189 = .ok (.iload 7, 2) := by decide +kernel
theorem dL_law_2191 : decode cL_law 2191 = .ok (.i2l, 1) := by decide +kernel
theorem dL_law_2192 : decode cL_law 2192 = .ok (.lcmp, 1) := by decide +kernel
theorem dL_law_2193 : decode cL_law 2193 = .ok (.ifCond .eq 5, 3) := by decide +kernel
theorem dL_law_2198 : decode cL_law 2198 = .ok (.goto 1195, 3) := by decide +kernel
set_option maxRecDepth 100000 in
set_option maxHeartbeats 4000000 in
theorem Lc_33 {p : Program} {l : Launch} {e : Env} {s : State} {m : MethodId} {args : Array Value} {below : List Frame} {meth : Method} {c : Code} {H : Heap} {locs : List Loc} {cells slots : Nat} {Q : State → Prop} {E : gE} {M : gM} {x : gX} {b0 L i k : Nat} {xs : Nat → Int32} {ls : Array Slot} (K : gLw p l s m args c E b0 L xs) (hi : i + 5 ≤ L) (hk : k ≤ 580) (hcs : cells + 4 ≤ 603072 ∧ slots + 24 ≤ 7186538) (hV : gInv k M) (hI : gI E s M x H locs) (hl : lv_has ls 9 (gLv E b0 i))
    (kk : ∀ M2 x2 H2 locs2 ls2, gInv (k + 1) M2 → gI E s M2 x2 H2 locs2 → lv_has ls2 9 (gLv E b0 i) → W p l e room_1 s m args below meth c H2 locs2 (cells + 4) (slots + 24) Q (F0 m 3393 ls2 [])) : W p l e room_1 s m args below meth c H locs cells slots Q (F0 m 2145 ls []) := by
  have hC := K.1
  have hx := hC.1
  have hb := hC.2.1
  have hst := K.2.2.1
  obtain ⟨oc, M1, z, b, M2, hf, hm, hz, ha, hV2⟩ := K_levelOf (xs (i + 1)) k M hk hV
  refine lv_aload_n hx hb dL_law_2145 rfl (lv_at hl 1 rfl) ?_
  refine g_arg K hI (j := 1) (by omega) (by decide) (lv_at hl 0 rfl) (lv_at hl 5 rfl) dL_law_2146 dL_law_2147 dL_law_2149 dL_law_2150 dL_law_2151 ?_
  refine lv_aload_n hx hb dL_law_2152 rfl (lv_at hl 3 rfl) ?_
  refine g_callH (n := 3) hC K.2.1 hI (H_levelOf l hst E x hf ha) w939 w0 w938 w937 ⟨⟨by decide, by decide⟩, by decide +kernel⟩ ⟨rfl, rfl⟩ ⟨Nat.le_of_ble_eq_true rfl, Nat.le_of_ble_eq_true rfl⟩ rfl hl.1 rfl (Nat.le_of_ble_eq_true rfl) dL_law_2153 ⟨show cells + 1 ≤ 603072 by omega, show slots + 6 ≤ 7186538 by omega⟩ (fun H locs hI => ?_)
  refine lv_istore (lv' := (6, .int z) :: gLv E b0 i) hx hb dL_law_2156 hl (by decide) rfl (fun ls hl => ?_)
  refine lv_aload_n hx hb dL_law_2158 rfl (lv_at hl 3 rfl) ?_
  refine g_arg K hI (j := 1) (by omega) (by decide) (lv_at hl 1 rfl) (lv_at hl 6 rfl) dL_law_2159 dL_law_2160 dL_law_2162 dL_law_2163 dL_law_2164 ?_
  refine g_callVi hC hI (C_X7_levelOf l E _ hm) Y_X7_levelOf V_X7_levelOf w1649 (rcv_X7 hC hI) ⟨rfl, rfl⟩ ⟨Nat.le_of_ble_eq_true rfl, Nat.le_of_ble_eq_true rfl⟩ rfl hl.1 rfl (Nat.le_of_ble_eq_true rfl) dL_law_2165 ⟨show cells + 1 ≤ 603072 by omega, show slots + 6 ≤ 7186538 by omega⟩ (fun H locs hI => ?_)
  refine lv_istore (lv' := (7, .int b) :: (6, .int z) :: gLv E b0 i) hx hb dL_law_2168 hl (by decide) rfl (fun ls hl => ?_)
  refine g_tail_i K hI hz (fun h0 => ?_) hl ⟨show cells + 1 ≤ 603072 by omega, show slots + 6 ≤ 7186538 by omega⟩ (off := 1195) (by decide) dL_law_2170 dL_law_2171 dL_law_2174 dL_law_2176 dL_law_2181 dL_law_2183 dL_law_2186 dL_law_2187 dL_law_2188 dL_law_2189 dL_law_2191 dL_law_2192 dL_law_2193 dL_law_2198 (fun H locs hI => ?_)
  · unfold gXo
    rw [if_pos h0]
    rfl
  · refine W.widen (k := cells + 4) (n := slots + 24) (by omega) (by omega) ?_
    exact kk M2 _ H locs ls hV2 hI (lv_sub hl [2, 3, 4, 5, 6, 7] rfl)
theorem dL_law_2201 : decode cL_law 2201 = .ok (.aload_n 1, 1) := by decide +kernel
theorem dL_law_2202 : decode cL_law 2202 = .ok (.aload_n 0, 1) := by decide +kernel
theorem dL_law_2203 : decode cL_law 2203 = .ok (.iload 5, 2) := by decide +kernel
theorem dL_law_2205 : decode cL_law 2205 = .ok (.iconst 1, 1) := by decide +kernel
theorem dL_law_2206 : decode cL_law 2206 = .ok (.iadd, 1) := by decide +kernel
theorem dL_law_2207 : decode cL_law 2207 = .ok (.iaload, 1) := by decide +kernel
theorem dL_law_2208 : decode cL_law 2208 = .ok (.aload_n 3, 1) := by decide +kernel
theorem dL_law_2209 : decode cL_law 2209 = .ok (.invokestatic 295, 3) := by decide +kernel
theorem dL_law_2212 : decode cL_law 2212 = .ok (.istore 6, 2) := by decide +kernel
theorem dL_law_2214 : decode cL_law 2214 = .ok (.aload_n 2, 1) := by decide +kernel
theorem dL_law_2215 : decode cL_law 2215 = .ok (.aload_n 0, 1) := by decide +kernel
theorem dL_law_2216 : decode cL_law 2216 = .ok (.iload 5, 2) := by decide +kernel
theorem dL_law_2218 : decode cL_law 2218 = .ok (.iconst 1, 1) := by decide +kernel
theorem dL_law_2219 : decode cL_law 2219 = .ok (.iadd, 1) := by decide +kernel
theorem dL_law_2220 : decode cL_law 2220 = .ok (.iaload, 1) := by decide +kernel
theorem dL_law_2221 : decode cL_law 2221 = .ok (.invokevirtual 297, 3) := by decide +kernel
theorem dL_law_2224 : decode cL_law 2224 = .ok (.istore 7, 2) := by decide +kernel
theorem dL_law_2226 : decode cL_law 2226 = .ok (.aload_n 2, 1) := by decide +kernel
theorem dL_law_2227 : decode cL_law 2227 = .ok (.invokevirtual 184, 3) := by decide +kernel
theorem dL_law_2230 : decode cL_law 2230 = .ok (.iload 6, 2) := by decide +kernel
theorem dL_law_2232 : decode cL_law 2232 = .ok (.if_icmp .eq 5, 3) := by decide +kernel
theorem dL_law_2237 : decode cL_law 2237 = .ok (.iload 6, 2) := by decide +kernel
theorem dL_law_2239 : decode cL_law 2239 = .ok (.ifCond .ne 15, 3) := by decide +kernel
theorem dL_law_2242 : decode cL_law 2242 = .ok (.aload_n 3, 1) := by decide +kernel
theorem dL_law_2243 : decode cL_law 2243 = .ok (.iconst 0, 1) := by decide +kernel
theorem dL_law_2244 : decode cL_law 2244 = .ok (.laload, 1) := by decide +kernel
theorem dL_law_2245 : decode cL_law 2245 = .ok (.iload 7, 2) := by decide +kernel
theorem dL_law_2247 : decode cL_law 2247 = .ok (.i2l, 1) := by decide +kernel
theorem dL_law_2248 : decode cL_law 2248 = .ok (.lcmp, 1) := by decide +kernel
theorem dL_law_2249 : decode cL_law 2249 = .ok (.ifCond .eq 5, 3) := by decide +kernel
theorem dL_law_2254 : decode cL_law 2254 = .ok (.goto 1139, 3) := by decide +kernel
set_option maxRecDepth 100000 in
set_option maxHeartbeats 4000000 in
theorem Lc_34 {p : Program} {l : Launch} {e : Env} {s : State} {m : MethodId} {args : Array Value} {below : List Frame} {meth : Method} {c : Code} {H : Heap} {locs : List Loc} {cells slots : Nat} {Q : State → Prop} {E : gE} {M : gM} {x : gX} {b0 L i k : Nat} {xs : Nat → Int32} {ls : Array Slot} (K : gLw p l s m args c E b0 L xs) (hi : i + 5 ≤ L) (hk : k ≤ 580) (hcs : cells + 4 ≤ 603072 ∧ slots + 24 ≤ 7186538) (hV : gInv k M) (hI : gI E s M x H locs) (hl : lv_has ls 9 (gLv E b0 i))
    (kk : ∀ M2 x2 H2 locs2 ls2, gInv (k + 1) M2 → gI E s M2 x2 H2 locs2 → lv_has ls2 9 (gLv E b0 i) → W p l e room_1 s m args below meth c H2 locs2 (cells + 4) (slots + 24) Q (F0 m 3393 ls2 [])) : W p l e room_1 s m args below meth c H locs cells slots Q (F0 m 2201 ls []) := by
  have hC := K.1
  have hx := hC.1
  have hb := hC.2.1
  have hst := K.2.2.1
  obtain ⟨oc, M1, z, b, M2, hf, hm, hz, ha, hV2⟩ := K_movesToReach (xs (i + 1)) k M hk hV
  refine lv_aload_n hx hb dL_law_2201 rfl (lv_at hl 1 rfl) ?_
  refine g_arg K hI (j := 1) (by omega) (by decide) (lv_at hl 0 rfl) (lv_at hl 5 rfl) dL_law_2202 dL_law_2203 dL_law_2205 dL_law_2206 dL_law_2207 ?_
  refine lv_aload_n hx hb dL_law_2208 rfl (lv_at hl 3 rfl) ?_
  refine g_callH (n := 3) hC K.2.1 hI (H_movesToReach l hst E x hf ha) w950 w0 w949 w948 ⟨⟨by decide, by decide⟩, by decide +kernel⟩ ⟨rfl, rfl⟩ ⟨Nat.le_of_ble_eq_true rfl, Nat.le_of_ble_eq_true rfl⟩ rfl hl.1 rfl (Nat.le_of_ble_eq_true rfl) dL_law_2209 ⟨show cells + 1 ≤ 603072 by omega, show slots + 6 ≤ 7186538 by omega⟩ (fun H locs hI => ?_)
  refine lv_istore (lv' := (6, .int z) :: gLv E b0 i) hx hb dL_law_2212 hl (by decide) rfl (fun ls hl => ?_)
  refine lv_aload_n hx hb dL_law_2214 rfl (lv_at hl 3 rfl) ?_
  refine g_arg K hI (j := 1) (by omega) (by decide) (lv_at hl 1 rfl) (lv_at hl 6 rfl) dL_law_2215 dL_law_2216 dL_law_2218 dL_law_2219 dL_law_2220 ?_
  refine g_callVi hC hI (C_X7_movesToReach l E _ hm) Y_X7_movesToReach V_X7_movesToReach w1653 (rcv_X7 hC hI) ⟨rfl, rfl⟩ ⟨Nat.le_of_ble_eq_true rfl, Nat.le_of_ble_eq_true rfl⟩ rfl hl.1 rfl (Nat.le_of_ble_eq_true rfl) dL_law_2221 ⟨show cells + 1 ≤ 603072 by omega, show slots + 6 ≤ 7186538 by omega⟩ (fun H locs hI => ?_)
  refine lv_istore (lv' := (7, .int b) :: (6, .int z) :: gLv E b0 i) hx hb dL_law_2224 hl (by decide) rfl (fun ls hl => ?_)
  refine g_tail_i K hI hz (fun h0 => ?_) hl ⟨show cells + 1 ≤ 603072 by omega, show slots + 6 ≤ 7186538 by omega⟩ (off := 1139) (by decide) dL_law_2226 dL_law_2227 dL_law_2230 dL_law_2232 dL_law_2237 dL_law_2239 dL_law_2242 dL_law_2243 dL_law_2244 dL_law_2245 dL_law_2247 dL_law_2248 dL_law_2249 dL_law_2254 (fun H locs hI => ?_)
  · unfold gXo
    rw [if_pos h0]
    rfl
  · refine W.widen (k := cells + 4) (n := slots + 24) (by omega) (by omega) ?_
    exact kk M2 _ H locs ls hV2 hI (lv_sub hl [2, 3, 4, 5, 6, 7] rfl)
theorem dL_law_2257 : decode cL_law 2257 = .ok (.aload_n 1, 1) := by decide +kernel
theorem dL_law_2258 : decode cL_law 2258 = .ok (.aload_n 0, 1) := by decide +kernel
theorem dL_law_2259 : decode cL_law 2259 = .ok (.iload 5, 2) := by decide +kernel
theorem dL_law_2261 : decode cL_law 2261 = .ok (.iconst 1, 1) := by decide +kernel
theorem dL_law_2262 : decode cL_law 2262 = .ok (.iadd, 1) := by decide +kernel
theorem dL_law_2263 : decode cL_law 2263 = .ok (.iaload, 1) := by decide +kernel
theorem dL_law_2264 : decode cL_law 2264 = .ok (.aload_n 3, 1) := by decide +kernel
theorem dL_law_2265 : decode cL_law 2265 = .ok (.invokestatic 298, 3) := by decide +kernel
theorem dL_law_2268 : decode cL_law 2268 = .ok (.istore 6, 2) := by decide +kernel
theorem dL_law_2270 : decode cL_law 2270 = .ok (.aload_n 2, 1) := by decide +kernel
theorem dL_law_2271 : decode cL_law 2271 = .ok (.aload_n 0, 1) := by decide +kernel
theorem dL_law_2272 : decode cL_law 2272 = .ok (.iload 5, 2) := by decide +kernel
theorem dL_law_2274 : decode cL_law 2274 = .ok (.iconst 1, 1) := by decide +kernel
theorem dL_law_2275 : decode cL_law 2275 = .ok (.iadd, 1) := by decide +kernel
theorem dL_law_2276 : decode cL_law 2276 = .ok (.iaload, 1) := by decide +kernel
theorem dL_law_2277 : decode cL_law 2277 = .ok (.invokevirtual 300, 3) := by decide +kernel
theorem dL_law_2280 : decode cL_law 2280 = .ok (.istore 7, 2) := by decide +kernel
theorem dL_law_2282 : decode cL_law 2282 = .ok (.aload_n 2, 1) := by decide +kernel
theorem dL_law_2283 : decode cL_law 2283 = .ok (.invokevirtual 184, 3) := by decide +kernel
theorem dL_law_2286 : decode cL_law 2286 = .ok (.iload 6, 2) := by decide +kernel
theorem dL_law_2288 : decode cL_law 2288 = .ok (.if_icmp .eq 5, 3) := by decide +kernel
theorem dL_law_2293 : decode cL_law 2293 = .ok (.iload 6, 2) := by decide +kernel
theorem dL_law_2295 : decode cL_law 2295 = .ok (.ifCond .ne 15, 3) := by decide +kernel
theorem dL_law_2298 : decode cL_law 2298 = .ok (.aload_n 3, 1) := by decide +kernel
theorem dL_law_2299 : decode cL_law 2299 = .ok (.iconst 0, 1) := by decide +kernel
theorem dL_law_2300 : decode cL_law 2300 = .ok (.laload, 1) := by decide +kernel
theorem dL_law_2301 : decode cL_law 2301 = .ok (.iload 7, 2) := by decide +kernel
theorem dL_law_2303 : decode cL_law 2303 = .ok (.i2l, 1) := by decide +kernel
theorem dL_law_2304 : decode cL_law 2304 = .ok (.lcmp, 1) := by decide +kernel
theorem dL_law_2305 : decode cL_law 2305 = .ok (.ifCond .eq 5, 3) := by decide +kernel
theorem dL_law_2310 : decode cL_law 2310 = .ok (.goto 1083, 3) := by decide +kernel
set_option maxRecDepth 100000 in
set_option maxHeartbeats 4000000 in
theorem Lc_35 {p : Program} {l : Launch} {e : Env} {s : State} {m : MethodId} {args : Array Value} {below : List Frame} {meth : Method} {c : Code} {H : Heap} {locs : List Loc} {cells slots : Nat} {Q : State → Prop} {E : gE} {M : gM} {x : gX} {b0 L i k : Nat} {xs : Nat → Int32} {ls : Array Slot} (K : gLw p l s m args c E b0 L xs) (hi : i + 5 ≤ L) (hk : k ≤ 580) (hcs : cells + 4 ≤ 603072 ∧ slots + 24 ≤ 7186538) (hV : gInv k M) (hI : gI E s M x H locs) (hl : lv_has ls 9 (gLv E b0 i))
    (kk : ∀ M2 x2 H2 locs2 ls2, gInv (k + 1) M2 → gI E s M2 x2 H2 locs2 → lv_has ls2 9 (gLv E b0 i) → W p l e room_1 s m args below meth c H2 locs2 (cells + 4) (slots + 24) Q (F0 m 3393 ls2 [])) : W p l e room_1 s m args below meth c H locs cells slots Q (F0 m 2257 ls []) := by
  have hC := K.1
  have hx := hC.1
  have hb := hC.2.1
  have hst := K.2.2.1
  obtain ⟨oc, M1, z, b, M2, hf, hm, hz, ha, hV2⟩ := K_movesToReachByCopy (xs (i + 1)) k M hk hV
  refine lv_aload_n hx hb dL_law_2257 rfl (lv_at hl 1 rfl) ?_
  refine g_arg K hI (j := 1) (by omega) (by decide) (lv_at hl 0 rfl) (lv_at hl 5 rfl) dL_law_2258 dL_law_2259 dL_law_2261 dL_law_2262 dL_law_2263 ?_
  refine lv_aload_n hx hb dL_law_2264 rfl (lv_at hl 3 rfl) ?_
  refine g_callH (n := 3) hC K.2.1 hI (H_movesToReachByCopy l hst E x hf ha) w958 w0 w957 w956 ⟨⟨by decide, by decide⟩, by decide +kernel⟩ ⟨rfl, rfl⟩ ⟨Nat.le_of_ble_eq_true rfl, Nat.le_of_ble_eq_true rfl⟩ rfl hl.1 rfl (Nat.le_of_ble_eq_true rfl) dL_law_2265 ⟨show cells + 1 ≤ 603072 by omega, show slots + 6 ≤ 7186538 by omega⟩ (fun H locs hI => ?_)
  refine lv_istore (lv' := (6, .int z) :: gLv E b0 i) hx hb dL_law_2268 hl (by decide) rfl (fun ls hl => ?_)
  refine lv_aload_n hx hb dL_law_2270 rfl (lv_at hl 3 rfl) ?_
  refine g_arg K hI (j := 1) (by omega) (by decide) (lv_at hl 1 rfl) (lv_at hl 6 rfl) dL_law_2271 dL_law_2272 dL_law_2274 dL_law_2275 dL_law_2276 ?_
  refine g_callVi hC hI (C_X7_movesToReachByCopy l E _ hm) Y_X7_movesToReachByCopy V_X7_movesToReachByCopy w1661 (rcv_X7 hC hI) ⟨rfl, rfl⟩ ⟨Nat.le_of_ble_eq_true rfl, Nat.le_of_ble_eq_true rfl⟩ rfl hl.1 rfl (Nat.le_of_ble_eq_true rfl) dL_law_2277 ⟨show cells + 1 ≤ 603072 by omega, show slots + 6 ≤ 7186538 by omega⟩ (fun H locs hI => ?_)
  refine lv_istore (lv' := (7, .int b) :: (6, .int z) :: gLv E b0 i) hx hb dL_law_2280 hl (by decide) rfl (fun ls hl => ?_)
  refine g_tail_i K hI hz (fun h0 => ?_) hl ⟨show cells + 1 ≤ 603072 by omega, show slots + 6 ≤ 7186538 by omega⟩ (off := 1083) (by decide) dL_law_2282 dL_law_2283 dL_law_2286 dL_law_2288 dL_law_2293 dL_law_2295 dL_law_2298 dL_law_2299 dL_law_2300 dL_law_2301 dL_law_2303 dL_law_2304 dL_law_2305 dL_law_2310 (fun H locs hI => ?_)
  · unfold gXo
    rw [if_pos h0]
    rfl
  · refine W.widen (k := cells + 4) (n := slots + 24) (by omega) (by omega) ?_
    exact kk M2 _ H locs ls hV2 hI (lv_sub hl [2, 3, 4, 5, 6, 7] rfl)
theorem dL_law_2313 : decode cL_law 2313 = .ok (.aload_n 1, 1) := by decide +kernel
theorem dL_law_2314 : decode cL_law 2314 = .ok (.aload_n 0, 1) := by decide +kernel
theorem dL_law_2315 : decode cL_law 2315 = .ok (.iload 5, 2) := by decide +kernel
theorem dL_law_2317 : decode cL_law 2317 = .ok (.iconst 1, 1) := by decide +kernel
theorem dL_law_2318 : decode cL_law 2318 = .ok (.iadd, 1) := by decide +kernel
theorem dL_law_2319 : decode cL_law 2319 = .ok (.iaload, 1) := by decide +kernel
theorem dL_law_2320 : decode cL_law 2320 = .ok (.aload_n 3, 1) := by decide +kernel
theorem dL_law_2321 : decode cL_law 2321 = .ok (.invokestatic 301, 3) := by decide +kernel
theorem dL_law_2324 : decode cL_law 2324 = .ok (.istore 6, 2) := by decide +kernel
theorem dL_law_2326 : decode cL_law 2326 = .ok (.aload_n 2, 1) := by decide +kernel
theorem dL_law_2327 : decode cL_law 2327 = .ok (.aload_n 0, 1) := by decide +kernel
theorem dL_law_2328 : decode cL_law 2328 = .ok (.iload 5, 2) := by decide +kernel
theorem dL_law_2330 : decode cL_law 2330 = .ok (.iconst 1, 1) := by decide +kernel
theorem dL_law_2331 : decode cL_law 2331 = .ok (.iadd, 1) := by decide +kernel
theorem dL_law_2332 : decode cL_law 2332 = .ok (.iaload, 1) := by decide +kernel
theorem dL_law_2333 : decode cL_law 2333 = .ok (.invokevirtual 303, 3) := by decide +kernel
theorem dL_law_2336 : decode cL_law 2336 = .ok (.istore 7, 2) := by decide +kernel
theorem dL_law_2338 : decode cL_law 2338 = .ok (.aload_n 2, 1) := by decide +kernel
theorem dL_law_2339 : decode cL_law 2339 = .ok (.invokevirtual 184, 3) := by decide +kernel
theorem dL_law_2342 : decode cL_law 2342 = .ok (.iload 6, 2) := by decide +kernel
theorem dL_law_2344 : decode cL_law 2344 = .ok (.if_icmp .eq 5, 3) := by decide +kernel
theorem dL_law_2349 : decode cL_law 2349 = .ok (.iload 6, 2) := by decide +kernel
theorem dL_law_2351 : decode cL_law 2351 = .ok (.ifCond .ne 15, 3) := by decide +kernel
theorem dL_law_2354 : decode cL_law 2354 = .ok (.aload_n 3, 1) := by decide +kernel
theorem dL_law_2355 : decode cL_law 2355 = .ok (.iconst 0, 1) := by decide +kernel
theorem dL_law_2356 : decode cL_law 2356 = .ok (.laload, 1) := by decide +kernel
theorem dL_law_2357 : decode cL_law 2357 = .ok (.iload 7, 2) := by decide +kernel
theorem dL_law_2359 : decode cL_law 2359 = .ok (.i2l, 1) := by decide +kernel
theorem dL_law_2360 : decode cL_law 2360 = .ok (.lcmp, 1) := by decide +kernel
theorem dL_law_2361 : decode cL_law 2361 = .ok (.ifCond .eq 5, 3) := by decide +kernel
theorem dL_law_2366 : decode cL_law 2366 = .ok (.goto 1027, 3) := by decide +kernel
set_option maxRecDepth 100000 in
set_option maxHeartbeats 4000000 in
theorem Lc_36 {p : Program} {l : Launch} {e : Env} {s : State} {m : MethodId} {args : Array Value} {below : List Frame} {meth : Method} {c : Code} {H : Heap} {locs : List Loc} {cells slots : Nat} {Q : State → Prop} {E : gE} {M : gM} {x : gX} {b0 L i k : Nat} {xs : Nat → Int32} {ls : Array Slot} (K : gLw p l s m args c E b0 L xs) (hi : i + 5 ≤ L) (hk : k ≤ 580) (hcs : cells + 4 ≤ 603072 ∧ slots + 24 ≤ 7186538) (hV : gInv k M) (hI : gI E s M x H locs) (hl : lv_has ls 9 (gLv E b0 i))
    (kk : ∀ M2 x2 H2 locs2 ls2, gInv (k + 1) M2 → gI E s M2 x2 H2 locs2 → lv_has ls2 9 (gLv E b0 i) → W p l e room_1 s m args below meth c H2 locs2 (cells + 4) (slots + 24) Q (F0 m 3393 ls2 [])) : W p l e room_1 s m args below meth c H locs cells slots Q (F0 m 2313 ls []) := by
  have hC := K.1
  have hx := hC.1
  have hb := hC.2.1
  have hst := K.2.2.1
  obtain ⟨oc, M1, z, b, M2, hf, hm, hz, ha, hV2⟩ := K_heaviestAbove (xs (i + 1)) k M hk hV
  refine lv_aload_n hx hb dL_law_2313 rfl (lv_at hl 1 rfl) ?_
  refine g_arg K hI (j := 1) (by omega) (by decide) (lv_at hl 0 rfl) (lv_at hl 5 rfl) dL_law_2314 dL_law_2315 dL_law_2317 dL_law_2318 dL_law_2319 ?_
  refine lv_aload_n hx hb dL_law_2320 rfl (lv_at hl 3 rfl) ?_
  refine g_callH (n := 3) hC K.2.1 hI (H_heaviestAbove l hst E x hf ha) w966 w0 w965 w964 ⟨⟨by decide, by decide⟩, by decide +kernel⟩ ⟨rfl, rfl⟩ ⟨Nat.le_of_ble_eq_true rfl, Nat.le_of_ble_eq_true rfl⟩ rfl hl.1 rfl (Nat.le_of_ble_eq_true rfl) dL_law_2321 ⟨show cells + 2 ≤ 603072 by omega, show slots + 12 ≤ 7186538 by omega⟩ (fun H locs hI => ?_)
  refine lv_istore (lv' := (6, .int z) :: gLv E b0 i) hx hb dL_law_2324 hl (by decide) rfl (fun ls hl => ?_)
  refine lv_aload_n hx hb dL_law_2326 rfl (lv_at hl 3 rfl) ?_
  refine g_arg K hI (j := 1) (by omega) (by decide) (lv_at hl 1 rfl) (lv_at hl 6 rfl) dL_law_2327 dL_law_2328 dL_law_2330 dL_law_2331 dL_law_2332 ?_
  refine g_callVi hC hI (C_X7_heaviestAbove l E _ hm) Y_X7_heaviestAbove V_X7_heaviestAbove w1666 (rcv_X7 hC hI) ⟨rfl, rfl⟩ ⟨Nat.le_of_ble_eq_true rfl, Nat.le_of_ble_eq_true rfl⟩ rfl hl.1 rfl (Nat.le_of_ble_eq_true rfl) dL_law_2333 ⟨show cells + 2 ≤ 603072 by omega, show slots + 12 ≤ 7186538 by omega⟩ (fun H locs hI => ?_)
  refine lv_istore (lv' := (7, .int b) :: (6, .int z) :: gLv E b0 i) hx hb dL_law_2336 hl (by decide) rfl (fun ls hl => ?_)
  refine g_tail_i K hI hz (fun h0 => ?_) hl ⟨show cells + 2 ≤ 603072 by omega, show slots + 12 ≤ 7186538 by omega⟩ (off := 1027) (by decide) dL_law_2338 dL_law_2339 dL_law_2342 dL_law_2344 dL_law_2349 dL_law_2351 dL_law_2354 dL_law_2355 dL_law_2356 dL_law_2357 dL_law_2359 dL_law_2360 dL_law_2361 dL_law_2366 (fun H locs hI => ?_)
  · unfold gXo
    rw [if_pos h0]
    rfl
  · refine W.widen (k := cells + 4) (n := slots + 24) (by omega) (by omega) ?_
    exact kk M2 _ H locs ls hV2 hI (lv_sub hl [2, 3, 4, 5, 6, 7] rfl)
theorem dL_law_2369 : decode cL_law 2369 = .ok (.aload_n 1, 1) := by decide +kernel
theorem dL_law_2370 : decode cL_law 2370 = .ok (.aload_n 0, 1) := by decide +kernel
theorem dL_law_2371 : decode cL_law 2371 = .ok (.iload 5, 2) := by decide +kernel
theorem dL_law_2373 : decode cL_law 2373 = .ok (.iconst 1, 1) := by decide +kernel
theorem dL_law_2374 : decode cL_law 2374 = .ok (.iadd, 1) := by decide +kernel
theorem dL_law_2375 : decode cL_law 2375 = .ok (.iaload, 1) := by decide +kernel
theorem dL_law_2376 : decode cL_law 2376 = .ok (.aload_n 3, 1) := by decide +kernel
theorem dL_law_2377 : decode cL_law 2377 = .ok (.invokestatic 304, 3) := by decide +kernel
theorem dL_law_2380 : decode cL_law 2380 = .ok (.istore 6, 2) := by decide +kernel
theorem dL_law_2382 : decode cL_law 2382 = .ok (.aload_n 2, 1) := by decide +kernel
theorem dL_law_2383 : decode cL_law 2383 = .ok (.aload_n 0, 1) := by decide +kernel
theorem dL_law_2384 : decode cL_law 2384 = .ok (.iload 5, 2) := by decide +kernel
theorem dL_law_2386 : decode cL_law 2386 = .ok (.iconst 1, 1) := by decide +kernel
theorem dL_law_2387 : decode cL_law 2387 = .ok (.iadd, 1) := by decide +kernel
theorem dL_law_2388 : decode cL_law 2388 = .ok (.iaload, 1) := by decide +kernel
theorem dL_law_2389 : decode cL_law 2389 = .ok (.invokevirtual 306, 3) := by decide +kernel
theorem dL_law_2392 : decode cL_law 2392 = .ok (.istore 7, 2) := by decide +kernel
theorem dL_law_2394 : decode cL_law 2394 = .ok (.aload_n 2, 1) := by decide +kernel
theorem dL_law_2395 : decode cL_law 2395 = .ok (.invokevirtual 184, 3) := by decide +kernel
theorem dL_law_2398 : decode cL_law 2398 = .ok (.iload 6, 2) := by decide +kernel
theorem dL_law_2400 : decode cL_law 2400 = .ok (.if_icmp .eq 5, 3) := by decide +kernel
theorem dL_law_2405 : decode cL_law 2405 = .ok (.iload 6, 2) := by decide +kernel
theorem dL_law_2407 : decode cL_law 2407 = .ok (.ifCond .ne 15, 3) := by decide +kernel
theorem dL_law_2410 : decode cL_law 2410 = .ok (.aload_n 3, 1) := by decide +kernel
theorem dL_law_2411 : decode cL_law 2411 = .ok (.iconst 0, 1) := by decide +kernel
theorem dL_law_2412 : decode cL_law 2412 = .ok (.laload, 1) := by decide +kernel
theorem dL_law_2413 : decode cL_law 2413 = .ok (.iload 7, 2) := by decide +kernel
theorem dL_law_2415 : decode cL_law 2415 = .ok (.i2l, 1) := by decide +kernel
theorem dL_law_2416 : decode cL_law 2416 = .ok (.lcmp, 1) := by decide +kernel
theorem dL_law_2417 : decode cL_law 2417 = .ok (.ifCond .eq 5, 3) := by decide +kernel
theorem dL_law_2422 : decode cL_law 2422 = .ok (.goto 971, 3) := by decide +kernel
set_option maxRecDepth 100000 in
set_option maxHeartbeats 4000000 in
theorem Lc_37 {p : Program} {l : Launch} {e : Env} {s : State} {m : MethodId} {args : Array Value} {below : List Frame} {meth : Method} {c : Code} {H : Heap} {locs : List Loc} {cells slots : Nat} {Q : State → Prop} {E : gE} {M : gM} {x : gX} {b0 L i k : Nat} {xs : Nat → Int32} {ls : Array Slot} (K : gLw p l s m args c E b0 L xs) (hi : i + 5 ≤ L) (hk : k ≤ 580) (hcs : cells + 4 ≤ 603072 ∧ slots + 24 ≤ 7186538) (hV : gInv k M) (hI : gI E s M x H locs) (hl : lv_has ls 9 (gLv E b0 i))
    (kk : ∀ M2 x2 H2 locs2 ls2, gInv (k + 1) M2 → gI E s M2 x2 H2 locs2 → lv_has ls2 9 (gLv E b0 i) → W p l e room_1 s m args below meth c H2 locs2 (cells + 4) (slots + 24) Q (F0 m 3393 ls2 [])) : W p l e room_1 s m args below meth c H locs cells slots Q (F0 m 2369 ls []) := by
  have hC := K.1
  have hx := hC.1
  have hb := hC.2.1
  have hst := K.2.2.1
  obtain ⟨oc, M1, z, b, M2, hf, hm, hz, ha, hV2⟩ := K_containerByWeight (xs (i + 1)) k M hk hV
  refine lv_aload_n hx hb dL_law_2369 rfl (lv_at hl 1 rfl) ?_
  refine g_arg K hI (j := 1) (by omega) (by decide) (lv_at hl 0 rfl) (lv_at hl 5 rfl) dL_law_2370 dL_law_2371 dL_law_2373 dL_law_2374 dL_law_2375 ?_
  refine lv_aload_n hx hb dL_law_2376 rfl (lv_at hl 3 rfl) ?_
  refine g_callH (n := 3) hC K.2.1 hI (H_containerByWeight l hst E x hf ha) w977 w0 w976 w975 ⟨⟨by decide, by decide⟩, by decide +kernel⟩ ⟨rfl, rfl⟩ ⟨Nat.le_of_ble_eq_true rfl, Nat.le_of_ble_eq_true rfl⟩ rfl hl.1 rfl (Nat.le_of_ble_eq_true rfl) dL_law_2377 ⟨show cells + 1 ≤ 603072 by omega, show slots + 6 ≤ 7186538 by omega⟩ (fun H locs hI => ?_)
  refine lv_istore (lv' := (6, .int z) :: gLv E b0 i) hx hb dL_law_2380 hl (by decide) rfl (fun ls hl => ?_)
  refine lv_aload_n hx hb dL_law_2382 rfl (lv_at hl 3 rfl) ?_
  refine g_arg K hI (j := 1) (by omega) (by decide) (lv_at hl 1 rfl) (lv_at hl 6 rfl) dL_law_2383 dL_law_2384 dL_law_2386 dL_law_2387 dL_law_2388 ?_
  refine g_callVi hC hI (C_X7_containerByWeight l E _ hm) Y_X7_containerByWeight V_X7_containerByWeight w1674 (rcv_X7 hC hI) ⟨rfl, rfl⟩ ⟨Nat.le_of_ble_eq_true rfl, Nat.le_of_ble_eq_true rfl⟩ rfl hl.1 rfl (Nat.le_of_ble_eq_true rfl) dL_law_2389 ⟨show cells + 1 ≤ 603072 by omega, show slots + 6 ≤ 7186538 by omega⟩ (fun H locs hI => ?_)
  refine lv_istore (lv' := (7, .int b) :: (6, .int z) :: gLv E b0 i) hx hb dL_law_2392 hl (by decide) rfl (fun ls hl => ?_)
  refine g_tail_i K hI hz (fun h0 => ?_) hl ⟨show cells + 1 ≤ 603072 by omega, show slots + 6 ≤ 7186538 by omega⟩ (off := 971) (by decide) dL_law_2394 dL_law_2395 dL_law_2398 dL_law_2400 dL_law_2405 dL_law_2407 dL_law_2410 dL_law_2411 dL_law_2412 dL_law_2413 dL_law_2415 dL_law_2416 dL_law_2417 dL_law_2422 (fun H locs hI => ?_)
  · unfold gXo
    rw [if_pos h0]
    rfl
  · refine W.widen (k := cells + 4) (n := slots + 24) (by omega) (by omega) ?_
    exact kk M2 _ H locs ls hV2 hI (lv_sub hl [2, 3, 4, 5, 6, 7] rfl)
theorem dL_law_2425 : decode cL_law 2425 = .ok (.aload_n 1, 1) := by decide +kernel
theorem dL_law_2426 : decode cL_law 2426 = .ok (.aload_n 0, 1) := by decide +kernel
theorem dL_law_2427 : decode cL_law 2427 = .ok (.iload 5, 2) := by decide +kernel
theorem dL_law_2429 : decode cL_law 2429 = .ok (.iconst 1, 1) := by decide +kernel
theorem dL_law_2430 : decode cL_law 2430 = .ok (.iadd, 1) := by decide +kernel
theorem dL_law_2431 : decode cL_law 2431 = .ok (.iaload, 1) := by decide +kernel
theorem dL_law_2432 : decode cL_law 2432 = .ok (.aload_n 3, 1) := by decide +kernel
theorem dL_law_2433 : decode cL_law 2433 = .ok (.invokestatic 307, 3) := by decide +kernel
theorem dL_law_2436 : decode cL_law 2436 = .ok (.istore 6, 2) := by decide +kernel
theorem dL_law_2438 : decode cL_law 2438 = .ok (.aload_n 2, 1) := by decide +kernel
theorem dL_law_2439 : decode cL_law 2439 = .ok (.aload_n 0, 1) := by decide +kernel
theorem dL_law_2440 : decode cL_law 2440 = .ok (.iload 5, 2) := by decide +kernel
theorem dL_law_2442 : decode cL_law 2442 = .ok (.iconst 1, 1) := by decide +kernel
theorem dL_law_2443 : decode cL_law 2443 = .ok (.iadd, 1) := by decide +kernel
theorem dL_law_2444 : decode cL_law 2444 = .ok (.iaload, 1) := by decide +kernel
theorem dL_law_2445 : decode cL_law 2445 = .ok (.invokevirtual 309, 3) := by decide +kernel
theorem dL_law_2448 : decode cL_law 2448 = .ok (.istore 7, 2) := by decide +kernel
theorem dL_law_2450 : decode cL_law 2450 = .ok (.aload_n 2, 1) := by decide +kernel
theorem dL_law_2451 : decode cL_law 2451 = .ok (.invokevirtual 184, 3) := by decide +kernel
theorem dL_law_2454 : decode cL_law 2454 = .ok (.iload 6, 2) := by decide +kernel
theorem dL_law_2456 : decode cL_law 2456 = .ok (.if_icmp .eq 5, 3) := by decide +kernel
theorem dL_law_2461 : decode cL_law 2461 = .ok (.iload 6, 2) := by decide +kernel
theorem dL_law_2463 : decode cL_law 2463 = .ok (.ifCond .ne 15, 3) := by decide +kernel
theorem dL_law_2466 : decode cL_law 2466 = .ok (.aload_n 3, 1) := by decide +kernel
theorem dL_law_2467 : decode cL_law 2467 = .ok (.iconst 0, 1) := by decide +kernel
theorem dL_law_2468 : decode cL_law 2468 = .ok (.laload, 1) := by decide +kernel
theorem dL_law_2469 : decode cL_law 2469 = .ok (.iload 7, 2) := by decide +kernel
theorem dL_law_2471 : decode cL_law 2471 = .ok (.i2l, 1) := by decide +kernel
theorem dL_law_2472 : decode cL_law 2472 = .ok (.lcmp, 1) := by decide +kernel
theorem dL_law_2473 : decode cL_law 2473 = .ok (.ifCond .eq 5, 3) := by decide +kernel
theorem dL_law_2478 : decode cL_law 2478 = .ok (.goto 915, 3) := by decide +kernel
set_option maxRecDepth 100000 in
set_option maxHeartbeats 4000000 in
theorem Lc_38 {p : Program} {l : Launch} {e : Env} {s : State} {m : MethodId} {args : Array Value} {below : List Frame} {meth : Method} {c : Code} {H : Heap} {locs : List Loc} {cells slots : Nat} {Q : State → Prop} {E : gE} {M : gM} {x : gX} {b0 L i k : Nat} {xs : Nat → Int32} {ls : Array Slot} (K : gLw p l s m args c E b0 L xs) (hi : i + 5 ≤ L) (hk : k ≤ 580) (hcs : cells + 4 ≤ 603072 ∧ slots + 24 ≤ 7186538) (hV : gInv k M) (hI : gI E s M x H locs) (hl : lv_has ls 9 (gLv E b0 i))
    (kk : ∀ M2 x2 H2 locs2 ls2, gInv (k + 1) M2 → gI E s M2 x2 H2 locs2 → lv_has ls2 9 (gLv E b0 i) → W p l e room_1 s m args below meth c H2 locs2 (cells + 4) (slots + 24) Q (F0 m 3393 ls2 [])) : W p l e room_1 s m args below meth c H locs cells slots Q (F0 m 2425 ls []) := by
  have hC := K.1
  have hx := hC.1
  have hb := hC.2.1
  have hst := K.2.2.1
  obtain ⟨oc, M1, z, b, M2, hf, hm, hz, ha, hV2⟩ := K_emptiestStack (xs (i + 1)) k M hk hV
  refine lv_aload_n hx hb dL_law_2425 rfl (lv_at hl 1 rfl) ?_
  refine g_arg K hI (j := 1) (by omega) (by decide) (lv_at hl 0 rfl) (lv_at hl 5 rfl) dL_law_2426 dL_law_2427 dL_law_2429 dL_law_2430 dL_law_2431 ?_
  refine lv_aload_n hx hb dL_law_2432 rfl (lv_at hl 3 rfl) ?_
  refine g_callH (n := 3) hC K.2.1 hI (H_emptiestStack l hst E x hf ha) w992 w0 w991 w990 ⟨⟨by decide, by decide⟩, by decide +kernel⟩ ⟨rfl, rfl⟩ ⟨Nat.le_of_ble_eq_true rfl, Nat.le_of_ble_eq_true rfl⟩ rfl hl.1 rfl (Nat.le_of_ble_eq_true rfl) dL_law_2433 ⟨show cells + 2 ≤ 603072 by omega, show slots + 12 ≤ 7186538 by omega⟩ (fun H locs hI => ?_)
  refine lv_istore (lv' := (6, .int z) :: gLv E b0 i) hx hb dL_law_2436 hl (by decide) rfl (fun ls hl => ?_)
  refine lv_aload_n hx hb dL_law_2438 rfl (lv_at hl 3 rfl) ?_
  refine g_arg K hI (j := 1) (by omega) (by decide) (lv_at hl 1 rfl) (lv_at hl 6 rfl) dL_law_2439 dL_law_2440 dL_law_2442 dL_law_2443 dL_law_2444 ?_
  refine g_callVi hC hI (C_X7_emptiestStack l E _ hm) Y_X7_emptiestStack V_X7_emptiestStack w1678 (rcv_X7 hC hI) ⟨rfl, rfl⟩ ⟨Nat.le_of_ble_eq_true rfl, Nat.le_of_ble_eq_true rfl⟩ rfl hl.1 rfl (Nat.le_of_ble_eq_true rfl) dL_law_2445 ⟨show cells + 2 ≤ 603072 by omega, show slots + 12 ≤ 7186538 by omega⟩ (fun H locs hI => ?_)
  refine lv_istore (lv' := (7, .int b) :: (6, .int z) :: gLv E b0 i) hx hb dL_law_2448 hl (by decide) rfl (fun ls hl => ?_)
  refine g_tail_i K hI hz (fun h0 => ?_) hl ⟨show cells + 2 ≤ 603072 by omega, show slots + 12 ≤ 7186538 by omega⟩ (off := 915) (by decide) dL_law_2450 dL_law_2451 dL_law_2454 dL_law_2456 dL_law_2461 dL_law_2463 dL_law_2466 dL_law_2467 dL_law_2468 dL_law_2469 dL_law_2471 dL_law_2472 dL_law_2473 dL_law_2478 (fun H locs hI => ?_)
  · unfold gXo
    rw [if_pos h0]
    rfl
  · refine W.widen (k := cells + 4) (n := slots + 24) (by omega) (by omega) ?_
    exact kk M2 _ H locs ls hV2 hI (lv_sub hl [2, 3, 4, 5, 6, 7] rfl)
theorem dL_law_2481 : decode cL_law 2481 = .ok (.aload_n 1, 1) := by decide +kernel
theorem dL_law_2482 : decode cL_law 2482 = .ok (.aload_n 0, 1) := by decide +kernel
theorem dL_law_2483 : decode cL_law 2483 = .ok (.iload 5, 2) := by decide +kernel
theorem dL_law_2485 : decode cL_law 2485 = .ok (.iconst 1, 1) := by decide +kernel
theorem dL_law_2486 : decode cL_law 2486 = .ok (.iadd, 1) := by decide +kernel
theorem dL_law_2487 : decode cL_law 2487 = .ok (.iaload, 1) := by decide +kernel
theorem dL_law_2488 : decode cL_law 2488 = .ok (.aload_n 0, 1) := by decide +kernel
theorem dL_law_2489 : decode cL_law 2489 = .ok (.iload 5, 2) := by decide +kernel
theorem dL_law_2491 : decode cL_law 2491 = .ok (.iconst 2, 1) := by decide +kernel
theorem dL_law_2492 : decode cL_law 2492 = .ok (.iadd, 1) := by decide +kernel
theorem dL_law_2493 : decode cL_law 2493 = .ok (.iaload, 1) := by decide +kernel
theorem dL_law_2494 : decode cL_law 2494 = .ok (.aload_n 3, 1) := by decide +kernel
theorem dL_law_2495 : decode cL_law 2495 = .ok (.invokestatic 310, 3) := by decide +kernel
theorem dL_law_2498 : decode cL_law 2498 = .ok (.istore 6, 2) := by decide +kernel
theorem dL_law_2500 : decode cL_law 2500 = .ok (.aload_n 2, 1) := by decide +kernel
theorem dL_law_2501 : decode cL_law 2501 = .ok (.aload_n 0, 1) := by decide +kernel
theorem dL_law_2502 : decode cL_law 2502 = .ok (.iload 5, 2) := by decide +kernel
theorem dL_law_2504 : decode cL_law 2504 = .ok (.iconst 1, 1) := by decide +kernel
theorem dL_law_2505 : decode cL_law 2505 = .ok (.iadd, 1) := by decide +kernel
theorem dL_law_2506 : decode cL_law 2506 = .ok (.iaload, 1) := by decide +kernel
theorem dL_law_2507 : decode cL_law 2507 = .ok (.aload_n 0, 1) := by decide +kernel
theorem dL_law_2508 : decode cL_law 2508 = .ok (.iload 5, 2) := by decide +kernel
theorem dL_law_2510 : decode cL_law 2510 = .ok (.iconst 2, 1) := by decide +kernel
theorem dL_law_2511 : decode cL_law 2511 = .ok (.iadd, 1) := by decide +kernel
theorem dL_law_2512 : decode cL_law 2512 = .ok (.iaload, 1) := by decide +kernel
theorem dL_law_2513 : decode cL_law 2513 = .ok (.invokevirtual 312, 3) := by decide +kernel
theorem dL_law_2516 : decode cL_law 2516 = .ok (.istore 7, 2) := by decide +kernel
theorem dL_law_2518 : decode cL_law 2518 = .ok (.aload_n 2, 1) := by decide +kernel
theorem dL_law_2519 : decode cL_law 2519 = .ok (.invokevirtual 184, 3) := by decide +kernel
theorem dL_law_2522 : decode cL_law 2522 = .ok (.iload 6, 2) := by decide +kernel
theorem dL_law_2524 : decode cL_law 2524 = .ok (.if_icmp .eq 5, 3) := by decide +kernel
theorem dL_law_2529 : decode cL_law 2529 = .ok (.iload 6, 2) := by decide +kernel
theorem dL_law_2531 : decode cL_law 2531 = .ok (.ifCond .ne 15, 3) := by decide +kernel
theorem dL_law_2534 : decode cL_law 2534 = .ok (.aload_n 3, 1) := by decide +kernel
theorem dL_law_2535 : decode cL_law 2535 = .ok (.iconst 0, 1) := by decide +kernel
theorem dL_law_2536 : decode cL_law 2536 = .ok (.laload, 1) := by decide +kernel
theorem dL_law_2537 : decode cL_law 2537 = .ok (.iload 7, 2) := by decide +kernel
theorem dL_law_2539 : decode cL_law 2539 = .ok (.i2l, 1) := by decide +kernel
theorem dL_law_2540 : decode cL_law 2540 = .ok (.lcmp, 1) := by decide +kernel
theorem dL_law_2541 : decode cL_law 2541 = .ok (.ifCond .eq 5, 3) := by decide +kernel
theorem dL_law_2546 : decode cL_law 2546 = .ok (.goto 847, 3) := by decide +kernel
set_option maxRecDepth 100000 in
set_option maxHeartbeats 4000000 in
theorem Lc_39 {p : Program} {l : Launch} {e : Env} {s : State} {m : MethodId} {args : Array Value} {below : List Frame} {meth : Method} {c : Code} {H : Heap} {locs : List Loc} {cells slots : Nat} {Q : State → Prop} {E : gE} {M : gM} {x : gX} {b0 L i k : Nat} {xs : Nat → Int32} {ls : Array Slot} (K : gLw p l s m args c E b0 L xs) (hi : i + 5 ≤ L) (hk : k ≤ 580) (hcs : cells + 4 ≤ 603072 ∧ slots + 24 ≤ 7186538) (hV : gInv k M) (hI : gI E s M x H locs) (hl : lv_has ls 9 (gLv E b0 i))
    (kk : ∀ M2 x2 H2 locs2 ls2, gInv (k + 1) M2 → gI E s M2 x2 H2 locs2 → lv_has ls2 9 (gLv E b0 i) → W p l e room_1 s m args below meth c H2 locs2 (cells + 4) (slots + 24) Q (F0 m 3393 ls2 [])) : W p l e room_1 s m args below meth c H locs cells slots Q (F0 m 2481 ls []) := by
  have hC := K.1
  have hx := hC.1
  have hb := hC.2.1
  have hst := K.2.2.1
  obtain ⟨oc, M1, z, b, M2, hf, hm, hz, ha, hV2⟩ := K_heavyOverLight (xs (i + 1)) (xs (i + 2)) k M hk hV
  refine lv_aload_n hx hb dL_law_2481 rfl (lv_at hl 1 rfl) ?_
  refine g_arg K hI (j := 1) (by omega) (by decide) (lv_at hl 0 rfl) (lv_at hl 5 rfl) dL_law_2482 dL_law_2483 dL_law_2485 dL_law_2486 dL_law_2487 ?_
  refine g_arg K hI (j := 2) (by omega) (by decide) (lv_at hl 0 rfl) (lv_at hl 5 rfl) dL_law_2488 dL_law_2489 dL_law_2491 dL_law_2492 dL_law_2493 ?_
  refine lv_aload_n hx hb dL_law_2494 rfl (lv_at hl 3 rfl) ?_
  refine g_callH (n := 4) hC K.2.1 hI (H_heavyOverLight l hst E x hf ha) w1003 w0 w1002 w1001 ⟨⟨by decide, by decide⟩, by decide +kernel⟩ ⟨rfl, rfl⟩ ⟨Nat.le_of_ble_eq_true rfl, Nat.le_of_ble_eq_true rfl⟩ rfl hl.1 rfl (Nat.le_of_ble_eq_true rfl) dL_law_2495 ⟨show cells + 3 ≤ 603072 by omega, show slots + 18 ≤ 7186538 by omega⟩ (fun H locs hI => ?_)
  refine lv_istore (lv' := (6, .int z) :: gLv E b0 i) hx hb dL_law_2498 hl (by decide) rfl (fun ls hl => ?_)
  refine lv_aload_n hx hb dL_law_2500 rfl (lv_at hl 3 rfl) ?_
  refine g_arg K hI (j := 1) (by omega) (by decide) (lv_at hl 1 rfl) (lv_at hl 6 rfl) dL_law_2501 dL_law_2502 dL_law_2504 dL_law_2505 dL_law_2506 ?_
  refine g_arg K hI (j := 2) (by omega) (by decide) (lv_at hl 1 rfl) (lv_at hl 6 rfl) dL_law_2507 dL_law_2508 dL_law_2510 dL_law_2511 dL_law_2512 ?_
  refine g_callVi hC hI (C_X7_heavyOverLight l E _ hm) Y_X7_heavyOverLight V_X7_heavyOverLight w1682 (rcv_X7 hC hI) ⟨rfl, rfl⟩ ⟨Nat.le_of_ble_eq_true rfl, Nat.le_of_ble_eq_true rfl⟩ rfl hl.1 rfl (Nat.le_of_ble_eq_true rfl) dL_law_2513 ⟨show cells + 3 ≤ 603072 by omega, show slots + 18 ≤ 7186538 by omega⟩ (fun H locs hI => ?_)
  refine lv_istore (lv' := (7, .int b) :: (6, .int z) :: gLv E b0 i) hx hb dL_law_2516 hl (by decide) rfl (fun ls hl => ?_)
  refine g_tail_i K hI hz (fun h0 => ?_) hl ⟨show cells + 3 ≤ 603072 by omega, show slots + 18 ≤ 7186538 by omega⟩ (off := 847) (by decide) dL_law_2518 dL_law_2519 dL_law_2522 dL_law_2524 dL_law_2529 dL_law_2531 dL_law_2534 dL_law_2535 dL_law_2536 dL_law_2537 dL_law_2539 dL_law_2540 dL_law_2541 dL_law_2546 (fun H locs hI => ?_)
  · unfold gXo
    rw [if_pos h0]
    rfl
  · refine W.widen (k := cells + 4) (n := slots + 24) (by omega) (by omega) ?_
    exact kk M2 _ H locs ls hV2 hI (lv_sub hl [2, 3, 4, 5, 6, 7] rfl)
theorem dL_law_2549 : decode cL_law 2549 = .ok (.aload_n 1, 1) := by decide +kernel
theorem dL_law_2550 : decode cL_law 2550 = .ok (.invokevirtual 313, 3) := by decide +kernel
theorem dL_law_2553 : decode cL_law 2553 = .ok (.aload_n 2, 1) := by decide +kernel
theorem dL_law_2554 : decode cL_law 2554 = .ok (.invokevirtual 316, 3) := by decide +kernel
theorem dL_law_2557 : decode cL_law 2557 = .ok (.if_icmp .eq 836, 3) := by decide +kernel
set_option maxRecDepth 100000 in
set_option maxHeartbeats 4000000 in
theorem Lc_40 {p : Program} {l : Launch} {e : Env} {s : State} {m : MethodId} {args : Array Value} {below : List Frame} {meth : Method} {c : Code} {H : Heap} {locs : List Loc} {cells slots : Nat} {Q : State → Prop} {E : gE} {M : gM} {x : gX} {b0 L i k : Nat} {xs : Nat → Int32} {ls : Array Slot} (K : gLw p l s m args c E b0 L xs) (hi : i + 5 ≤ L) (hk : k ≤ 580) (hcs : cells + 4 ≤ 603072 ∧ slots + 24 ≤ 7186538) (hV : gInv k M) (hI : gI E s M x H locs) (hl : lv_has ls 9 (gLv E b0 i))
    (kk : ∀ M2 x2 H2 locs2 ls2, gInv (k + 1) M2 → gI E s M2 x2 H2 locs2 → lv_has ls2 9 (gLv E b0 i) → W p l e room_1 s m args below meth c H2 locs2 (cells + 4) (slots + 24) Q (F0 m 3393 ls2 [])) : W p l e room_1 s m args below meth c H locs cells slots Q (F0 m 2549 ls []) := by
  have hC := K.1
  have hx := hC.1
  have hb := hC.2.1
  have hst := K.2.2.1
  obtain ⟨b, M2, hf, hm, hz, hV2⟩ := K_differentKeys k M hk hV
  refine lv_aload_n hx hb dL_law_2549 rfl (lv_at hl 1 rfl) ?_
  refine g_callVi hC hI (C_X6_differentKeys l E x hf) Y_X6_differentKeys V_X6_differentKeys w277 (rcv_X6 hC hI) ⟨rfl, rfl⟩ ⟨Nat.le_of_ble_eq_true rfl, Nat.le_of_ble_eq_true rfl⟩ rfl hl.1 rfl (Nat.le_of_ble_eq_true rfl) dL_law_2550 ⟨show cells ≤ 603072 by omega, show slots ≤ 7186538 by omega⟩ (fun H locs hI => ?_)
  refine lv_aload_n hx hb dL_law_2553 rfl (lv_at hl 2 rfl) ?_
  refine g_callVi hC hI (C_X7_differentKeys l E x hm) Y_X7_differentKeys V_X7_differentKeys w1686 (rcv_X7 hC hI) ⟨rfl, rfl⟩ ⟨Nat.le_of_ble_eq_true rfl, Nat.le_of_ble_eq_true rfl⟩ rfl hl.1 rfl (Nat.le_of_ble_eq_true rfl) dL_law_2554 ⟨show cells ≤ 603072 by omega, show slots ≤ 7186538 by omega⟩ (fun H locs hI => ?_)
  refine lv_icmp_eq (tgt := 3393) hx hb dL_law_2557 rfl (fun _ => ?_) (fun h => absurd rfl h)
  refine W.widen (k := cells + 4) (n := slots + 24) (by omega) (by omega) ?_
  exact kk M2 _ H locs ls hV2 hI hl
theorem dL_law_2562 : decode cL_law 2562 = .ok (.aload_n 1, 1) := by decide +kernel
theorem dL_law_2563 : decode cL_law 2563 = .ok (.invokevirtual 317, 3) := by decide +kernel
theorem dL_law_2566 : decode cL_law 2566 = .ok (.aload_n 2, 1) := by decide +kernel
theorem dL_law_2567 : decode cL_law 2567 = .ok (.invokevirtual 320, 3) := by decide +kernel
theorem dL_law_2570 : decode cL_law 2570 = .ok (.if_icmp .eq 823, 3) := by decide +kernel
set_option maxRecDepth 100000 in
set_option maxHeartbeats 4000000 in
theorem Lc_41 {p : Program} {l : Launch} {e : Env} {s : State} {m : MethodId} {args : Array Value} {below : List Frame} {meth : Method} {c : Code} {H : Heap} {locs : List Loc} {cells slots : Nat} {Q : State → Prop} {E : gE} {M : gM} {x : gX} {b0 L i k : Nat} {xs : Nat → Int32} {ls : Array Slot} (K : gLw p l s m args c E b0 L xs) (hi : i + 5 ≤ L) (hk : k ≤ 580) (hcs : cells + 4 ≤ 603072 ∧ slots + 24 ≤ 7186538) (hV : gInv k M) (hI : gI E s M x H locs) (hl : lv_has ls 9 (gLv E b0 i))
    (kk : ∀ M2 x2 H2 locs2 ls2, gInv (k + 1) M2 → gI E s M2 x2 H2 locs2 → lv_has ls2 9 (gLv E b0 i) → W p l e room_1 s m args below meth c H2 locs2 (cells + 4) (slots + 24) Q (F0 m 3393 ls2 [])) : W p l e room_1 s m args below meth c H locs cells slots Q (F0 m 2562 ls []) := by
  have hC := K.1
  have hx := hC.1
  have hb := hC.2.1
  have hst := K.2.2.1
  obtain ⟨b, M2, hf, hm, hz, hV2⟩ := K_keyTwins k M hk hV
  refine lv_aload_n hx hb dL_law_2562 rfl (lv_at hl 1 rfl) ?_
  refine g_callVi hC hI (C_X6_keyTwins l E x hf) Y_X6_keyTwins V_X6_keyTwins w293 (rcv_X6 hC hI) ⟨rfl, rfl⟩ ⟨Nat.le_of_ble_eq_true rfl, Nat.le_of_ble_eq_true rfl⟩ rfl hl.1 rfl (Nat.le_of_ble_eq_true rfl) dL_law_2563 ⟨show cells ≤ 603072 by omega, show slots ≤ 7186538 by omega⟩ (fun H locs hI => ?_)
  refine lv_aload_n hx hb dL_law_2566 rfl (lv_at hl 2 rfl) ?_
  refine g_callVi hC hI (C_X7_keyTwins l E x hm) Y_X7_keyTwins V_X7_keyTwins w1694 (rcv_X7 hC hI) ⟨rfl, rfl⟩ ⟨Nat.le_of_ble_eq_true rfl, Nat.le_of_ble_eq_true rfl⟩ rfl hl.1 rfl (Nat.le_of_ble_eq_true rfl) dL_law_2567 ⟨show cells ≤ 603072 by omega, show slots ≤ 7186538 by omega⟩ (fun H locs hI => ?_)
  refine lv_icmp_eq (tgt := 3393) hx hb dL_law_2570 rfl (fun _ => ?_) (fun h => absurd rfl h)
  refine W.widen (k := cells + 4) (n := slots + 24) (by omega) (by omega) ?_
  exact kk M2 _ H locs ls hV2 hI hl
theorem dL_law_2575 : decode cL_law 2575 = .ok (.aload_n 1, 1) := by decide +kernel
theorem dL_law_2576 : decode cL_law 2576 = .ok (.invokevirtual 321, 3) := by decide +kernel
theorem dL_law_2579 : decode cL_law 2579 = .ok (.aload_n 2, 1) := by decide +kernel
theorem dL_law_2580 : decode cL_law 2580 = .ok (.invokevirtual 324, 3) := by decide +kernel
theorem dL_law_2583 : decode cL_law 2583 = .ok (.if_icmp .eq 810, 3) := by decide +kernel
set_option maxRecDepth 100000 in
set_option maxHeartbeats 4000000 in
theorem Lc_42 {p : Program} {l : Launch} {e : Env} {s : State} {m : MethodId} {args : Array Value} {below : List Frame} {meth : Method} {c : Code} {H : Heap} {locs : List Loc} {cells slots : Nat} {Q : State → Prop} {E : gE} {M : gM} {x : gX} {b0 L i k : Nat} {xs : Nat → Int32} {ls : Array Slot} (K : gLw p l s m args c E b0 L xs) (hi : i + 5 ≤ L) (hk : k ≤ 580) (hcs : cells + 4 ≤ 603072 ∧ slots + 24 ≤ 7186538) (hV : gInv k M) (hI : gI E s M x H locs) (hl : lv_has ls 9 (gLv E b0 i))
    (kk : ∀ M2 x2 H2 locs2 ls2, gInv (k + 1) M2 → gI E s M2 x2 H2 locs2 → lv_has ls2 9 (gLv E b0 i) → W p l e room_1 s m args below meth c H2 locs2 (cells + 4) (slots + 24) Q (F0 m 3393 ls2 [])) : W p l e room_1 s m args below meth c H locs cells slots Q (F0 m 2575 ls []) := by
  have hC := K.1
  have hx := hC.1
  have hb := hC.2.1
  have hst := K.2.2.1
  obtain ⟨b, M2, hf, hm, hz, hV2⟩ := K_keyTwinsByGroups k M hk hV
  refine lv_aload_n hx hb dL_law_2575 rfl (lv_at hl 1 rfl) ?_
  refine g_callVi hC hI (C_X6_keyTwinsByGroups l E x hf) Y_X6_keyTwinsByGroups V_X6_keyTwinsByGroups w309 (rcv_X6 hC hI) ⟨rfl, rfl⟩ ⟨Nat.le_of_ble_eq_true rfl, Nat.le_of_ble_eq_true rfl⟩ rfl hl.1 rfl (Nat.le_of_ble_eq_true rfl) dL_law_2576 ⟨show cells ≤ 603072 by omega, show slots ≤ 7186538 by omega⟩ (fun H locs hI => ?_)
  refine lv_aload_n hx hb dL_law_2579 rfl (lv_at hl 2 rfl) ?_
  refine g_callVi hC hI (C_X7_keyTwinsByGroups l E x hm) Y_X7_keyTwinsByGroups V_X7_keyTwinsByGroups w1698 (rcv_X7 hC hI) ⟨rfl, rfl⟩ ⟨Nat.le_of_ble_eq_true rfl, Nat.le_of_ble_eq_true rfl⟩ rfl hl.1 rfl (Nat.le_of_ble_eq_true rfl) dL_law_2580 ⟨show cells ≤ 603072 by omega, show slots ≤ 7186538 by omega⟩ (fun H locs hI => ?_)
  refine lv_icmp_eq (tgt := 3393) hx hb dL_law_2583 rfl (fun _ => ?_) (fun h => absurd rfl h)
  refine W.widen (k := cells + 4) (n := slots + 24) (by omega) (by omega) ?_
  exact kk M2 _ H locs ls hV2 hI hl
theorem dL_law_2588 : decode cL_law 2588 = .ok (.aload_n 1, 1) := by decide +kernel
theorem dL_law_2589 : decode cL_law 2589 = .ok (.invokevirtual 325, 3) := by decide +kernel
theorem dL_law_2592 : decode cL_law 2592 = .ok (.aload_n 2, 1) := by decide +kernel
theorem dL_law_2593 : decode cL_law 2593 = .ok (.invokevirtual 328, 3) := by decide +kernel
theorem dL_law_2596 : decode cL_law 2596 = .ok (.if_icmp .eq 797, 3) := by decide +kernel
set_option maxRecDepth 100000 in
set_option maxHeartbeats 4000000 in
theorem Lc_43 {p : Program} {l : Launch} {e : Env} {s : State} {m : MethodId} {args : Array Value} {below : List Frame} {meth : Method} {c : Code} {H : Heap} {locs : List Loc} {cells slots : Nat} {Q : State → Prop} {E : gE} {M : gM} {x : gX} {b0 L i k : Nat} {xs : Nat → Int32} {ls : Array Slot} (K : gLw p l s m args c E b0 L xs) (hi : i + 5 ≤ L) (hk : k ≤ 580) (hcs : cells + 4 ≤ 603072 ∧ slots + 24 ≤ 7186538) (hV : gInv k M) (hI : gI E s M x H locs) (hl : lv_has ls 9 (gLv E b0 i))
    (kk : ∀ M2 x2 H2 locs2 ls2, gInv (k + 1) M2 → gI E s M2 x2 H2 locs2 → lv_has ls2 9 (gLv E b0 i) → W p l e room_1 s m args below meth c H2 locs2 (cells + 4) (slots + 24) Q (F0 m 3393 ls2 [])) : W p l e room_1 s m args below meth c H locs cells slots Q (F0 m 2588 ls []) := by
  have hC := K.1
  have hx := hC.1
  have hb := hC.2.1
  have hst := K.2.2.1
  obtain ⟨b, M2, hf, hm, hz, hV2⟩ := K_yardCount k M hk hV
  refine lv_aload_n hx hb dL_law_2588 rfl (lv_at hl 1 rfl) ?_
  refine g_callVi hC hI (C_X6_yardCount l E x hf) Y_X6_yardCount V_X6_yardCount w325 (rcv_X6 hC hI) ⟨rfl, rfl⟩ ⟨Nat.le_of_ble_eq_true rfl, Nat.le_of_ble_eq_true rfl⟩ rfl hl.1 rfl (Nat.le_of_ble_eq_true rfl) dL_law_2589 ⟨show cells ≤ 603072 by omega, show slots ≤ 7186538 by omega⟩ (fun H locs hI => ?_)
  refine lv_aload_n hx hb dL_law_2592 rfl (lv_at hl 2 rfl) ?_
  refine g_callVi hC hI (C_X7_yardCount l E x hm) Y_X7_yardCount V_X7_yardCount w1703 (rcv_X7 hC hI) ⟨rfl, rfl⟩ ⟨Nat.le_of_ble_eq_true rfl, Nat.le_of_ble_eq_true rfl⟩ rfl hl.1 rfl (Nat.le_of_ble_eq_true rfl) dL_law_2593 ⟨show cells ≤ 603072 by omega, show slots ≤ 7186538 by omega⟩ (fun H locs hI => ?_)
  refine lv_icmp_eq (tgt := 3393) hx hb dL_law_2596 rfl (fun _ => ?_) (fun h => absurd rfl h)
  refine W.widen (k := cells + 4) (n := slots + 24) (by omega) (by omega) ?_
  exact kk M2 _ H locs ls hV2 hI hl
theorem dL_law_2601 : decode cL_law 2601 = .ok (.aload_n 1, 1) := by decide +kernel
theorem dL_law_2602 : decode cL_law 2602 = .ok (.aload_n 0, 1) := by decide +kernel
theorem dL_law_2603 : decode cL_law 2603 = .ok (.iload 5, 2) := by decide +kernel
theorem dL_law_2605 : decode cL_law 2605 = .ok (.iconst 1, 1) := by decide +kernel
theorem dL_law_2606 : decode cL_law 2606 = .ok (.iadd, 1) := by decide +kernel
theorem dL_law_2607 : decode cL_law 2607 = .ok (.iaload, 1) := by decide +kernel
theorem dL_law_2608 : decode cL_law 2608 = .ok (.aload_n 3, 1) := by decide +kernel
theorem dL_law_2609 : decode cL_law 2609 = .ok (.invokestatic 329, 3) := by decide +kernel
theorem dL_law_2612 : decode cL_law 2612 = .ok (.istore 6, 2) := by decide +kernel
theorem dL_law_2614 : decode cL_law 2614 = .ok (.aload_n 2, 1) := by decide +kernel
theorem dL_law_2615 : decode cL_law 2615 = .ok (.aload_n 0, 1) := by decide +kernel
theorem dL_law_2616 : decode cL_law 2616 = .ok (.iload 5, 2) := by decide +kernel
theorem dL_law_2618 : decode cL_law 2618 = .ok (.iconst 1, 1) := by decide +kernel
theorem dL_law_2619 : decode cL_law 2619 = .ok (.iadd, 1) := by decide +kernel
theorem dL_law_2620 : decode cL_law 2620 = .ok (.iaload, 1) := by decide +kernel
theorem dL_law_2621 : decode cL_law 2621 = .ok (.invokevirtual 331, 3) := by decide +kernel
theorem dL_law_2624 : decode cL_law 2624 = .ok (.istore 7, 2) := by decide +kernel
theorem dL_law_2626 : decode cL_law 2626 = .ok (.aload_n 2, 1) := by decide +kernel
theorem dL_law_2627 : decode cL_law 2627 = .ok (.invokevirtual 184, 3) := by decide +kernel
theorem dL_law_2630 : decode cL_law 2630 = .ok (.iload 6, 2) := by decide +kernel
theorem dL_law_2632 : decode cL_law 2632 = .ok (.if_icmp .eq 5, 3) := by decide +kernel
theorem dL_law_2637 : decode cL_law 2637 = .ok (.iload 6, 2) := by decide +kernel
theorem dL_law_2639 : decode cL_law 2639 = .ok (.ifCond .ne 15, 3) := by decide +kernel
theorem dL_law_2642 : decode cL_law 2642 = .ok (.aload_n 3, 1) := by decide +kernel
theorem dL_law_2643 : decode cL_law 2643 = .ok (.iconst 0, 1) := by decide +kernel
theorem dL_law_2644 : decode cL_law 2644 = .ok (.laload, 1) := by decide +kernel
theorem dL_law_2645 : decode cL_law 2645 = .ok (.iload 7, 2) := by decide +kernel
theorem dL_law_2647 : decode cL_law 2647 = .ok (.i2l, 1) := by decide +kernel
theorem dL_law_2648 : decode cL_law 2648 = .ok (.lcmp, 1) := by decide +kernel
theorem dL_law_2649 : decode cL_law 2649 = .ok (.ifCond .eq 5, 3) := by decide +kernel
theorem dL_law_2654 : decode cL_law 2654 = .ok (.goto 739, 3) := by decide +kernel
set_option maxRecDepth 100000 in
set_option maxHeartbeats 4000000 in
theorem Lc_44 {p : Program} {l : Launch} {e : Env} {s : State} {m : MethodId} {args : Array Value} {below : List Frame} {meth : Method} {c : Code} {H : Heap} {locs : List Loc} {cells slots : Nat} {Q : State → Prop} {E : gE} {M : gM} {x : gX} {b0 L i k : Nat} {xs : Nat → Int32} {ls : Array Slot} (K : gLw p l s m args c E b0 L xs) (hi : i + 5 ≤ L) (hk : k ≤ 580) (hcs : cells + 4 ≤ 603072 ∧ slots + 24 ≤ 7186538) (hV : gInv k M) (hI : gI E s M x H locs) (hl : lv_has ls 9 (gLv E b0 i))
    (kk : ∀ M2 x2 H2 locs2 ls2, gInv (k + 1) M2 → gI E s M2 x2 H2 locs2 → lv_has ls2 9 (gLv E b0 i) → W p l e room_1 s m args below meth c H2 locs2 (cells + 4) (slots + 24) Q (F0 m 3393 ls2 [])) : W p l e room_1 s m args below meth c H locs cells slots Q (F0 m 2601 ls []) := by
  have hC := K.1
  have hx := hC.1
  have hb := hC.2.1
  have hst := K.2.2.1
  obtain ⟨oc, M1, z, b, M2, hf, hm, hz, ha, hV2⟩ := K_yardAt (xs (i + 1)) k M hk hV
  refine lv_aload_n hx hb dL_law_2601 rfl (lv_at hl 1 rfl) ?_
  refine g_arg K hI (j := 1) (by omega) (by decide) (lv_at hl 0 rfl) (lv_at hl 5 rfl) dL_law_2602 dL_law_2603 dL_law_2605 dL_law_2606 dL_law_2607 ?_
  refine lv_aload_n hx hb dL_law_2608 rfl (lv_at hl 3 rfl) ?_
  refine g_callH (n := 3) hC K.2.1 hI (H_yardAt l hst E x hf ha) w1014 w0 w1013 w1012 ⟨⟨by decide, by decide⟩, by decide +kernel⟩ ⟨rfl, rfl⟩ ⟨Nat.le_of_ble_eq_true rfl, Nat.le_of_ble_eq_true rfl⟩ rfl hl.1 rfl (Nat.le_of_ble_eq_true rfl) dL_law_2609 ⟨show cells + 1 ≤ 603072 by omega, show slots + 6 ≤ 7186538 by omega⟩ (fun H locs hI => ?_)
  refine lv_istore (lv' := (6, .int z) :: gLv E b0 i) hx hb dL_law_2612 hl (by decide) rfl (fun ls hl => ?_)
  refine lv_aload_n hx hb dL_law_2614 rfl (lv_at hl 3 rfl) ?_
  refine g_arg K hI (j := 1) (by omega) (by decide) (lv_at hl 1 rfl) (lv_at hl 6 rfl) dL_law_2615 dL_law_2616 dL_law_2618 dL_law_2619 dL_law_2620 ?_
  refine g_callVi hC hI (C_X7_yardAt l E _ hm) Y_X7_yardAt V_X7_yardAt w1707 (rcv_X7 hC hI) ⟨rfl, rfl⟩ ⟨Nat.le_of_ble_eq_true rfl, Nat.le_of_ble_eq_true rfl⟩ rfl hl.1 rfl (Nat.le_of_ble_eq_true rfl) dL_law_2621 ⟨show cells + 1 ≤ 603072 by omega, show slots + 6 ≤ 7186538 by omega⟩ (fun H locs hI => ?_)
  refine lv_istore (lv' := (7, .int b) :: (6, .int z) :: gLv E b0 i) hx hb dL_law_2624 hl (by decide) rfl (fun ls hl => ?_)
  refine g_tail_i K hI hz (fun h0 => ?_) hl ⟨show cells + 1 ≤ 603072 by omega, show slots + 6 ≤ 7186538 by omega⟩ (off := 739) (by decide) dL_law_2626 dL_law_2627 dL_law_2630 dL_law_2632 dL_law_2637 dL_law_2639 dL_law_2642 dL_law_2643 dL_law_2644 dL_law_2645 dL_law_2647 dL_law_2648 dL_law_2649 dL_law_2654 (fun H locs hI => ?_)
  · unfold gXo
    rw [if_pos h0]
    rfl
  · refine W.widen (k := cells + 4) (n := slots + 24) (by omega) (by omega) ?_
    exact kk M2 _ H locs ls hV2 hI (lv_sub hl [2, 3, 4, 5, 6, 7] rfl)
theorem dL_law_2657 : decode cL_law 2657 = .ok (.aload_n 1, 1) := by decide +kernel
theorem dL_law_2658 : decode cL_law 2658 = .ok (.aload_n 0, 1) := by decide +kernel
theorem dL_law_2659 : decode cL_law 2659 = .ok (.iload 5, 2) := by decide +kernel
theorem dL_law_2661 : decode cL_law 2661 = .ok (.iconst 1, 1) := by decide +kernel
theorem dL_law_2662 : decode cL_law 2662 = .ok (.iadd, 1) := by decide +kernel
theorem dL_law_2663 : decode cL_law 2663 = .ok (.iaload, 1) := by decide +kernel
theorem dL_law_2664 : decode cL_law 2664 = .ok (.aload_n 3, 1) := by decide +kernel
theorem dL_law_2665 : decode cL_law 2665 = .ok (.invokestatic 332, 3) := by decide +kernel
theorem dL_law_2668 : decode cL_law 2668 = .ok (.istore 6, 2) := by decide +kernel
theorem dL_law_2670 : decode cL_law 2670 = .ok (.aload_n 2, 1) := by decide +kernel
theorem dL_law_2671 : decode cL_law 2671 = .ok (.aload_n 0, 1) := by decide +kernel
theorem dL_law_2672 : decode cL_law 2672 = .ok (.iload 5, 2) := by decide +kernel
theorem dL_law_2674 : decode cL_law 2674 = .ok (.iconst 1, 1) := by decide +kernel
theorem dL_law_2675 : decode cL_law 2675 = .ok (.iadd, 1) := by decide +kernel
theorem dL_law_2676 : decode cL_law 2676 = .ok (.iaload, 1) := by decide +kernel
theorem dL_law_2677 : decode cL_law 2677 = .ok (.invokevirtual 334, 3) := by decide +kernel
theorem dL_law_2680 : decode cL_law 2680 = .ok (.istore 7, 2) := by decide +kernel
theorem dL_law_2682 : decode cL_law 2682 = .ok (.aload_n 2, 1) := by decide +kernel
theorem dL_law_2683 : decode cL_law 2683 = .ok (.invokevirtual 184, 3) := by decide +kernel
theorem dL_law_2686 : decode cL_law 2686 = .ok (.iload 6, 2) := by decide +kernel
theorem dL_law_2688 : decode cL_law 2688 = .ok (.if_icmp .eq 5, 3) := by decide +kernel
theorem dL_law_2693 : decode cL_law 2693 = .ok (.iload 6, 2) := by decide +kernel
theorem dL_law_2695 : decode cL_law 2695 = .ok (.ifCond .ne 15, 3) := by decide +kernel
theorem dL_law_2698 : decode cL_law 2698 = .ok (.aload_n 3, 1) := by decide +kernel
theorem dL_law_2699 : decode cL_law 2699 = .ok (.iconst 0, 1) := by decide +kernel
theorem dL_law_2700 : decode cL_law 2700 = .ok (.laload, 1) := by decide +kernel
theorem dL_law_2701 : decode cL_law 2701 = .ok (.iload 7, 2) := by decide +kernel
theorem dL_law_2703 : decode cL_law 2703 = .ok (.i2l, 1) := by decide +kernel
theorem dL_law_2704 : decode cL_law 2704 = .ok (.lcmp, 1) := by decide +kernel
theorem dL_law_2705 : decode cL_law 2705 = .ok (.ifCond .eq 5, 3) := by decide +kernel
theorem dL_law_2710 : decode cL_law 2710 = .ok (.goto 683, 3) := by decide +kernel
set_option maxRecDepth 100000 in
set_option maxHeartbeats 4000000 in
theorem Lc_45 {p : Program} {l : Launch} {e : Env} {s : State} {m : MethodId} {args : Array Value} {below : List Frame} {meth : Method} {c : Code} {H : Heap} {locs : List Loc} {cells slots : Nat} {Q : State → Prop} {E : gE} {M : gM} {x : gX} {b0 L i k : Nat} {xs : Nat → Int32} {ls : Array Slot} (K : gLw p l s m args c E b0 L xs) (hi : i + 5 ≤ L) (hk : k ≤ 580) (hcs : cells + 4 ≤ 603072 ∧ slots + 24 ≤ 7186538) (hV : gInv k M) (hI : gI E s M x H locs) (hl : lv_has ls 9 (gLv E b0 i))
    (kk : ∀ M2 x2 H2 locs2 ls2, gInv (k + 1) M2 → gI E s M2 x2 H2 locs2 → lv_has ls2 9 (gLv E b0 i) → W p l e room_1 s m args below meth c H2 locs2 (cells + 4) (slots + 24) Q (F0 m 3393 ls2 [])) : W p l e room_1 s m args below meth c H locs cells slots Q (F0 m 2657 ls []) := by
  have hC := K.1
  have hx := hC.1
  have hb := hC.2.1
  have hst := K.2.2.1
  obtain ⟨oc, M1, z, b, M2, hf, hm, hz, ha, hV2⟩ := K_feesAfter (xs (i + 1)) k M hk hV
  refine lv_aload_n hx hb dL_law_2657 rfl (lv_at hl 1 rfl) ?_
  refine g_arg K hI (j := 1) (by omega) (by decide) (lv_at hl 0 rfl) (lv_at hl 5 rfl) dL_law_2658 dL_law_2659 dL_law_2661 dL_law_2662 dL_law_2663 ?_
  refine lv_aload_n hx hb dL_law_2664 rfl (lv_at hl 3 rfl) ?_
  refine g_callH (n := 3) hC K.2.1 hI (H_feesAfter l hst E x hf ha) w1021 w0 w1020 w1019 ⟨⟨by decide, by decide⟩, by decide +kernel⟩ ⟨rfl, rfl⟩ ⟨Nat.le_of_ble_eq_true rfl, Nat.le_of_ble_eq_true rfl⟩ rfl hl.1 rfl (Nat.le_of_ble_eq_true rfl) dL_law_2665 ⟨show cells + 1 ≤ 603072 by omega, show slots + 6 ≤ 7186538 by omega⟩ (fun H locs hI => ?_)
  refine lv_istore (lv' := (6, .int z) :: gLv E b0 i) hx hb dL_law_2668 hl (by decide) rfl (fun ls hl => ?_)
  refine lv_aload_n hx hb dL_law_2670 rfl (lv_at hl 3 rfl) ?_
  refine g_arg K hI (j := 1) (by omega) (by decide) (lv_at hl 1 rfl) (lv_at hl 6 rfl) dL_law_2671 dL_law_2672 dL_law_2674 dL_law_2675 dL_law_2676 ?_
  refine g_callVi hC hI (C_X7_feesAfter l E _ hm) Y_X7_feesAfter V_X7_feesAfter w1711 (rcv_X7 hC hI) ⟨rfl, rfl⟩ ⟨Nat.le_of_ble_eq_true rfl, Nat.le_of_ble_eq_true rfl⟩ rfl hl.1 rfl (Nat.le_of_ble_eq_true rfl) dL_law_2677 ⟨show cells + 1 ≤ 603072 by omega, show slots + 6 ≤ 7186538 by omega⟩ (fun H locs hI => ?_)
  refine lv_istore (lv' := (7, .int b) :: (6, .int z) :: gLv E b0 i) hx hb dL_law_2680 hl (by decide) rfl (fun ls hl => ?_)
  refine g_tail_i K hI hz (fun h0 => ?_) hl ⟨show cells + 1 ≤ 603072 by omega, show slots + 6 ≤ 7186538 by omega⟩ (off := 683) (by decide) dL_law_2682 dL_law_2683 dL_law_2686 dL_law_2688 dL_law_2693 dL_law_2695 dL_law_2698 dL_law_2699 dL_law_2700 dL_law_2701 dL_law_2703 dL_law_2704 dL_law_2705 dL_law_2710 (fun H locs hI => ?_)
  · unfold gXo
    rw [if_pos h0]
    rfl
  · refine W.widen (k := cells + 4) (n := slots + 24) (by omega) (by omega) ?_
    exact kk M2 _ H locs ls hV2 hI (lv_sub hl [2, 3, 4, 5, 6, 7] rfl)
theorem dL_law_2713 : decode cL_law 2713 = .ok (.aload_n 1, 1) := by decide +kernel
theorem dL_law_2714 : decode cL_law 2714 = .ok (.invokevirtual 335, 3) := by decide +kernel
theorem dL_law_2717 : decode cL_law 2717 = .ok (.aload_n 2, 1) := by decide +kernel
theorem dL_law_2718 : decode cL_law 2718 = .ok (.invokevirtual 338, 3) := by decide +kernel
theorem dL_law_2721 : decode cL_law 2721 = .ok (.if_icmp .eq 672, 3) := by decide +kernel
set_option maxRecDepth 100000 in
set_option maxHeartbeats 4000000 in
theorem Lc_46 {p : Program} {l : Launch} {e : Env} {s : State} {m : MethodId} {args : Array Value} {below : List Frame} {meth : Method} {c : Code} {H : Heap} {locs : List Loc} {cells slots : Nat} {Q : State → Prop} {E : gE} {M : gM} {x : gX} {b0 L i k : Nat} {xs : Nat → Int32} {ls : Array Slot} (K : gLw p l s m args c E b0 L xs) (hi : i + 5 ≤ L) (hk : k ≤ 580) (hcs : cells + 4 ≤ 603072 ∧ slots + 24 ≤ 7186538) (hV : gInv k M) (hI : gI E s M x H locs) (hl : lv_has ls 9 (gLv E b0 i))
    (kk : ∀ M2 x2 H2 locs2 ls2, gInv (k + 1) M2 → gI E s M2 x2 H2 locs2 → lv_has ls2 9 (gLv E b0 i) → W p l e room_1 s m args below meth c H2 locs2 (cells + 4) (slots + 24) Q (F0 m 3393 ls2 [])) : W p l e room_1 s m args below meth c H locs cells slots Q (F0 m 2713 ls []) := by
  have hC := K.1
  have hx := hC.1
  have hb := hC.2.1
  have hst := K.2.2.1
  obtain ⟨b, M2, hf, hm, hz, hV2⟩ := K_fees k M hk hV
  refine lv_aload_n hx hb dL_law_2713 rfl (lv_at hl 1 rfl) ?_
  refine g_callVi hC hI (C_X6_fees l E x hf) Y_X6_fees V_X6_fees w333 (rcv_X6 hC hI) ⟨rfl, rfl⟩ ⟨Nat.le_of_ble_eq_true rfl, Nat.le_of_ble_eq_true rfl⟩ rfl hl.1 rfl (Nat.le_of_ble_eq_true rfl) dL_law_2714 ⟨show cells ≤ 603072 by omega, show slots ≤ 7186538 by omega⟩ (fun H locs hI => ?_)
  refine lv_aload_n hx hb dL_law_2717 rfl (lv_at hl 2 rfl) ?_
  refine g_callVi hC hI (C_X7_fees l E x hm) Y_X7_fees V_X7_fees w1715 (rcv_X7 hC hI) ⟨rfl, rfl⟩ ⟨Nat.le_of_ble_eq_true rfl, Nat.le_of_ble_eq_true rfl⟩ rfl hl.1 rfl (Nat.le_of_ble_eq_true rfl) dL_law_2718 ⟨show cells ≤ 603072 by omega, show slots ≤ 7186538 by omega⟩ (fun H locs hI => ?_)
  refine lv_icmp_eq (tgt := 3393) hx hb dL_law_2721 rfl (fun _ => ?_) (fun h => absurd rfl h)
  refine W.widen (k := cells + 4) (n := slots + 24) (by omega) (by omega) ?_
  exact kk M2 _ H locs ls hV2 hI hl
theorem dL_law_2726 : decode cL_law 2726 = .ok (.aload_n 1, 1) := by decide +kernel
theorem dL_law_2727 : decode cL_law 2727 = .ok (.invokevirtual 339, 3) := by decide +kernel
theorem dL_law_2730 : decode cL_law 2730 = .ok (.aload_n 2, 1) := by decide +kernel
theorem dL_law_2731 : decode cL_law 2731 = .ok (.invokevirtual 342, 3) := by decide +kernel
theorem dL_law_2734 : decode cL_law 2734 = .ok (.if_icmp .eq 659, 3) := by decide +kernel
set_option maxRecDepth 100000 in
set_option maxHeartbeats 4000000 in
theorem Lc_47 {p : Program} {l : Launch} {e : Env} {s : State} {m : MethodId} {args : Array Value} {below : List Frame} {meth : Method} {c : Code} {H : Heap} {locs : List Loc} {cells slots : Nat} {Q : State → Prop} {E : gE} {M : gM} {x : gX} {b0 L i k : Nat} {xs : Nat → Int32} {ls : Array Slot} (K : gLw p l s m args c E b0 L xs) (hi : i + 5 ≤ L) (hk : k ≤ 580) (hcs : cells + 4 ≤ 603072 ∧ slots + 24 ≤ 7186538) (hV : gInv k M) (hI : gI E s M x H locs) (hl : lv_has ls 9 (gLv E b0 i))
    (kk : ∀ M2 x2 H2 locs2 ls2, gInv (k + 1) M2 → gI E s M2 x2 H2 locs2 → lv_has ls2 9 (gLv E b0 i) → W p l e room_1 s m args below meth c H2 locs2 (cells + 4) (slots + 24) Q (F0 m 3393 ls2 [])) : W p l e room_1 s m args below meth c H locs cells slots Q (F0 m 2726 ls []) := by
  have hC := K.1
  have hx := hC.1
  have hb := hC.2.1
  have hst := K.2.2.1
  obtain ⟨b, M2, hf, hm, hz, hV2⟩ := K_clearedTotal k M hk hV
  refine lv_aload_n hx hb dL_law_2726 rfl (lv_at hl 1 rfl) ?_
  refine g_callVi hC hI (C_X6_clearedTotal l E x hf) Y_X6_clearedTotal V_X6_clearedTotal w337 (rcv_X6 hC hI) ⟨rfl, rfl⟩ ⟨Nat.le_of_ble_eq_true rfl, Nat.le_of_ble_eq_true rfl⟩ rfl hl.1 rfl (Nat.le_of_ble_eq_true rfl) dL_law_2727 ⟨show cells ≤ 603072 by omega, show slots ≤ 7186538 by omega⟩ (fun H locs hI => ?_)
  refine lv_aload_n hx hb dL_law_2730 rfl (lv_at hl 2 rfl) ?_
  refine g_callVi hC hI (C_X7_clearedTotal l E x hm) Y_X7_clearedTotal V_X7_clearedTotal w1719 (rcv_X7 hC hI) ⟨rfl, rfl⟩ ⟨Nat.le_of_ble_eq_true rfl, Nat.le_of_ble_eq_true rfl⟩ rfl hl.1 rfl (Nat.le_of_ble_eq_true rfl) dL_law_2731 ⟨show cells ≤ 603072 by omega, show slots ≤ 7186538 by omega⟩ (fun H locs hI => ?_)
  refine lv_icmp_eq (tgt := 3393) hx hb dL_law_2734 rfl (fun _ => ?_) (fun h => absurd rfl h)
  refine W.widen (k := cells + 4) (n := slots + 24) (by omega) (by omega) ?_
  exact kk M2 _ H locs ls hV2 hI hl
