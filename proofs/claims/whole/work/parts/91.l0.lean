theorem dL_law_28 : decode cL_law 28 = .ok (.iload 5, 2) := by decide +kernel
theorem dL_law_30 : decode cL_law 30 = .ok (.aload_n 0, 1) := by decide +kernel
theorem dL_law_31 : decode cL_law 31 = .ok (.arraylength, 1) := by decide +kernel
theorem dL_law_32 : decode cL_law 32 = .ok (.iconst 5, 1) := by decide +kernel
theorem dL_law_33 : decode cL_law 33 = .ok (.isub, 1) := by decide +kernel
theorem dL_law_34 : decode cL_law 34 = .ok (.if_icmp .gt 3365, 3) := by decide +kernel
theorem dL_law_37 : decode cL_law 37 = .ok (.aload_n 0, 1) := by decide +kernel
theorem dL_law_38 : decode cL_law 38 = .ok (.iload 5, 2) := by decide +kernel
theorem dL_law_40 : decode cL_law 40 = .ok (.iaload, 1) := by decide +kernel
theorem dL_law_41 : decode cL_law 41 = .ok (.bipush 63, 2) := by decide +kernel
theorem dL_law_43 : decode cL_law 43 = .ok (.iand, 1) := by decide +kernel
theorem dL_law_44 : decode cL_law 44 = .ok (.tableswitch 3349 0 63 #[272, 352, 444, 531, 611, 667, 723, 779, 792, 805, 818, 881, 937, 993, 1056, 1112, 1168, 1212, 1275, 1331, 1387, 1455, 1535, 1603, 1659, 1715, 1771, 1796, 1821, 1877, 1933, 1989, 2045, 2101, 2157, 2213, 2269, 2325, 2381, 2437, 2505, 2518, 2531, 2544, 2557, 2613, 2669, 2682, 2695, 2708, 2721, 2786, 2852, 2865, 2933, 2989, 3045, 3103, 3147, 3191, 3235, 3248, 3292, 3305], 272) := by decide +kernel
theorem dL_law_3393 : decode cL_law 3393 = .ok (.iinc 5 5, 3) := by decide +kernel
theorem dL_law_3396 : decode cL_law 3396 = .ok (.goto (-3368), 3) := by decide +kernel
theorem dL_law_3399 : decode cL_law 3399 = .ok (.iconst 1, 1) := by decide +kernel
theorem dL_law_3400 : decode cL_law 3400 = .ok (.ireturn, 1) := by decide +kernel
/-! The law's loop. -/
section GLOOP
variable {p : Program} {l : Launch} {e : Env} {s : State} {m : MethodId} {args : Array Value} {below : List Frame} {meth : Method} {c : Code} {Q : State → Prop} {E : gE} {b0 L : Nat} {xs : Nat → Int32}
theorem wlen {i : Nat} (hL : L ≤ 2560) (hi : i ≤ 2560) (h : ¬ nI L - 5 < nI i) : i + 5 ≤ L := by
  by_cases h5 : 5 ≤ L
  · have e1 : nI L - 5 = nI (L - 5) := by
      have : nI L = nI (L - 5) + nI 5 := by rw [nI_add]; congr 1; omega
      rw [this, show (5 : Int32) = nI 5 from rfl, Int32.add_sub_cancel]
    rw [e1, nI_ltI (by omega) (by omega)] at h
    omega
  · exfalso
    refine h ?_
    have h0 : nI L - 5 < 0 := by
      match L, h5 with
      | 0, _ => decide
      | 1, _ => decide
      | 2, _ => decide
      | 3, _ => decide
      | 4, _ => decide
      | L + 5, h5 => exact absurd (by omega) h5
    have h1 : 0 ≤ nI i := nI_pos' (by omega)
    exact Int32.lt_of_lt_of_le h0 h1
set_option maxRecDepth 100000 in
set_option maxHeartbeats 8000000 in
theorem law_loop (K : gLw p l s m args c E b0 L xs) (kx : ∀ (H : Heap) (locs : List Loc) (cells slots : Nat) (ls : Array Slot), cells ≤ 603072 → slots ≤ 7186538 → (∀ q ∈ locs, gA E q.base) → W p l e room_1 s m args below meth c H locs cells slots Q (F0 m 3399 ls [])) :
    ∀ (n k : Nat) (M : gM) (x : gX) (H : Heap) (locs : List Loc) (ls : Array Slot), L - 5 * k < n → k ≤ 512 → gInv k M → gI E s M x H locs → lv_has ls 9 (gLv E b0 (5 * k)) → W p l e room_1 s m args below meth c H locs (153 + 4 * k) (8326 + 24 * k) Q (F0 m 28 ls []) := by
  intro n
  induction n with
  | zero => intro k M x H locs ls hn; omega
  | succ n ih =>
    intro k M x H locs ls hn hk hV hI hl
    have hC := K.1
    have hx := hC.1
    have hb := hC.2.1
    obtain ⟨-, -, -, hX, hbl, hbA, hL⟩ := id K
    refine lv_iload hx hb dL_law_28 (lv_at hl 5 rfl) ?_
    refine lv_aload_n hx hb dL_law_30 rfl (lv_at hl 0 rfl) ?_
    refine va_slen hx hb hX hbl hbA hI.2 dL_law_31 ?_
    refine lv_iconst (v := 5) hx hb dL_law_32 (by decide) ?_
    refine lv_isub hx hb dL_law_33 ?_
    refine lv_icmp_gt (tgt := 3399) hx hb dL_law_34 (by decide) (fun h1 => ?_) (fun h1 => ?_)
    · exact kx H locs _ _ ls (by omega) (by omega) hI.2.2.2
    · have hi : 5 * k + 5 ≤ L := wlen hL (by omega) h1
      refine lv_aload_n hx hb dL_law_37 rfl (lv_at hl 0 rfl) ?_
      refine lv_iload hx hb dL_law_38 (lv_at hl 5 rfl) ?_
      refine va_sld hx hb hX hbl hbA hI.2 (vp_in_nI (n := 5 * k) (by omega) (by omega)) dL_law_40 ?_
      refine lv_bipush (v := 63) hx hb dL_law_41 (by decide) ?_
      refine lv_iand hx hb dL_law_43 ?_
      obtain ⟨j, hj, ej⟩ := pk_andE (xs (nI (5 * k)).toNatClampNeg) (m := 63) 6 rfl
      rw [ej]
      have hk3 : ∀ (M2 : gM) (x2 : gX) (H2 : Heap) (locs2 : List Loc) (ls2 : Array Slot), gInv (k + 1) M2 → gI E s M2 x2 H2 locs2 → lv_has ls2 9 (gLv E b0 (5 * k)) → W p l e room_1 s m args below meth c H2 locs2 (153 + 4 * k + 4) (8326 + 24 * k + 24) Q (F0 m 3393 ls2 []) := by
        intro M2 x2 H2 locs2 ls2 hV2 hI2 hl2
        refine lv_iinc (v := nI (5 * (k + 1))) (lv' := [(5, .int (nI (5 * (k + 1)))), (0, .ref b0), (1, .ref (E.2.1 132)), (2, .ref (E.2.1 150)), (3, .ref (E.2.1 159)), (4, .ref (E.2.1 160))]) hx hb dL_law_3393 hl2 (k := 5) rfl (by rw [show (5 * (k + 1)) = 5 * k + 5 by omega, ← nI_add]; rfl) (by decide) rfl (fun ls hl => ?_)
        refine lv_goto (tgt := 28) hx hb dL_law_3396 (by decide) ?_
        rw [show 153 + 4 * k + 4 = 153 + 4 * (k + 1) by omega, show 8326 + 24 * k + 24 = 8326 + 24 * (k + 1) by omega]
        exact ih (k + 1) M2 x2 H2 locs2 ls (by omega) (by omega) hV2 hI2 (lv_sub hl [1, 2, 3, 4, 5, 0] rfl)
      match j, (show j < 64 from hj) with
        | 0, _ => exact g_tabK (k := nI 0) (tgt := 316) hC dL_law_44 rfl (by decide) (by decide) rfl (by decide) (Lc_0 K (by omega) (by omega) (by omega) hV hI hl hk3)
        | 1, _ => exact g_tabK (k := nI 1) (tgt := 396) hC dL_law_44 rfl (by decide) (by decide) rfl (by decide) (Lc_1 K (by omega) (by omega) (by omega) hV hI hl hk3)
        | 2, _ => exact g_tabK (k := nI 2) (tgt := 488) hC dL_law_44 rfl (by decide) (by decide) rfl (by decide) (Lc_2 K (by omega) (by omega) (by omega) hV hI hl hk3)
        | 3, _ => exact g_tabK (k := nI 3) (tgt := 575) hC dL_law_44 rfl (by decide) (by decide) rfl (by decide) (Lc_3 K (by omega) (by omega) (by omega) hV hI hl hk3)
        | 4, _ => exact g_tabK (k := nI 4) (tgt := 655) hC dL_law_44 rfl (by decide) (by decide) rfl (by decide) (Lc_4 K (by omega) (by omega) (by omega) hV hI hl hk3)
        | 5, _ => exact g_tabK (k := nI 5) (tgt := 711) hC dL_law_44 rfl (by decide) (by decide) rfl (by decide) (Lc_5 K (by omega) (by omega) (by omega) hV hI hl hk3)
        | 6, _ => exact g_tabK (k := nI 6) (tgt := 767) hC dL_law_44 rfl (by decide) (by decide) rfl (by decide) (Lc_6 K (by omega) (by omega) (by omega) hV hI hl hk3)
        | 7, _ => exact g_tabK (k := nI 7) (tgt := 823) hC dL_law_44 rfl (by decide) (by decide) rfl (by decide) (Lc_7 K (by omega) (by omega) (by omega) hV hI hl hk3)
        | 8, _ => exact g_tabK (k := nI 8) (tgt := 836) hC dL_law_44 rfl (by decide) (by decide) rfl (by decide) (Lc_8 K (by omega) (by omega) (by omega) hV hI hl hk3)
        | 9, _ => exact g_tabK (k := nI 9) (tgt := 849) hC dL_law_44 rfl (by decide) (by decide) rfl (by decide) (Lc_9 K (by omega) (by omega) (by omega) hV hI hl hk3)
        | 10, _ => exact g_tabK (k := nI 10) (tgt := 862) hC dL_law_44 rfl (by decide) (by decide) rfl (by decide) (Lc_10 K (by omega) (by omega) (by omega) hV hI hl hk3)
        | 11, _ => exact g_tabK (k := nI 11) (tgt := 925) hC dL_law_44 rfl (by decide) (by decide) rfl (by decide) (Lc_11 K (by omega) (by omega) (by omega) hV hI hl hk3)
        | 12, _ => exact g_tabK (k := nI 12) (tgt := 981) hC dL_law_44 rfl (by decide) (by decide) rfl (by decide) (Lc_12 K (by omega) (by omega) (by omega) hV hI hl hk3)
        | 13, _ => exact g_tabK (k := nI 13) (tgt := 1037) hC dL_law_44 rfl (by decide) (by decide) rfl (by decide) (Lc_13 K (by omega) (by omega) (by omega) hV hI hl hk3)
        | 14, _ => exact g_tabK (k := nI 14) (tgt := 1100) hC dL_law_44 rfl (by decide) (by decide) rfl (by decide) (Lc_14 K (by omega) (by omega) (by omega) hV hI hl hk3)
        | 15, _ => exact g_tabK (k := nI 15) (tgt := 1156) hC dL_law_44 rfl (by decide) (by decide) rfl (by decide) (Lc_15 K (by omega) (by omega) (by omega) hV hI hl hk3)
        | 16, _ => exact g_tabK (k := nI 16) (tgt := 1212) hC dL_law_44 rfl (by decide) (by decide) rfl (by decide) (Lc_16 K (by omega) (by omega) (by omega) hV hI hl hk3)
        | 17, _ => exact g_tabK (k := nI 17) (tgt := 1256) hC dL_law_44 rfl (by decide) (by decide) rfl (by decide) (Lc_17 K (by omega) (by omega) (by omega) hV hI hl hk3)
        | 18, _ => exact g_tabK (k := nI 18) (tgt := 1319) hC dL_law_44 rfl (by decide) (by decide) rfl (by decide) (Lc_18 K (by omega) (by omega) (by omega) hV hI hl hk3)
        | 19, _ => exact g_tabK (k := nI 19) (tgt := 1375) hC dL_law_44 rfl (by decide) (by decide) rfl (by decide) (Lc_19 K (by omega) (by omega) (by omega) hV hI hl hk3)
        | 20, _ => exact g_tabK (k := nI 20) (tgt := 1431) hC dL_law_44 rfl (by decide) (by decide) rfl (by decide) (Lc_20 K (by omega) (by omega) (by omega) hV hI hl hk3)
        | 21, _ => exact g_tabK (k := nI 21) (tgt := 1499) hC dL_law_44 rfl (by decide) (by decide) rfl (by decide) (Lc_21 K (by omega) (by omega) (by omega) hV hI hl hk3)
        | 22, _ => exact g_tabK (k := nI 22) (tgt := 1579) hC dL_law_44 rfl (by decide) (by decide) rfl (by decide) (Lc_22 K (by omega) (by omega) (by omega) hV hI hl hk3)
        | 23, _ => exact g_tabK (k := nI 23) (tgt := 1647) hC dL_law_44 rfl (by decide) (by decide) rfl (by decide) (Lc_23 K (by omega) (by omega) (by omega) hV hI hl hk3)
        | 24, _ => exact g_tabK (k := nI 24) (tgt := 1703) hC dL_law_44 rfl (by decide) (by decide) rfl (by decide) (Lc_24 K (by omega) (by omega) (by omega) hV hI hl hk3)
        | 25, _ => exact g_tabK (k := nI 25) (tgt := 1759) hC dL_law_44 rfl (by decide) (by decide) rfl (by decide) (Lc_25 K (by omega) (by omega) (by omega) hV hI hl hk3)
        | 26, _ => exact g_tabK (k := nI 26) (tgt := 1815) hC dL_law_44 rfl (by decide) (by decide) rfl (by decide) (Lc_26 K (by omega) (by omega) (by omega) hV hI hl hk3)
        | 27, _ => exact g_tabK (k := nI 27) (tgt := 1840) hC dL_law_44 rfl (by decide) (by decide) rfl (by decide) (Lc_27 K (by omega) (by omega) (by omega) hV hI hl hk3)
        | 28, _ => exact g_tabK (k := nI 28) (tgt := 1865) hC dL_law_44 rfl (by decide) (by decide) rfl (by decide) (Lc_28 K (by omega) (by omega) (by omega) hV hI hl hk3)
        | 29, _ => exact g_tabK (k := nI 29) (tgt := 1921) hC dL_law_44 rfl (by decide) (by decide) rfl (by decide) (Lc_29 K (by omega) (by omega) (by omega) hV hI hl hk3)
        | 30, _ => exact g_tabK (k := nI 30) (tgt := 1977) hC dL_law_44 rfl (by decide) (by decide) rfl (by decide) (Lc_30 K (by omega) (by omega) (by omega) hV hI hl hk3)
        | 31, _ => exact g_tabK (k := nI 31) (tgt := 2033) hC dL_law_44 rfl (by decide) (by decide) rfl (by decide) (Lc_31 K (by omega) (by omega) (by omega) hV hI hl hk3)
        | 32, _ => exact g_tabK (k := nI 32) (tgt := 2089) hC dL_law_44 rfl (by decide) (by decide) rfl (by decide) (Lc_32 K (by omega) (by omega) (by omega) hV hI hl hk3)
        | 33, _ => exact g_tabK (k := nI 33) (tgt := 2145) hC dL_law_44 rfl (by decide) (by decide) rfl (by decide) (Lc_33 K (by omega) (by omega) (by omega) hV hI hl hk3)
        | 34, _ => exact g_tabK (k := nI 34) (tgt := 2201) hC dL_law_44 rfl (by decide) (by decide) rfl (by decide) (Lc_34 K (by omega) (by omega) (by omega) hV hI hl hk3)
        | 35, _ => exact g_tabK (k := nI 35) (tgt := 2257) hC dL_law_44 rfl (by decide) (by decide) rfl (by decide) (Lc_35 K (by omega) (by omega) (by omega) hV hI hl hk3)
        | 36, _ => exact g_tabK (k := nI 36) (tgt := 2313) hC dL_law_44 rfl (by decide) (by decide) rfl (by decide) (Lc_36 K (by omega) (by omega) (by omega) hV hI hl hk3)
        | 37, _ => exact g_tabK (k := nI 37) (tgt := 2369) hC dL_law_44 rfl (by decide) (by decide) rfl (by decide) (Lc_37 K (by omega) (by omega) (by omega) hV hI hl hk3)
        | 38, _ => exact g_tabK (k := nI 38) (tgt := 2425) hC dL_law_44 rfl (by decide) (by decide) rfl (by decide) (Lc_38 K (by omega) (by omega) (by omega) hV hI hl hk3)
        | 39, _ => exact g_tabK (k := nI 39) (tgt := 2481) hC dL_law_44 rfl (by decide) (by decide) rfl (by decide) (Lc_39 K (by omega) (by omega) (by omega) hV hI hl hk3)
        | 40, _ => exact g_tabK (k := nI 40) (tgt := 2549) hC dL_law_44 rfl (by decide) (by decide) rfl (by decide) (Lc_40 K (by omega) (by omega) (by omega) hV hI hl hk3)
        | 41, _ => exact g_tabK (k := nI 41) (tgt := 2562) hC dL_law_44 rfl (by decide) (by decide) rfl (by decide) (Lc_41 K (by omega) (by omega) (by omega) hV hI hl hk3)
        | 42, _ => exact g_tabK (k := nI 42) (tgt := 2575) hC dL_law_44 rfl (by decide) (by decide) rfl (by decide) (Lc_42 K (by omega) (by omega) (by omega) hV hI hl hk3)
        | 43, _ => exact g_tabK (k := nI 43) (tgt := 2588) hC dL_law_44 rfl (by decide) (by decide) rfl (by decide) (Lc_43 K (by omega) (by omega) (by omega) hV hI hl hk3)
        | 44, _ => exact g_tabK (k := nI 44) (tgt := 2601) hC dL_law_44 rfl (by decide) (by decide) rfl (by decide) (Lc_44 K (by omega) (by omega) (by omega) hV hI hl hk3)
        | 45, _ => exact g_tabK (k := nI 45) (tgt := 2657) hC dL_law_44 rfl (by decide) (by decide) rfl (by decide) (Lc_45 K (by omega) (by omega) (by omega) hV hI hl hk3)
        | 46, _ => exact g_tabK (k := nI 46) (tgt := 2713) hC dL_law_44 rfl (by decide) (by decide) rfl (by decide) (Lc_46 K (by omega) (by omega) (by omega) hV hI hl hk3)
        | 47, _ => exact g_tabK (k := nI 47) (tgt := 2726) hC dL_law_44 rfl (by decide) (by decide) rfl (by decide) (Lc_47 K (by omega) (by omega) (by omega) hV hI hl hk3)
        | 48, _ => exact g_tabK (k := nI 48) (tgt := 2739) hC dL_law_44 rfl (by decide) (by decide) rfl (by decide) (Lc_48 K (by omega) (by omega) (by omega) hV hI hl hk3)
        | 49, _ => exact g_tabK (k := nI 49) (tgt := 2752) hC dL_law_44 rfl (by decide) (by decide) rfl (by decide) (Lc_49 K (by omega) (by omega) (by omega) hV hI hl hk3)
        | 50, _ => exact g_tabK (k := nI 50) (tgt := 2765) hC dL_law_44 rfl (by decide) (by decide) rfl (by decide) (Lc_50 K (by omega) (by omega) (by omega) hV hI hl hk3)
        | 51, _ => exact g_tabK (k := nI 51) (tgt := 2830) hC dL_law_44 rfl (by decide) (by decide) rfl (by decide) (Lc_51 K (by omega) (by omega) (by omega) hV hI hl hk3)
        | 52, _ => exact g_tabK (k := nI 52) (tgt := 2896) hC dL_law_44 rfl (by decide) (by decide) rfl (by decide) (Lc_52 K (by omega) (by omega) (by omega) hV hI hl hk3)
        | 53, _ => exact g_tabK (k := nI 53) (tgt := 2909) hC dL_law_44 rfl (by decide) (by decide) rfl (by decide) (Lc_53 K (by omega) (by omega) (by omega) hV hI hl hk3)
        | 54, _ => exact g_tabK (k := nI 54) (tgt := 2977) hC dL_law_44 rfl (by decide) (by decide) rfl (by decide) (Lc_54 K (by omega) (by omega) (by omega) hV hI hl hk3)
        | 55, _ => exact g_tabK (k := nI 55) (tgt := 3033) hC dL_law_44 rfl (by decide) (by decide) rfl (by decide) (Lc_55 K (by omega) (by omega) (by omega) hV hI hl hk3)
        | 56, _ => exact g_tabK (k := nI 56) (tgt := 3089) hC dL_law_44 rfl (by decide) (by decide) rfl (by decide) (Lc_56 K (by omega) (by omega) (by omega) hV hI hl hk3)
        | 57, _ => exact g_tabK (k := nI 57) (tgt := 3147) hC dL_law_44 rfl (by decide) (by decide) rfl (by decide) (Lc_57 K (by omega) (by omega) (by omega) hV hI hl hk3)
        | 58, _ => exact g_tabK (k := nI 58) (tgt := 3191) hC dL_law_44 rfl (by decide) (by decide) rfl (by decide) (Lc_58 K (by omega) (by omega) (by omega) hV hI hl hk3)
        | 59, _ => exact g_tabK (k := nI 59) (tgt := 3235) hC dL_law_44 rfl (by decide) (by decide) rfl (by decide) (Lc_59 K (by omega) (by omega) (by omega) hV hI hl hk3)
        | 60, _ => exact g_tabK (k := nI 60) (tgt := 3279) hC dL_law_44 rfl (by decide) (by decide) rfl (by decide) (Lc_60 K (by omega) (by omega) (by omega) hV hI hl hk3)
        | 61, _ => exact g_tabK (k := nI 61) (tgt := 3292) hC dL_law_44 rfl (by decide) (by decide) rfl (by decide) (Lc_61 K (by omega) (by omega) (by omega) hV hI hl hk3)
        | 62, _ => exact g_tabK (k := nI 62) (tgt := 3336) hC dL_law_44 rfl (by decide) (by decide) rfl (by decide) (Lc_62 K (by omega) (by omega) (by omega) hV hI hl hk3)
        | 63, _ => exact g_tabK (k := nI 63) (tgt := 3349) hC dL_law_44 rfl (by decide) (by decide) rfl (by decide) (Lc_63 K (by omega) (by omega) (by omega) hV hI hl hk3)
        | j + 64, h => exact absurd h (by omega)
end GLOOP
