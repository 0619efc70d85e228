/-! String.length and String.charAt, of the words that the commands are read by. -/
theorem gW_ch7 : ∀ k : Nat, k < 7 → ∀ i : Nat, i < gWl.getD k 0 → ((((gWb.getD k []).getD i 0) &&& 255).toUInt32 % 65536).toInt32 = (gWb.getD k []).getD i 0 ∧ 0 ≤ ((gWb.getD k []).getD i 0).toInt ∧ ((gWb.getD k []).getD i 0).toInt < 65536 := by decide +kernel
theorem gL_7 (E : gE) {k : Nat} (hk : k < 7) : (gLs E).getD k 0 = gWl.getD k 0 := by
  unfold gLs
  rw [List.getD_eq_getElem?_getD, List.getD_eq_getElem?_getD, List.getElem?_append_left (show k < gWl.length from hk)]
theorem gB_7 (E : gE) {k : Nat} (hk : k < 7) : (gBs E).getD k [] = gWb.getD k [] := by
  unfold gBs
  rw [List.getD_eq_getElem?_getD, List.getD_eq_getElem?_getD, List.getElem?_append_left (show k < gWb.length from hk)]
theorem gL_x (E : gE) (j : Nat) : (gLs E).getD (7 + j) 0 = ((E.2.2.2.2.2.map List.length)[j]?).getD 0 := by
  unfold gLs
  rw [List.getD_eq_getElem?_getD, List.getElem?_append_right (show gWl.length ≤ 7 + j from Nat.le_add_right 7 j), show 7 + j - gWl.length = j from Nat.add_sub_cancel_left 7 j]
theorem gB_x (E : gE) (j : Nat) : (gBs E).getD (7 + j) [] = (E.2.2.2.2.2[j]?).getD [] := by
  unfold gBs
  rw [List.getD_eq_getElem?_getD, List.getElem?_append_right (show gWb.length ≤ 7 + j from Nat.le_add_right 7 j), show 7 + j - gWb.length = j from Nat.add_sub_cancel_left 7 j]
theorem gch_128 : ∀ n : Nat, n < 128 → (((nI n) &&& 255).toUInt32 % 65536).toInt32 = nI n ∧ 0 ≤ (nI n).toInt ∧ (nI n).toInt < 65536 := by decide +kernel
theorem gW_ch {E : gE} (hs : ∀ t ∈ E.2.2.2.2.2, t.length < 1000 ∧ ∀ b ∈ t, ∃ n, n < 128 ∧ b = nI n) {k : Nat} (hk : k < gNs E) (i : Nat) (hi : i < (gLs E).getD k 0) : ((((gBs E).getD k []).getD i 0 &&& 255).toUInt32 % 65536).toInt32 = ((gBs E).getD k []).getD i 0 ∧ 0 ≤ (((gBs E).getD k []).getD i 0).toInt ∧ (((gBs E).getD k []).getD i 0).toInt < 65536 := by
  by_cases h7 : k < 7
  · rw [gL_7 E h7] at hi
    rw [gB_7 E h7]
    exact gW_ch7 k h7 i hi
  · obtain ⟨j, rfl⟩ : ∃ j, k = 7 + j := ⟨k - 7, by omega⟩
    have hj : j < E.2.2.2.2.2.length := by
      have : 7 + j < 7 + E.2.2.2.2.2.length := hk
      omega
    rw [gL_x, List.getElem?_map, List.getElem?_eq_getElem hj] at hi
    rw [gB_x, List.getElem?_eq_getElem hj]
    obtain ⟨n, hn, e⟩ := (hs _ (List.getElem_mem hj)).2 _ (List.getElem_mem (show i < (E.2.2.2.2.2[j]).length from hi))
    have e2 : ((some E.2.2.2.2.2[j]).getD []).getD i 0 = nI n := by
      rw [Option.getD_some, List.getD_eq_getElem?_getD, List.getElem?_eq_getElem (show i < (E.2.2.2.2.2[j]).length from hi), Option.getD_some, e]
    rw [e2]
    exact gch_128 n hn
section GVB
variable {p : Program} {l : Launch} {e : Env} {R : Room} {s : State} {m : MethodId} {args : Array Value} {below : List Frame} {meth : Method} {c : Code} {H : Heap} {locs : List Loc} {cells slots : Nat} {Q : State → Prop}
variable {E : gE} {M M' : gM} {x : gX} {cc : ByteArray} {own : String} {nL pc : Nat} {ls : Array Slot} {rest : List Value}
variable {y : MethodName} {bytes : ByteArray} {maxL n index : Nat} {ret : Option FieldType} {rm : Room} {As st0 : List Value} {r : Int32}
theorem g_callVbi (hC : gC p s m args c cc nL own E) (hI : gI E s M x H locs) {b : Nat} (hM : gM0 l E y (.code y bytes maxL ret) rm M x (.ref b :: As) (some (.int r)) M') (hy : gY y bytes maxL ret n) (hi : Cond.instanceMethod y ∈ gU ∧ Cond.selects y.cls y y ∈ gU) (hl : Cond.methodLink own index y ∈ gU) (hr : ∃ cell : Cell, H[b]? = some cell ∧ cell.vm.isStatics = false ∧ s.vm.findClass y.cls = some cell.cls) (h0 : rm.cells = 0 ∧ rm.slots = 0) (hR : rm.frames + 1 ≤ R.frames ∧ 8 + (maxL + 11) + rm.locals ≤ R.locals)
    (hn : As.length = n) (hls : ls.size = nL) (hst : st0 = As.reverse ++ .ref b :: rest) (hW : (rest.map fun v => v.category).sum ≤ 8) (hdg : decode cc pc = .ok (.invokevirtual index, 3)) (hcs : cells ≤ R.cells ∧ slots ≤ R.slots)
    (kk : ∀ H1 locs1, gI E s M' x H1 locs1 → W p l e R s m args below meth c H1 locs1 cells slots Q (F0 m (pc + 3) ls (.int r :: rest))) : W p l e R s m args below meth c H locs cells slots Q (F0 m pc ls st0) := g_callVb hC hI hM hy hi hl hr h0 hR hn hls hst hW hdg hcs kk
end GVB
theorem Y_J0_length_8abf5 : gY yJ0_length_8abf5 cJ0_length_8abf5 1 (some .int) 0 := ⟨w929, w13, ⟨by decide, by decide⟩, by decide +kernel⟩
theorem V_J0_length_8abf5 : Cond.instanceMethod yJ0_length_8abf5 ∈ gU ∧ Cond.selects yJ0_length_8abf5.cls yJ0_length_8abf5 yJ0_length_8abf5 ∈ gU := ⟨w927, sel_J0_length⟩
theorem Y_J0_charAt_5068e : gY yJ0_charAt_5068e cJ0_charAt_5068e 2 (some .char) 1 := ⟨w939, w13, ⟨by decide, by decide⟩, by decide +kernel⟩
theorem V_J0_charAt_5068e : Cond.instanceMethod yJ0_charAt_5068e ∈ gU ∧ Cond.selects yJ0_charAt_5068e.cls yJ0_charAt_5068e yJ0_charAt_5068e ∈ gU := ⟨w937, sel_J0_charAt⟩
theorem Y_J0_coder_7d493 : gY yJ0_coder_7d493 cJ0_coder_7d493 1 (some .byte) 0 := ⟨w933, w13, ⟨by decide, by decide⟩, by decide +kernel⟩
theorem V_J0_coder_7d493 : Cond.instanceMethod yJ0_coder_7d493 ∈ gU ∧ Cond.selects yJ0_coder_7d493.cls yJ0_coder_7d493 yJ0_coder_7d493 ∈ gU := ⟨w931, sel_J0_coder⟩
theorem Y_J0_isLatin1_aae02 : gY yJ0_isLatin1_aae02 cJ0_isLatin1_aae02 1 (some .boolean) 0 := ⟨w943, w13, ⟨by decide, by decide⟩, by decide +kernel⟩
theorem V_J0_isLatin1_aae02 : Cond.instanceMethod yJ0_isLatin1_aae02 ∈ gU ∧ Cond.selects yJ0_isLatin1_aae02.cls yJ0_isLatin1_aae02 yJ0_isLatin1_aae02 ∈ gU := ⟨w941, sel_J0_isLatin1⟩
theorem Y_J0_checkIndex_df160 : gY yJ0_checkIndex_df160 cJ0_checkIndex_df160 2 none 2 := ⟨w949, w13, ⟨by decide, by decide⟩, by decide +kernel⟩
theorem S_J0_checkIndex_df160 : Cond.static yJ0_checkIndex_df160 ∈ gU := w948
theorem Y_J1_charAt_3b067 : gY yJ1_charAt_3b067 cJ1_charAt_3b067 2 (some .char) 2 := ⟨w946, w28, ⟨by decide, by decide⟩, by decide +kernel⟩
theorem S_J1_charAt_3b067 : Cond.static yJ1_charAt_3b067 ∈ gU := w945
theorem Y_J3_checkIndex_8e157 : gY yJ3_checkIndex_8e157 cJ3_checkIndex_8e157 3 (some .int) 3 := ⟨w954, w29, ⟨by decide, by decide⟩, by decide +kernel⟩
theorem S_J3_checkIndex_8e157 : Cond.static yJ3_checkIndex_8e157 ∈ gU := w953
theorem dJ0_coder_7d493_0 : decode cJ0_coder_7d493 0 = .ok (.getstatic 38, 3) := by decide +kernel
theorem dJ0_coder_7d493_3 : decode cJ0_coder_7d493 3 = .ok (.ifCond .eq 10, 3) := by decide +kernel
theorem dJ0_coder_7d493_6 : decode cJ0_coder_7d493 6 = .ok (.aload_n 0, 1) := by decide +kernel
theorem dJ0_coder_7d493_7 : decode cJ0_coder_7d493 7 = .ok (.getfield 15, 3) := by decide +kernel
theorem dJ0_coder_7d493_10 : decode cJ0_coder_7d493 10 = .ok (.goto 4, 3) := by decide +kernel
theorem dJ0_coder_7d493_13 : decode cJ0_coder_7d493 13 = .ok (.iconst 1, 1) := by decide +kernel
theorem dJ0_coder_7d493_14 : decode cJ0_coder_7d493 14 = .ok (.ireturn, 1) := by decide +kernel
theorem C_S_coder (l : Launch) (E : gE) (x : gX) {k : Nat} (hk : k < gNs E) {M : gM} : gM0 l E yJ0_coder_7d493 (.code yJ0_coder_7d493 cJ0_coder_7d493 1 (some .byte)) (gR 0 0) M x [.ref (E.2.2.2.1 k)] (some (.int 0)) M := by
  refine gMet (by decide +kernel) (Nat.le_of_ble_eq_true rfl) ?_
  intro p e s m args below meth c H locs ls Q hC hl hI kr kv
  replace hC : gC p s m args c cJ0_coder_7d493 1 "java/lang/String" E := hC
  replace hl : lv_has ls 1 [(0, .ref (E.2.2.2.1 k))] := hl
  have hx := hC.1
  have hb := hC.2.1
  have hown := hC.2.2.2.1
  have hts := hC.2.2.2.2.1
  have h0 := hC.2.2.2.2.2
  obtain ⟨hK, hinj, hNF, hNM, hThr, hTx, hWd, hVS, hFw, hCS, hSF⟩ := h0
  refine va_gets hx hb hCS hI.2 hown (hts _ w934) (fun _ h => h) dJ0_coder_7d493_0 ?_
  refine lv_if_eq (tgt := 13) hx hb dJ0_coder_7d493_3 rfl (fun h => absurd h (by decide)) (fun _ => ?_)
  refine lv_aload_n hx hb dJ0_coder_7d493_6 rfl (lv_at hl 0 rfl) ?_
  refine vk_getf hx hb (hVS.1 k hk).2.1 hI.2 hown (hts _ w1567) (fun _ h => h) dJ0_coder_7d493_7 ?_
  refine lv_goto (tgt := 14) hx hb dJ0_coder_7d493_10 rfl ?_
  exact kr _ _ _ _ _ _ rfl hI ⟨.byte, rfl, rfl⟩ dJ0_coder_7d493_14
theorem dJ0_isLatin1_aae02_0 : decode cJ0_isLatin1_aae02 0 = .ok (.getstatic 38, 3) := by decide +kernel
theorem dJ0_isLatin1_aae02_3 : decode cJ0_isLatin1_aae02 3 = .ok (.ifCond .eq 14, 3) := by decide +kernel
theorem dJ0_isLatin1_aae02_6 : decode cJ0_isLatin1_aae02 6 = .ok (.aload_n 0, 1) := by decide +kernel
theorem dJ0_isLatin1_aae02_7 : decode cJ0_isLatin1_aae02 7 = .ok (.getfield 15, 3) := by decide +kernel
theorem dJ0_isLatin1_aae02_10 : decode cJ0_isLatin1_aae02 10 = .ok (.ifCond .ne 7, 3) := by decide +kernel
theorem dJ0_isLatin1_aae02_13 : decode cJ0_isLatin1_aae02 13 = .ok (.iconst 1, 1) := by decide +kernel
theorem dJ0_isLatin1_aae02_14 : decode cJ0_isLatin1_aae02 14 = .ok (.goto 4, 3) := by decide +kernel
theorem dJ0_isLatin1_aae02_17 : decode cJ0_isLatin1_aae02 17 = .ok (.iconst 0, 1) := by decide +kernel
theorem dJ0_isLatin1_aae02_18 : decode cJ0_isLatin1_aae02 18 = .ok (.ireturn, 1) := by decide +kernel
theorem C_S_isLatin1 (l : Launch) (E : gE) (x : gX) {k : Nat} (hk : k < gNs E) {M : gM} : gM0 l E yJ0_isLatin1_aae02 (.code yJ0_isLatin1_aae02 cJ0_isLatin1_aae02 1 (some .boolean)) (gR 0 0) M x [.ref (E.2.2.2.1 k)] (some (.int 1)) M := by
  refine gMet (by decide +kernel) (Nat.le_of_ble_eq_true rfl) ?_
  intro p e s m args below meth c H locs ls Q hC hl hI kr kv
  replace hC : gC p s m args c cJ0_isLatin1_aae02 1 "java/lang/String" E := hC
  replace hl : lv_has ls 1 [(0, .ref (E.2.2.2.1 k))] := hl
  have hx := hC.1
  have hb := hC.2.1
  have hown := hC.2.2.2.1
  have hts := hC.2.2.2.2.1
  have h0 := hC.2.2.2.2.2
  obtain ⟨hK, hinj, hNF, hNM, hThr, hTx, hWd, hVS, hFw, hCS, hSF⟩ := h0
  refine va_gets hx hb hCS hI.2 hown (hts _ w934) (fun _ h => h) dJ0_isLatin1_aae02_0 ?_
  refine lv_if_eq (tgt := 17) hx hb dJ0_isLatin1_aae02_3 rfl (fun h => absurd h (by decide)) (fun _ => ?_)
  refine lv_aload_n hx hb dJ0_isLatin1_aae02_6 rfl (lv_at hl 0 rfl) ?_
  refine vk_getf hx hb (hVS.1 k hk).2.1 hI.2 hown (hts _ w1567) (fun _ h => h) dJ0_isLatin1_aae02_7 ?_
  refine lv_if_ne (tgt := 17) hx hb dJ0_isLatin1_aae02_10 rfl (fun h => absurd rfl h) (fun _ => ?_)
  refine lv_iconst (v := 1) hx hb dJ0_isLatin1_aae02_13 (by decide) ?_
  refine lv_goto (tgt := 18) hx hb dJ0_isLatin1_aae02_14 rfl ?_
  exact kr _ _ _ _ _ _ rfl hI ⟨.boolean, rfl, rfl⟩ dJ0_isLatin1_aae02_18
theorem dJ0_length_8abf5_0 : decode cJ0_length_8abf5 0 = .ok (.aload_n 0, 1) := by decide +kernel
theorem dJ0_length_8abf5_1 : decode cJ0_length_8abf5 1 = .ok (.getfield 9, 3) := by decide +kernel
theorem dJ0_length_8abf5_4 : decode cJ0_length_8abf5 4 = .ok (.arraylength, 1) := by decide +kernel
theorem dJ0_length_8abf5_5 : decode cJ0_length_8abf5 5 = .ok (.aload_n 0, 1) := by decide +kernel
theorem dJ0_length_8abf5_6 : decode cJ0_length_8abf5 6 = .ok (.invokevirtual 335, 3) := by decide +kernel
theorem dJ0_length_8abf5_9 : decode cJ0_length_8abf5 9 = .ok (.ishr, 1) := by decide +kernel
theorem dJ0_length_8abf5_10 : decode cJ0_length_8abf5 10 = .ok (.ireturn, 1) := by decide +kernel
theorem C_S_length (l : Launch) (E : gE) (x : gX) {k : Nat} (hk : k < gNs E) {M : gM} : gM0 l E yJ0_length_8abf5 (.code yJ0_length_8abf5 cJ0_length_8abf5 1 (some .int)) (gR 1 40) M x [.ref (E.2.2.2.1 k)] (some (.int (nI ((gLs E).getD k 0)))) M := by
  refine gMet (by decide +kernel) (Nat.le_of_ble_eq_true rfl) ?_
  intro p e s m args below meth c H locs ls Q hC hl hI kr kv
  replace hC : gC p s m args c cJ0_length_8abf5 1 "java/lang/String" E := hC
  replace hl : lv_has ls 1 [(0, .ref (E.2.2.2.1 k))] := hl
  have hx := hC.1
  have hb := hC.2.1
  have hown := hC.2.2.2.1
  have hts := hC.2.2.2.2.1
  have h0 := hC.2.2.2.2.2
  obtain ⟨hK, hinj, hNF, hNM, hThr, hTx, hWd, hVS, hFw, hCS, hSF⟩ := h0
  refine lv_aload_n hx hb dJ0_length_8abf5_0 rfl (lv_at hl 0 rfl) ?_
  refine vk_getf hx hb (hVS.1 k hk).2.2.1 hI.2 hown (hts _ w1566) (fun _ h => h) dJ0_length_8abf5_1 ?_
  refine va_tlen hx hb (hVS.1 k hk).2.2.2 hI.2 (v := nI ((gLs E).getD k 0)) rfl dJ0_length_8abf5_4 ?_
  refine lv_aload_n hx hb dJ0_length_8abf5_5 rfl (lv_at hl 0 rfl) ?_
  refine g_callVbi (rest := [.int (nI ((gLs E).getD k 0))]) hC hI (C_S_coder l E x hk) Y_J0_coder_7d493 V_J0_coder_7d493 w930 (rcv_W hC hI hk) ⟨rfl, rfl⟩ ⟨Nat.le_of_ble_eq_true rfl, Nat.le_of_ble_eq_true rfl⟩ rfl hl.1 rfl (Nat.le_of_ble_eq_true rfl) dJ0_length_8abf5_6 ⟨Nat.le_of_ble_eq_true rfl, Nat.le_of_ble_eq_true rfl⟩ (fun H locs hI => ?_)
  refine lv_ishr hx hb dJ0_length_8abf5_9 ?_
  have e0 : nI ((gLs E).getD k 0) >>> (0 : Int32) = nI ((gLs E).getD k 0) := by simp
  refine g_top (v := nI ((gLs E).getD k 0)) (by first | exact e0.symm | (simp)) ?_
  exact kr _ _ _ _ _ _ rfl hI ⟨.int, rfl, rfl⟩ dJ0_length_8abf5_10
theorem dJ3_checkIndex_8e157_0 : decode cJ3_checkIndex_8e157 0 = .ok (.iload_n 0, 1) := by decide +kernel
theorem dJ3_checkIndex_8e157_1 : decode cJ3_checkIndex_8e157 1 = .ok (.ifCond .lt 8, 3) := by decide +kernel
theorem dJ3_checkIndex_8e157_4 : decode cJ3_checkIndex_8e157 4 = .ok (.iload_n 0, 1) := by decide +kernel
theorem dJ3_checkIndex_8e157_5 : decode cJ3_checkIndex_8e157 5 = .ok (.iload_n 1, 1) := by decide +kernel
theorem dJ3_checkIndex_8e157_6 : decode cJ3_checkIndex_8e157 6 = .ok (.if_icmp .lt 10, 3) := by decide +kernel
theorem dJ3_checkIndex_8e157_9 : decode cJ3_checkIndex_8e157 9 = .ok (.aload_n 2, 1) := by decide +kernel
theorem dJ3_checkIndex_8e157_10 : decode cJ3_checkIndex_8e157 10 = .ok (.iload_n 0, 1) := by decide +kernel
theorem dJ3_checkIndex_8e157_11 : decode cJ3_checkIndex_8e157 11 = .ok (.iload_n 1, 1) := by decide +kernel
theorem dJ3_checkIndex_8e157_12 : decode cJ3_checkIndex_8e157 12 = .ok (.invokestatic 95, 3) := by decide +kernel
theorem dJ3_checkIndex_8e157_15 : decode cJ3_checkIndex_8e157 15 = .ok (.athrow, 1) := by decide +kernel
theorem dJ3_checkIndex_8e157_16 : decode cJ3_checkIndex_8e157 16 = .ok (.iload_n 0, 1) := by decide +kernel
theorem dJ3_checkIndex_8e157_17 : decode cJ3_checkIndex_8e157 17 = .ok (.ireturn, 1) := by decide +kernel
theorem C_P_checkIndex (l : Launch) (E : gE) (x : gX) {i n : Int32} {vq : Value} (hq : vq = .null ∨ ∃ t, vq = .ref t) (h0 : ¬ i < 0) (h1 : i < n) {M : gM} : gM0 l E yJ3_checkIndex_8e157 (.code yJ3_checkIndex_8e157 cJ3_checkIndex_8e157 3 (some .int)) (gR 0 0) M x [.int i, .int n, vq] (some (.int i)) M := by
  have hL : lg_sl [.int i, .int n, vq] = lg_sl [.int i, .int n, .null] ∨ ∃ t, lg_sl [.int i, .int n, vq] = lg_sl [.int i, .int n, .ref t] := by
    rcases hq with rfl | ⟨t, rfl⟩
    · exact Or.inl rfl
    · exact Or.inr ⟨t, rfl⟩
  have hL3 : (lg_sl [.int i, .int n, vq]).length ≤ 3 := by
    rcases hq with rfl | ⟨t, rfl⟩ <;> exact Nat.le_of_ble_eq_true rfl
  refine gMet (by decide +kernel) hL3 ?_
  intro p e s m args below meth c H locs ls Q hC hl hI kr kv
  replace hl : lv_has ls 3 [(0, .int i), (1, .int n), (2, vq)] := by
    rcases hq with rfl | ⟨t, rfl⟩ <;> exact hl
  have hx := hC.1
  have hb := hC.2.1
  refine lv_iload_n hx hb dJ3_checkIndex_8e157_0 rfl (lv_at hl 0 rfl) ?_
  refine lv_if_lt (tgt := 9) hx hb dJ3_checkIndex_8e157_1 rfl (fun h => absurd h h0) (fun _ => ?_)
  refine lv_iload_n hx hb dJ3_checkIndex_8e157_4 rfl (lv_at hl 0 rfl) ?_
  refine lv_iload_n hx hb dJ3_checkIndex_8e157_5 rfl (lv_at hl 1 rfl) ?_
  refine lv_icmp_lt (tgt := 16) hx hb dJ3_checkIndex_8e157_6 rfl (fun _ => ?_) (fun h => absurd h1 h)
  refine lv_iload_n hx hb dJ3_checkIndex_8e157_16 rfl (lv_at hl 0 rfl) ?_
  exact kr _ _ _ _ _ _ rfl hI ⟨.int, rfl, rfl⟩ dJ3_checkIndex_8e157_17
theorem dJ0_checkIndex_df160_0 : decode cJ0_checkIndex_df160 0 = .ok (.iload_n 0, 1) := by decide +kernel
theorem dJ0_checkIndex_df160_1 : decode cJ0_checkIndex_df160 1 = .ok (.iload_n 1, 1) := by decide +kernel
theorem dJ0_checkIndex_df160_2 : decode cJ0_checkIndex_df160 2 = .ok (.getstatic 1053, 3) := by decide +kernel
theorem dJ0_checkIndex_df160_5 : decode cJ0_checkIndex_df160 5 = .ok (.invokestatic 1059, 3) := by decide +kernel
theorem dJ0_checkIndex_df160_8 : decode cJ0_checkIndex_df160 8 = .ok (.pop, 1) := by decide +kernel
theorem dJ0_checkIndex_df160_9 : decode cJ0_checkIndex_df160 9 = .ok (.return_, 1) := by decide +kernel
theorem C_S_checkIndex (l : Launch) (E : gE) (x : gX) {i n : Int32} (hn0 : ¬ i < 0) (hn1 : i < n) {M : gM} : gM0 l E yJ0_checkIndex_df160 (.code yJ0_checkIndex_df160 cJ0_checkIndex_df160 2 none) (gR 1 40) M x [.int i, .int n] none M := by
  refine gMet (by decide +kernel) (Nat.le_of_ble_eq_true rfl) ?_
  intro p e s m args below meth c H locs ls Q hC hl hI kr kv
  replace hC : gC p s m args c cJ0_checkIndex_df160 2 "java/lang/String" E := hC
  replace hl : lv_has ls 2 [(0, .int i), (1, .int n)] := hl
  have hx := hC.1
  have hb := hC.2.1
  have hown := hC.2.2.2.1
  have hts := hC.2.2.2.2.1
  have h0 := hC.2.2.2.2.2
  obtain ⟨hK, hinj, hNF, hNM, hThr, hTx, hWd, hVS, hFw, hCS, hSF⟩ := h0
  refine lv_iload_n hx hb dJ0_checkIndex_df160_0 rfl (lv_at hl 0 rfl) ?_
  refine lv_iload_n hx hb dJ0_checkIndex_df160_1 rfl (lv_at hl 1 rfl) ?_
  rcases hSF with hSF | ⟨t, hSF⟩
  · refine va_gets hx hb hSF hI.2 hown (hts _ w950) (fun _ h => h) dJ0_checkIndex_df160_2 ?_
    refine g_callSi (rest := []) hC hI (C_P_checkIndex l E x (Or.inl rfl) hn0 hn1) Y_J3_checkIndex_8e157 S_J3_checkIndex_8e157 w952 ⟨rfl, rfl⟩ ⟨Nat.le_of_ble_eq_true rfl, Nat.le_of_ble_eq_true rfl⟩ rfl hl.1 rfl (Nat.le_of_ble_eq_true rfl) dJ0_checkIndex_df160_5 ⟨Nat.le_of_ble_eq_true rfl, Nat.le_of_ble_eq_true rfl⟩ (fun H locs hI => ?_)
    refine lv_pop hx hb dJ0_checkIndex_df160_8 rfl ?_
    exact kv _ _ _ _ _ rfl hI rfl dJ0_checkIndex_df160_9
  · refine va_gets hx hb hSF hI.2 hown (hts _ w950) (fun _ h => h) dJ0_checkIndex_df160_2 ?_
    refine g_callSi (rest := []) hC hI (C_P_checkIndex l E x (Or.inr ⟨t, rfl⟩) hn0 hn1) Y_J3_checkIndex_8e157 S_J3_checkIndex_8e157 w952 ⟨rfl, rfl⟩ ⟨Nat.le_of_ble_eq_true rfl, Nat.le_of_ble_eq_true rfl⟩ rfl hl.1 rfl (Nat.le_of_ble_eq_true rfl) dJ0_checkIndex_df160_5 ⟨Nat.le_of_ble_eq_true rfl, Nat.le_of_ble_eq_true rfl⟩ (fun H locs hI => ?_)
    refine lv_pop hx hb dJ0_checkIndex_df160_8 rfl ?_
    exact kv _ _ _ _ _ rfl hI rfl dJ0_checkIndex_df160_9
theorem dJ1_charAt_3b067_0 : decode cJ1_charAt_3b067 0 = .ok (.iload_n 1, 1) := by decide +kernel
theorem dJ1_charAt_3b067_1 : decode cJ1_charAt_3b067 1 = .ok (.aload_n 0, 1) := by decide +kernel
theorem dJ1_charAt_3b067_2 : decode cJ1_charAt_3b067 2 = .ok (.arraylength, 1) := by decide +kernel
theorem dJ1_charAt_3b067_3 : decode cJ1_charAt_3b067 3 = .ok (.invokestatic 9, 3) := by decide +kernel
theorem dJ1_charAt_3b067_6 : decode cJ1_charAt_3b067 6 = .ok (.aload_n 0, 1) := by decide +kernel
theorem dJ1_charAt_3b067_7 : decode cJ1_charAt_3b067 7 = .ok (.iload_n 1, 1) := by decide +kernel
theorem dJ1_charAt_3b067_8 : decode cJ1_charAt_3b067 8 = .ok (.baload, 1) := by decide +kernel
theorem dJ1_charAt_3b067_9 : decode cJ1_charAt_3b067 9 = .ok (.sipush 255, 3) := by decide +kernel
theorem dJ1_charAt_3b067_12 : decode cJ1_charAt_3b067 12 = .ok (.iand, 1) := by decide +kernel
theorem dJ1_charAt_3b067_13 : decode cJ1_charAt_3b067 13 = .ok (.i2c, 1) := by decide +kernel
theorem dJ1_charAt_3b067_14 : decode cJ1_charAt_3b067 14 = .ok (.ireturn, 1) := by decide +kernel
theorem gin_n {i : Int32} {n : Nat} (h : gin i n) (hn : n < 2 ^ 31) : ¬ i < 0 ∧ i < nI n := by
  obtain ⟨q, hq, rfl⟩ := gin_nI h
  exact ⟨nI_pos (by omega), nI_lt hq hn⟩
theorem gWl_lt7 : ∀ k : Nat, k < 7 → gWl.getD k 0 < 100 := by decide +kernel
theorem gWl_lt {E : gE} (hs : ∀ t ∈ E.2.2.2.2.2, t.length < 1000 ∧ ∀ b ∈ t, ∃ n, n < 128 ∧ b = nI n) {k : Nat} (hk : k < gNs E) : (gLs E).getD k 0 < 1000 := by
  by_cases h7 : k < 7
  · rw [gL_7 E h7]
    exact Nat.lt_trans (gWl_lt7 k h7) (by decide)
  · obtain ⟨j, rfl⟩ : ∃ j, k = 7 + j := ⟨k - 7, by omega⟩
    have hj : j < E.2.2.2.2.2.length := by
      have : 7 + j < 7 + E.2.2.2.2.2.length := hk
      omega
    rw [gL_x, List.getElem?_map, List.getElem?_eq_getElem hj]
    exact (hs _ (List.getElem_mem hj)).1
theorem C_L_charAt (l : Launch) (E : gE) (x : gX) {k : Nat} (hk : k < gNs E) {i : Int32} (hi : gin i ((gLs E).getD k 0)) {M : gM} : gM0 l E yJ1_charAt_3b067 (.code yJ1_charAt_3b067 cJ1_charAt_3b067 2 (some .char)) (gR 2 80) M x [.ref (E.2.2.2.2.1 k), .int i] (some (.int (((gBs E).getD k []).getD i.toNatClampNeg 0))) M := by
  refine gMet (by decide +kernel) (Nat.le_of_ble_eq_true rfl) ?_
  intro p e s m args below meth c H locs ls Q hC hl hI kr kv
  replace hC : gC p s m args c cJ1_charAt_3b067 2 "java/lang/StringLatin1" E := hC
  replace hl : lv_has ls 2 [(0, .ref (E.2.2.2.2.1 k)), (1, .int i)] := hl
  have hx := hC.1
  have hb := hC.2.1
  have hown := hC.2.2.2.1
  have hts := hC.2.2.2.2.1
  have h0 := hC.2.2.2.2.2
  obtain ⟨hK, hinj, hNF, hNM, hThr, hTx, hWd, hVS, hFw, hCS, hSF⟩ := h0
  have hlt := gin_n hi (Nat.lt_trans (gWl_lt hVS.2 hk) (Nat.le_of_ble_eq_true rfl))
  refine lv_iload_n hx hb dJ1_charAt_3b067_0 rfl (lv_at hl 1 rfl) ?_
  refine lv_aload_n hx hb dJ1_charAt_3b067_1 rfl (lv_at hl 0 rfl) ?_
  refine va_tlen hx hb (hVS.1 k hk).2.2.2 hI.2 (v := nI ((gLs E).getD k 0)) rfl dJ1_charAt_3b067_2 ?_
  refine g_callSv (rest := []) hC hI (C_S_checkIndex l E x hlt.1 hlt.2) Y_J0_checkIndex_df160 S_J0_checkIndex_df160 w947 ⟨rfl, rfl⟩ ⟨Nat.le_of_ble_eq_true rfl, Nat.le_of_ble_eq_true rfl⟩ rfl hl.1 rfl (Nat.le_of_ble_eq_true rfl) dJ1_charAt_3b067_3 ⟨Nat.le_of_ble_eq_true rfl, Nat.le_of_ble_eq_true rfl⟩ (fun H locs hI => ?_)
  refine lv_aload_n hx hb dJ1_charAt_3b067_6 rfl (lv_at hl 0 rfl) ?_
  refine lv_iload_n hx hb dJ1_charAt_3b067_7 rfl (lv_at hl 1 rfl) ?_
  refine va_tb hx hb (hVS.1 k hk).2.2.2 hI.2 (gin_vp hi) rfl dJ1_charAt_3b067_8 ?_
  refine lv_sipush (v := 255) hx hb dJ1_charAt_3b067_9 (by decide) ?_
  refine lv_iand hx hb dJ1_charAt_3b067_12 ?_
  have hch := gW_ch hVS.2 hk _ (gin_lt hi)
  refine lv_i2c hx hb dJ1_charAt_3b067_13 hch.1 ?_
  exact kr _ _ _ _ _ _ rfl hI ⟨.char, rfl, gin_char hch.2⟩ dJ1_charAt_3b067_14
theorem dJ0_charAt_5068e_0 : decode cJ0_charAt_5068e 0 = .ok (.aload_n 0, 1) := by decide +kernel
theorem dJ0_charAt_5068e_1 : decode cJ0_charAt_5068e 1 = .ok (.invokevirtual 492, 3) := by decide +kernel
theorem dJ0_charAt_5068e_4 : decode cJ0_charAt_5068e 4 = .ok (.ifCond .eq 12, 3) := by decide +kernel
theorem dJ0_charAt_5068e_7 : decode cJ0_charAt_5068e 7 = .ok (.aload_n 0, 1) := by decide +kernel
theorem dJ0_charAt_5068e_8 : decode cJ0_charAt_5068e 8 = .ok (.getfield 9, 3) := by decide +kernel
theorem dJ0_charAt_5068e_11 : decode cJ0_charAt_5068e 11 = .ok (.iload_n 1, 1) := by decide +kernel
theorem dJ0_charAt_5068e_12 : decode cJ0_charAt_5068e 12 = .ok (.invokestatic 495, 3) := by decide +kernel
theorem dJ0_charAt_5068e_15 : decode cJ0_charAt_5068e 15 = .ok (.ireturn, 1) := by decide +kernel
theorem dJ0_charAt_5068e_16 : decode cJ0_charAt_5068e 16 = .ok (.aload_n 0, 1) := by decide +kernel
theorem dJ0_charAt_5068e_17 : decode cJ0_charAt_5068e 17 = .ok (.getfield 9, 3) := by decide +kernel
theorem dJ0_charAt_5068e_20 : decode cJ0_charAt_5068e 20 = .ok (.iload_n 1, 1) := by decide +kernel
theorem dJ0_charAt_5068e_21 : decode cJ0_charAt_5068e 21 = .ok (.invokestatic 498, 3) := by decide +kernel
theorem dJ0_charAt_5068e_24 : decode cJ0_charAt_5068e 24 = .ok (.ireturn, 1) := by decide +kernel
theorem C_S_charAt (l : Launch) (E : gE) (x : gX) {k : Nat} (hk : k < gNs E) {i : Int32} (hi : gin i ((gLs E).getD k 0)) {M : gM} : gM0 l E yJ0_charAt_5068e (.code yJ0_charAt_5068e cJ0_charAt_5068e 2 (some .char)) (gR 5 120) M x [.ref (E.2.2.2.1 k), .int i] (some (.int (((gBs E).getD k []).getD i.toNatClampNeg 0))) M := by
  refine gMet (by decide +kernel) (Nat.le_of_ble_eq_true rfl) ?_
  intro p e s m args below meth c H locs ls Q hC hl hI kr kv
  replace hC : gC p s m args c cJ0_charAt_5068e 2 "java/lang/String" E := hC
  replace hl : lv_has ls 2 [(0, .ref (E.2.2.2.1 k)), (1, .int i)] := hl
  have hx := hC.1
  have hb := hC.2.1
  have hown := hC.2.2.2.1
  have hts := hC.2.2.2.2.1
  have h0 := hC.2.2.2.2.2
  obtain ⟨hK, hinj, hNF, hNM, hThr, hTx, hWd, hVS, hFw, hCS, hSF⟩ := h0
  refine lv_aload_n hx hb dJ0_charAt_5068e_0 rfl (lv_at hl 0 rfl) ?_
  refine g_callVbi (rest := []) hC hI (C_S_isLatin1 l E x hk) Y_J0_isLatin1_aae02 V_J0_isLatin1_aae02 w940 (rcv_W hC hI hk) ⟨rfl, rfl⟩ ⟨Nat.le_of_ble_eq_true rfl, Nat.le_of_ble_eq_true rfl⟩ rfl hl.1 rfl (Nat.le_of_ble_eq_true rfl) dJ0_charAt_5068e_1 ⟨Nat.le_of_ble_eq_true rfl, Nat.le_of_ble_eq_true rfl⟩ (fun H locs hI => ?_)
  refine lv_if_eq (tgt := 16) hx hb dJ0_charAt_5068e_4 rfl (fun h => absurd h (by decide)) (fun _ => ?_)
  refine lv_aload_n hx hb dJ0_charAt_5068e_7 rfl (lv_at hl 0 rfl) ?_
  refine vk_getf hx hb (hVS.1 k hk).2.2.1 hI.2 hown (hts _ w1566) (fun _ h => h) dJ0_charAt_5068e_8 ?_
  refine lv_iload_n hx hb dJ0_charAt_5068e_11 rfl (lv_at hl 1 rfl) ?_
  refine g_callSi (rest := []) hC hI (C_L_charAt l E x hk hi) Y_J1_charAt_3b067 S_J1_charAt_3b067 w944 ⟨rfl, rfl⟩ ⟨Nat.le_of_ble_eq_true rfl, Nat.le_of_ble_eq_true rfl⟩ rfl hl.1 rfl (Nat.le_of_ble_eq_true rfl) dJ0_charAt_5068e_12 ⟨Nat.le_of_ble_eq_true rfl, Nat.le_of_ble_eq_true rfl⟩ (fun H locs hI => ?_)
  exact kr _ _ _ _ _ _ rfl hI ⟨.char, rfl, gin_char (gW_ch hVS.2 hk _ (gin_lt hi)).2⟩ dJ0_charAt_5068e_15
theorem g7 (E : gE) {k : Nat} (h : k < 7) : k < gNs E := Nat.lt_of_lt_of_le h (Nat.le_add_right 7 _)
theorem C_S7_length (l : Launch) (E : gE) (x : gX) {k : Nat} (hk : k < 7) {M : gM} : gM0 l E yJ0_length_8abf5 (.code yJ0_length_8abf5 cJ0_length_8abf5 1 (some .int)) (gR 1 40) M x [.ref (E.2.2.2.1 k)] (some (.int (nI (gWl.getD k 0)))) M := by
  have h := C_S_length l E x (g7 E hk) (M := M)
  rw [gL_7 E hk] at h
  exact h
theorem C_S7_charAt (l : Launch) (E : gE) (x : gX) {k : Nat} (hk : k < 7) {i : Int32} (hi : gin i (gWl.getD k 0)) {M : gM} : gM0 l E yJ0_charAt_5068e (.code yJ0_charAt_5068e cJ0_charAt_5068e 2 (some .char)) (gR 5 120) M x [.ref (E.2.2.2.1 k), .int i] (some (.int ((gWb.getD k []).getD i.toNatClampNeg 0))) M := by
  have h := C_S_charAt l E x (g7 E hk) (M := M) (i := i) (by rw [gL_7 E hk]; exact hi)
  rw [gB_7 E hk] at h
  exact h
