/-! StringBuilder: Strings and numbers are added, a String is made; laid by wip/p67/gen/jdk67e.py. -/
theorem j_strR {s : State} {A : Nat → Prop} {H : Heap} {locs : List Loc} {E : String} {t : Nat} (h : va_O E t A s s.heap) (hS : va_S A s.heap H locs) : ∃ cell : Cell, H[t]? = some cell ∧ cell.vm.isStatics = false ∧ s.vm.findClass E = some cell.cls := by
  obtain ⟨c, h1, h2, h3, h4⟩ := h
  exact ⟨c, by rw [hS.2.1 t (Array.getElem?_eq_some_iff.mp h1).1 h4]; exact h1, h2, h3⟩
theorem sbC_le {need cap : Nat} (h : need ≤ 2 * cap + 2) : need ≤ sbC need cap := by
  unfold sbC
  split
  · assumption
  · exact h
theorem sbC_le2 (need cap : Nat) : sbC need cap ≤ 2 * cap + 2 := by
  unfold sbC
  split <;> omega
/-- letters of seven bits -/
def seven (L : List Int32) : Prop := ∀ x ∈ L, ∃ m, m < 128 ∧ x = nI m
theorem seven.get {L : List Int32} (h : seven L) (i : Nat) : ∃ m, m < 128 ∧ L.getD i 0 = nI m := by
  rw [List.getD_eq_getElem?_getD]
  cases q : L[i]? with
  | none => exact ⟨0, by decide, rfl⟩
  | some x => exact h x (List.mem_of_getElem? q)
theorem seven.fit {L : List Int32} (h : seven L) (i : Nat) : fits .byte (.int (L.getD i 0)) = true := by
  obtain ⟨m, hm, e⟩ := h.get i
  rw [e]
  exact fit128 m hm
/-- a text L is put behind T -/
theorem sbH.app {T L : List Int32} {cap : Nat} {a : Nat → Int32} (h : sbH T cap a) (hL : seven L) (hc : T.length + L.length ≤ cap) : sbH (T ++ L) cap (va_cpy (fun j => L.getD j 0) a 0 T.length L.length) := by
  refine ⟨by rw [List.length_append]; exact hc, fun i hi => ?_, fun i => ?_⟩
  · rw [List.length_append] at hi
    by_cases q : i < T.length
    · rw [pk_cpy_out (Or.inl q), h.2.1 i q, List.getD_eq_getElem?_getD, List.getD_eq_getElem?_getD, List.getElem?_append_left q]
    · rw [pk_cpy_in (by omega) (by omega), List.getD_eq_getElem?_getD, List.getD_eq_getElem?_getD, List.getElem?_append_right (by omega), Nat.zero_add]
  · by_cases q : T.length ≤ i ∧ i < T.length + L.length
    · rw [pk_cpy_in q.1 q.2]
      exact hL.get _
    · rw [pk_cpy_out (by omega)]
      exact h.2.2 i
/-- a number's digits -/
def dLen (x : Nat) : Nat := if x < 10 then 1 else 2
def dig (x : Nat) : List Int32 := if x < 10 then [nI (x % 10 + 48)] else [nI (x / 10 + 48), nI (x % 10 + 48)]
theorem dig_len (x : Nat) : (dig x).length = dLen x := by
  unfold dig dLen
  split <;> rfl
theorem dig_seven {x : Nat} (hx : x < 100) : seven (dig x) := by
  intro y hy
  unfold dig at hy
  split at hy
  · rw [List.mem_singleton] at hy
    exact ⟨x % 10 + 48, by omega, hy⟩
  · rcases List.mem_cons.mp hy with h | h
    · exact ⟨x / 10 + 48, by omega, h⟩
    · rw [List.mem_singleton] at h
      exact ⟨x % 10 + 48, by omega, h⟩
theorem nI_m1 {e : Nat} (h : 1 ≤ e) : nI e + -1 = nI (e - 1) := by
  have h1 : nI e = nI (e - 1) + 1 := by
    show nI e = nI (e - 1) + nI 1
    rw [nI_add, Nat.sub_add_cancel h]
  rw [h1, Int32.add_assoc, show (1 : Int32) + -1 = 0 by decide, Int32.add_zero]
theorem d_neg : ∀ x : Nat, x < 100 → (-(nI x) ≤ (-10 : Int32) ↔ 10 ≤ x) ∧ ¬ (-(nI x) ≤ (-100 : Int32)) ∧ (-(nI x) ≥ (-9 : Int32) ↔ x < 10) ∧ (-(nI x) > (-100 : Int32)) := by decide +kernel
theorem d_nar : ∀ m : Nat, m < 128 → vp_nar .byte (nI m) = nI m := by decide +kernel
/-- what the digits leave -/
def dRow (a : Nat → Int32) (e x : Nat) : Nat → Int32 := if x < 10 then upd a (e - 1) (nI (x % 10 + 48)) else upd (upd a (e - 1) (nI (x % 10 + 48))) (e - 2) (nI (x / 10 + 48))
theorem dRow_eq (a : Nat → Int32) (n x : Nat) : dRow a (n + dLen x) x = va_cpy (fun j => (dig x).getD j 0) a 0 n (dig x).length := by
  funext j
  rw [dig_len]
  unfold dRow va_cpy dLen dig upd
  by_cases hx : x < 10
  · simp only [if_pos hx]
    by_cases h : j = n
    · subst h
      simp
    · rw [if_neg (by omega), if_neg (by omega)]
  · simp only [if_neg hx]
    by_cases h : j = n
    · subst h
      simp
    · by_cases h2 : j = n + 1
      · subst h2
        simp
      · rw [if_neg (by omega), if_neg (by omega), if_neg (by omega)]
theorem w932 : Cond.selects RJ0 yJ0_coder_7d493 yJ0_coder_7d493 ∈ gU := gT 932 (by decide +kernel) rfl
theorem w928 : Cond.selects RJ0 yJ0_length_8abf5 yJ0_length_8abf5 ∈ gU := gT 928 (by decide +kernel) rfl
theorem w1484 : Cond.selects RJ0 yJ0_getBytes_840e7 yJ0_getBytes_840e7 ∈ gU := gT 1484 (by decide +kernel) rfl
theorem w1404 : Cond.selects RJ4 yJ4_append_15ec4 yJ4_append_15ec4 ∈ gU := gT 1404 (by decide +kernel) rfl
theorem w1595 : Cond.sameMethod "java/lang/AbstractStringBuilder" "java/lang/AbstractStringBuilder" "append" "(Ljava/lang/String;)Ljava/lang/AbstractStringBuilder;" ∈ gU := gT 1595 (by decide +kernel) rfl
theorem w1401 : Cond.superclass "java/lang/StringBuilder" "java/lang/AbstractStringBuilder" ∈ gU := gT 1401 (by decide +kernel) rfl
theorem w1490 : Cond.selects RJ4 yJ4_append_bf812 yJ4_append_bf812 ∈ gU := gT 1490 (by decide +kernel) rfl
theorem w1602 : Cond.sameMethod "java/lang/AbstractStringBuilder" "java/lang/AbstractStringBuilder" "append" "(I)Ljava/lang/AbstractStringBuilder;" ∈ gU := gT 1602 (by decide +kernel) rfl
theorem w1532 : Cond.sameMethod "java/lang/AbstractStringBuilder" "java/lang/AbstractStringBuilder" "length" "()I" ∈ gU := gT 1532 (by decide +kernel) rfl
theorem w1528 : Cond.selects RJ4 yJ5_getValue_6d5f1 yJ5_getValue_6d5f1 ∈ gU := gT 1528 (by decide +kernel) rfl
theorem w1533 : Cond.selects RJ4 yJ5_length_8abf5 yJ4_length_8abf5 ∈ gU := gT 1533 (by decide +kernel) rfl
theorem w1515 : Cond.selects RJ4 yJ4_toString_0e30d yJ4_toString_0e30d ∈ gU := gT 1515 (by decide +kernel) rfl
theorem Z_J0_coder_7d493 : gY yJ0_coder_7d493 cJ0_coder_7d493 1 (some .byte) 0 := ⟨w933, w13, ⟨by decide, by decide⟩, by decide +kernel⟩
theorem ZI_J0_coder_7d493 : Cond.instanceMethod yJ0_coder_7d493 ∈ gU := w931
theorem ZV_J0_coder_7d493 : Cond.instanceMethod yJ0_coder_7d493 ∈ gU ∧ Cond.selects yJ0_coder_7d493.cls yJ0_coder_7d493 yJ0_coder_7d493 ∈ gU := ⟨ZI_J0_coder_7d493, w932⟩
theorem Z_J0_length_8abf5 : gY yJ0_length_8abf5 cJ0_length_8abf5 1 (some .int) 0 := ⟨w929, w13, ⟨by decide, by decide⟩, by decide +kernel⟩
theorem ZI_J0_length_8abf5 : Cond.instanceMethod yJ0_length_8abf5 ∈ gU := w927
theorem ZV_J0_length_8abf5 : Cond.instanceMethod yJ0_length_8abf5 ∈ gU ∧ Cond.selects yJ0_length_8abf5.cls yJ0_length_8abf5 yJ0_length_8abf5 ∈ gU := ⟨ZI_J0_length_8abf5, w928⟩
theorem Z_J5_inflateIfNeededFor_a7421 : gY yJ5_inflateIfNeededFor_a7421 cJ5_inflateIfNeededFor_a7421 2 none 1 := ⟨w1461, w31, ⟨by decide, by decide⟩, by decide +kernel⟩
theorem ZI_J5_inflateIfNeededFor_a7421 : Cond.instanceMethod yJ5_inflateIfNeededFor_a7421 ∈ gU := w1460
theorem Z_J0_getBytes_840e7 : gY yJ0_getBytes_840e7 cJ0_getBytes_840e7 4 none 3 := ⟨w1485, w13, ⟨by decide, by decide⟩, by decide +kernel⟩
theorem ZI_J0_getBytes_840e7 : Cond.instanceMethod yJ0_getBytes_840e7 ∈ gU := w1483
theorem ZV_J0_getBytes_840e7 : Cond.instanceMethod yJ0_getBytes_840e7 ∈ gU ∧ Cond.selects yJ0_getBytes_840e7.cls yJ0_getBytes_840e7 yJ0_getBytes_840e7 ∈ gU := ⟨ZI_J0_getBytes_840e7, w1484⟩
theorem Z_J5_putStringAt_47b60 : gY yJ5_putStringAt_47b60 cJ5_putStringAt_47b60 3 none 2 := ⟨w1457, w31, ⟨by decide, by decide⟩, by decide +kernel⟩
theorem ZI_J5_putStringAt_47b60 : Cond.instanceMethod yJ5_putStringAt_47b60 ∈ gU := w1456
theorem Z_J5_append_cf1ce : gY yJ5_append_cf1ce cJ5_append_cf1ce 3 (some (.object "java/lang/AbstractStringBuilder")) 1 := ⟨w1408, w31, ⟨by decide, by decide⟩, by decide +kernel⟩
theorem ZI_J5_append_cf1ce : Cond.instanceMethod yJ5_append_cf1ce ∈ gU := w1407
theorem Z_J4_append_15ec4 : gY yJ4_append_15ec4 cJ4_append_15ec4 2 (some (.object "java/lang/StringBuilder")) 1 := ⟨w1405, w32, ⟨by decide, by decide⟩, by decide +kernel⟩
theorem ZI_J4_append_15ec4 : Cond.instanceMethod yJ4_append_15ec4 ∈ gU := w1403
theorem ZV_J4_append_15ec4 : Cond.instanceMethod yJ4_append_15ec4 ∈ gU ∧ Cond.selects yJ4_append_15ec4.cls yJ4_append_15ec4 yJ4_append_15ec4 ∈ gU := ⟨ZI_J4_append_15ec4, w1404⟩
theorem Z_J6_stringSize_0f7a4 : gY yJ6_stringSize_0f7a4 cJ6_stringSize_0f7a4 4 (some .int) 1 := ⟨w1497, w23, ⟨by decide, by decide⟩, by decide +kernel⟩
theorem ZS_J6_stringSize_0f7a4 : Cond.static yJ6_stringSize_0f7a4 ∈ gU := w1496
theorem Z_J6_getChars_ba4f3 : gY yJ6_getChars_ba4f3 cJ6_getChars_ba4f3 7 (some .int) 3 := ⟨w1500, w23, ⟨by decide, by decide⟩, by decide +kernel⟩
theorem ZS_J6_getChars_ba4f3 : Cond.static yJ6_getChars_ba4f3 ∈ gU := w1499
theorem Z_J5_append_c97b9 : gY yJ5_append_c97b9 cJ5_append_c97b9 4 (some (.object "java/lang/AbstractStringBuilder")) 1 := ⟨w1494, w31, ⟨by decide, by decide⟩, by decide +kernel⟩
theorem ZI_J5_append_c97b9 : Cond.instanceMethod yJ5_append_c97b9 ∈ gU := w1493
theorem Z_J4_append_bf812 : gY yJ4_append_bf812 cJ4_append_bf812 2 (some (.object "java/lang/StringBuilder")) 1 := ⟨w1491, w32, ⟨by decide, by decide⟩, by decide +kernel⟩
theorem ZI_J4_append_bf812 : Cond.instanceMethod yJ4_append_bf812 ∈ gU := w1489
theorem ZV_J4_append_bf812 : Cond.instanceMethod yJ4_append_bf812 ∈ gU ∧ Cond.selects yJ4_append_bf812.cls yJ4_append_bf812 yJ4_append_bf812 ∈ gU := ⟨ZI_J4_append_bf812, w1490⟩
theorem Z_J5_getValue_6d5f1 : gY yJ5_getValue_6d5f1 cJ5_getValue_6d5f1 1 (some (.array .byte)) 0 := ⟨w1529, w31, ⟨by decide, by decide⟩, by decide +kernel⟩
theorem ZI_J5_getValue_6d5f1 : Cond.instanceMethod yJ5_getValue_6d5f1 ∈ gU := w1526
theorem Z_J5_length_8abf5 : gY yJ5_length_8abf5 cJ5_length_8abf5 1 (some .int) 0 := ⟨w1537, w31, ⟨by decide, by decide⟩, by decide +kernel⟩
theorem ZI_J5_length_8abf5 : Cond.instanceMethod yJ5_length_8abf5 ∈ gU := w1531
theorem Z_J4_length_8abf5 : gY yJ4_length_8abf5 cJ4_length_8abf5 1 (some .int) 0 := ⟨w1535, w32, ⟨by decide, by decide⟩, by decide +kernel⟩
theorem ZI_J4_length_8abf5 : Cond.instanceMethod yJ4_length_8abf5 ∈ gU := w1534
theorem Z_J7_checkLength_df160 : gY yJ7_checkLength_df160 cJ7_checkLength_df160 2 none 2 := ⟨w1547, w26, ⟨by decide, by decide⟩, by decide +kernel⟩
theorem ZS_J7_checkLength_df160 : Cond.static yJ7_checkLength_df160 ∈ gU := w1546
theorem Z_J7_copyOfRangeByte_39247 : gY yJ7_copyOfRangeByte_39247 cJ7_copyOfRangeByte_39247 5 (some (.array .byte)) 3 := ⟨w1544, w26, ⟨by decide, by decide⟩, by decide +kernel⟩
theorem ZS_J7_copyOfRangeByte_39247 : Cond.static yJ7_copyOfRangeByte_39247 ∈ gU := w1543
theorem Z_J7_copyOfRange_39247 : gY yJ7_copyOfRange_39247 cJ7_copyOfRange_39247 3 (some (.array .byte)) 3 := ⟨w1541, w26, ⟨by decide, by decide⟩, by decide +kernel⟩
theorem ZS_J7_copyOfRange_39247 : Cond.static yJ7_copyOfRange_39247 ∈ gU := w1540
theorem Z_J0_init_db425 : gY yJ0_init_db425 cJ0_init_db425 5 none 2 := ⟨w1523, w13, ⟨by decide, by decide⟩, by decide +kernel⟩
theorem ZI_J0_init_db425 : Cond.instanceMethod yJ0_init_db425 ∈ gU := w1522
theorem Z_J0_init_81219 : gY yJ0_init_81219 cJ0_init_81219 2 none 1 := ⟨w1520, w13, ⟨by decide, by decide⟩, by decide +kernel⟩
theorem ZI_J0_init_81219 : Cond.instanceMethod yJ0_init_81219 ∈ gU := w1519
theorem Z_J4_toString_0e30d : gY yJ4_toString_0e30d cJ4_toString_0e30d 1 (some (.object "java/lang/String")) 0 := ⟨w1516, w32, ⟨by decide, by decide⟩, by decide +kernel⟩
theorem ZI_J4_toString_0e30d : Cond.instanceMethod yJ4_toString_0e30d ∈ gU := w1514
theorem ZV_J4_toString_0e30d : Cond.instanceMethod yJ4_toString_0e30d ∈ gU ∧ Cond.selects yJ4_toString_0e30d.cls yJ4_toString_0e30d yJ4_toString_0e30d ∈ gU := ⟨ZI_J4_toString_0e30d, w1515⟩
set_option maxRecDepth 100000 in
set_option maxHeartbeats 4000000 in
theorem J_strCoder (l : Launch) (D : va_G) (cid : Nat → ClassId) (J : jA) {g : Nat × (Nat × List Int32)} (hg : g ∈ J.2.2.2.2.2.2)  : jM l D cid J yJ0_coder_7d493 (.code yJ0_coder_7d493 cJ0_coder_7d493 1 (some .byte)) (gRX 0 0 0 0) [.ref g.1] ([] : va_W) [] 0 0 (α := Unit) (fun rv _ => rv = some (.int 0)) (fun _ => []) := by
  refine jMet (by decide +kernel) (Nat.le_of_ble_eq_true rfl) ?_
  intro p e s m args below meth c H locs ls Q A hA hC hni hl hI kk
  replace hC : jC p s m args c cJ0_coder_7d493 1 "java/lang/String" D cid J A [] := hC
  replace hl : lv_has ls 1 [(0, .ref g.1)] := hl
  replace hI : jI D s A ([] : va_W) H locs := hI
  have hx := hC.1.1
  have hb := hC.1.2.1
  have hown := hC.1.2.2.2.1
  have hts := hC.1.2.2.2.2.1
  have hK := hC.1.2.2.2.2.2.1
  have hAn := hC.2.2.1
  have hJ := hC.2.1
  refine va_gets hx hb hJ.2.2.2.2.1 hI.2.2 hown (hts _ w934) (fun _ h9 => h9) dJ0_coder_7d493_0 ?_
  refine lv_if_eq (tgt := 13) hx hb dJ0_coder_7d493_3 rfl (fun h => absurd h (by decide)) (fun _ => ?_)
  refine lv_aload_n hx hb dJ0_coder_7d493_6 rfl (lv_at hl 0 rfl) ?_
  refine vk_getf hx hb (hJ.2.2.2.2.2 g hg).2.1 hI.2.2 hown (hts _ w1567) (fun _ h9 => h9) dJ0_coder_7d493_7 ?_
  refine lv_goto (tgt := 14) hx hb dJ0_coder_7d493_10 rfl ?_
  exact kk _ () _ _ _ _ _ _ _ rfl rfl hI ⟨Nat.le_of_ble_eq_true rfl, Nat.le_of_ble_eq_true rfl⟩ (Or.inl ⟨_, _, rfl, rfl, (by first | rfl | exact gb_nar _), dJ0_coder_7d493_14⟩)
set_option maxRecDepth 100000 in
set_option maxHeartbeats 4000000 in
theorem J_strLen (l : Launch) (D : va_G) (cid : Nat → ClassId) (J : jA) {g : Nat × (Nat × List Int32)} (hg : g ∈ J.2.2.2.2.2.2)  : jM l D cid J yJ0_length_8abf5 (.code yJ0_length_8abf5 cJ0_length_8abf5 1 (some .int)) (gRX 1 20 0 0) [.ref g.1] ([] : va_W) [] 0 0 (α := Unit) (fun rv _ => rv = some (.int (nI g.2.2.length))) (fun _ => []) := by
  refine jMet (by decide +kernel) (Nat.le_of_ble_eq_true rfl) ?_
  intro p e s m args below meth c H locs ls Q A hA hC hni hl hI kk
  replace hC : jC p s m args c cJ0_length_8abf5 1 "java/lang/String" D cid J A [] := hC
  replace hl : lv_has ls 1 [(0, .ref g.1)] := hl
  replace hI : jI D s A ([] : va_W) H locs := hI
  have hx := hC.1.1
  have hb := hC.1.2.1
  have hown := hC.1.2.2.2.1
  have hts := hC.1.2.2.2.2.1
  have hK := hC.1.2.2.2.2.2.1
  have hAn := hC.2.2.1
  have hJ := hC.2.1
  refine lv_aload_n hx hb dJ0_length_8abf5_0 rfl (lv_at hl 0 rfl) ?_
  refine vk_getf hx hb (hJ.2.2.2.2.2 g hg).2.2.1 hI.2.2 hown (hts _ w1566) (fun _ h9 => h9) dJ0_length_8abf5_1 ?_
  refine va_tlen hx hb (hJ.2.2.2.2.2 g hg).2.2.2 hI.2.2 (v := nI g.2.2.length) rfl dJ0_length_8abf5_4 ?_
  refine lv_aload_n hx hb dJ0_length_8abf5_5 rfl (lv_at hl 0 rfl) ?_
  refine j_callV (rest := [.int (nI g.2.2.length)]) ([] : va_W) hC hI (J_strCoder l D cid J hg) (fun _ h => absurd h List.not_mem_nil) Z_J0_coder_7d493 ZV_J0_coder_7d493 w930 (j_strR (hJ.2.2.2.2.2 g hg).1 hI.2.2) ⟨rfl, rfl⟩ ⟨Nat.le_of_ble_eq_true rfl, Nat.le_of_ble_eq_true rfl⟩ rfl hl.1 rfl (Nat.le_of_ble_eq_true rfl) dJ0_length_8abf5_6 ⟨Nat.le_of_ble_eq_true rfl, Nat.le_of_ble_eq_true rfl⟩ (fun rv u H1 locs1 hp hI hk1 => ?_)
  obtain rfl := hp
  replace hI : jI D s A ([] : va_W) H1 locs1 := hI
  refine lv_ishr hx hb dJ0_length_8abf5_9 ?_
  refine g_top (v := nI g.2.2.length) ((shr0 _).symm) ?_
  exact kk _ () _ _ _ _ _ _ _ rfl rfl hI ⟨Nat.le_of_ble_eq_true rfl, Nat.le_of_ble_eq_true rfl⟩ (Or.inl ⟨_, _, rfl, rfl, (by first | rfl | exact gb_nar _), dJ0_length_8abf5_10⟩)
theorem dJ5_inflateIfNeededFor_a7421_0 : decode cJ5_inflateIfNeededFor_a7421 0 = .ok (.getstatic 18, 3) := by decide +kernel
theorem dJ5_inflateIfNeededFor_a7421_3 : decode cJ5_inflateIfNeededFor_a7421 3 = .ok (.ifCond .eq 18, 3) := by decide +kernel
theorem dJ5_inflateIfNeededFor_a7421_6 : decode cJ5_inflateIfNeededFor_a7421 6 = .ok (.aload_n 0, 1) := by decide +kernel
theorem dJ5_inflateIfNeededFor_a7421_7 : decode cJ5_inflateIfNeededFor_a7421 7 = .ok (.getfield 22, 3) := by decide +kernel
theorem dJ5_inflateIfNeededFor_a7421_10 : decode cJ5_inflateIfNeededFor_a7421 10 = .ok (.aload_n 1, 1) := by decide +kernel
theorem dJ5_inflateIfNeededFor_a7421_11 : decode cJ5_inflateIfNeededFor_a7421 11 = .ok (.invokevirtual 40, 3) := by decide +kernel
theorem dJ5_inflateIfNeededFor_a7421_14 : decode cJ5_inflateIfNeededFor_a7421 14 = .ok (.if_icmp .eq 7, 3) := by decide +kernel
theorem dJ5_inflateIfNeededFor_a7421_17 : decode cJ5_inflateIfNeededFor_a7421 17 = .ok (.aload_n 0, 1) := by decide +kernel
theorem dJ5_inflateIfNeededFor_a7421_18 : decode cJ5_inflateIfNeededFor_a7421 18 = .ok (.invokevirtual 195, 3) := by decide +kernel
theorem dJ5_inflateIfNeededFor_a7421_21 : decode cJ5_inflateIfNeededFor_a7421 21 = .ok (.return_, 1) := by decide +kernel
set_option maxRecDepth 100000 in
set_option maxHeartbeats 4000000 in
theorem J_inflate (l : Launch) (D : va_G) (cid : Nat → ClassId) (J : jA) {g : Nat × (Nat × List Int32)} (hg : g ∈ J.2.2.2.2.2.2) {q v : Nat} {n : Int32} : jM l D cid J yJ5_inflateIfNeededFor_a7421 (.code yJ5_inflateIfNeededFor_a7421 cJ5_inflateIfNeededFor_a7421 2 none) (gRX 1 20 0 0) [.ref q, .ref g.1] [(q, .inr (1, [.ref v, .int 0, .int 0, .int n]))] [] 0 0 (α := Unit) (fun rv _ => rv = none) (fun _ => [(q, .inr (1, [.ref v, .int 0, .int 0, .int n]))]) := by
  refine jMet (by decide +kernel) (Nat.le_of_ble_eq_true rfl) ?_
  intro p e s m args below meth c H locs ls Q A hA hC hni hl hI kk
  replace hC : jC p s m args c cJ5_inflateIfNeededFor_a7421 2 "java/lang/AbstractStringBuilder" D cid J A [] := hC
  replace hl : lv_has ls 2 [(0, .ref q), (1, .ref g.1)] := hl
  replace hI : jI D s A [(q, .inr (1, [.ref v, .int 0, .int 0, .int n]))] H locs := hI
  have hx := hC.1.1
  have hb := hC.1.2.1
  have hown := hC.1.2.2.2.1
  have hts := hC.1.2.2.2.2.1
  have hK := hC.1.2.2.2.2.2.1
  have hAn := hC.2.2.1
  have hJ := hC.2.1
  refine va_gets hx hb hJ.2.2.2.2.1 hI.2.2 hown (hts _ w1381) (fun _ h9 => h9) dJ5_inflateIfNeededFor_a7421_0 ?_
  refine lv_if_eq (tgt := 21) hx hb dJ5_inflateIfNeededFor_a7421_3 rfl (fun h => absurd h (by decide)) (fun _ => ?_)
  refine lv_aload_n hx hb dJ5_inflateIfNeededFor_a7421_6 rfl (lv_at hl 0 rfl) ?_
  refine va_get (D := D) (ci := 1) (v := .int 0) hx hb hts uJ4' hown hK hI.1 0 rfl rfl 1 (by decide) (hts _ w1390) (fun _ h9 => h9) rfl dJ5_inflateIfNeededFor_a7421_7 ?_
  refine lv_aload_n hx hb dJ5_inflateIfNeededFor_a7421_10 rfl (lv_at hl 1 rfl) ?_
  refine j_callV (rest := [.int 0]) [(q, .inr (1, [.ref v, .int 0, .int 0, .int n]))] hC hI (J_strCoder l D cid J hg) (fun _ h => absurd h List.not_mem_nil) Z_J0_coder_7d493 ZV_J0_coder_7d493 w1462 (j_strR (hJ.2.2.2.2.2 g hg).1 hI.2.2) ⟨rfl, rfl⟩ ⟨Nat.le_of_ble_eq_true rfl, Nat.le_of_ble_eq_true rfl⟩ rfl hl.1 rfl (Nat.le_of_ble_eq_true rfl) dJ5_inflateIfNeededFor_a7421_11 ⟨Nat.le_of_ble_eq_true rfl, Nat.le_of_ble_eq_true rfl⟩ (fun rv u H1 locs1 hp hI hk1 => ?_)
  obtain rfl := hp
  replace hI : jI D s A [(q, .inr (1, [.ref v, .int 0, .int 0, .int n]))] H1 locs1 := hI
  refine lv_icmp_eq (tgt := 21) hx hb dJ5_inflateIfNeededFor_a7421_14 rfl (fun _ => ?_) (fun h => absurd rfl h)
  exact kk _ () _ _ _ _ _ _ _ rfl rfl hI ⟨Nat.le_of_ble_eq_true rfl, Nat.le_of_ble_eq_true rfl⟩ (Or.inr (Or.inl ⟨rfl, rfl, dJ5_inflateIfNeededFor_a7421_21⟩))
theorem dJ0_getBytes_840e7_0 : decode cJ0_getBytes_840e7 0 = .ok (.aload_n 0, 1) := by decide +kernel
theorem dJ0_getBytes_840e7_1 : decode cJ0_getBytes_840e7 1 = .ok (.invokevirtual 335, 3) := by decide +kernel
theorem dJ0_getBytes_840e7_4 : decode cJ0_getBytes_840e7 4 = .ok (.iload_n 3, 1) := by decide +kernel
theorem dJ0_getBytes_840e7_5 : decode cJ0_getBytes_840e7 5 = .ok (.if_icmp .ne 23, 3) := by decide +kernel
theorem dJ0_getBytes_840e7_8 : decode cJ0_getBytes_840e7 8 = .ok (.aload_n 0, 1) := by decide +kernel
theorem dJ0_getBytes_840e7_9 : decode cJ0_getBytes_840e7 9 = .ok (.getfield 9, 3) := by decide +kernel
theorem dJ0_getBytes_840e7_12 : decode cJ0_getBytes_840e7 12 = .ok (.iconst 0, 1) := by decide +kernel
theorem dJ0_getBytes_840e7_13 : decode cJ0_getBytes_840e7 13 = .ok (.aload_n 1, 1) := by decide +kernel
theorem dJ0_getBytes_840e7_14 : decode cJ0_getBytes_840e7 14 = .ok (.iload_n 2, 1) := by decide +kernel
theorem dJ0_getBytes_840e7_15 : decode cJ0_getBytes_840e7 15 = .ok (.iload_n 3, 1) := by decide +kernel
theorem dJ0_getBytes_840e7_16 : decode cJ0_getBytes_840e7 16 = .ok (.ishl, 1) := by decide +kernel
theorem dJ0_getBytes_840e7_17 : decode cJ0_getBytes_840e7 17 = .ok (.aload_n 0, 1) := by decide +kernel
theorem dJ0_getBytes_840e7_18 : decode cJ0_getBytes_840e7 18 = .ok (.getfield 9, 3) := by decide +kernel
theorem dJ0_getBytes_840e7_21 : decode cJ0_getBytes_840e7 21 = .ok (.arraylength, 1) := by decide +kernel
theorem dJ0_getBytes_840e7_22 : decode cJ0_getBytes_840e7 22 = .ok (.invokestatic 212, 3) := by decide +kernel
theorem dJ0_getBytes_840e7_25 : decode cJ0_getBytes_840e7 25 = .ok (.goto 18, 3) := by decide +kernel
theorem dJ0_getBytes_840e7_28 : decode cJ0_getBytes_840e7 28 = .ok (.aload_n 0, 1) := by decide +kernel
theorem dJ0_getBytes_840e7_29 : decode cJ0_getBytes_840e7 29 = .ok (.getfield 9, 3) := by decide +kernel
theorem dJ0_getBytes_840e7_32 : decode cJ0_getBytes_840e7 32 = .ok (.iconst 0, 1) := by decide +kernel
theorem dJ0_getBytes_840e7_33 : decode cJ0_getBytes_840e7 33 = .ok (.aload_n 1, 1) := by decide +kernel
theorem dJ0_getBytes_840e7_34 : decode cJ0_getBytes_840e7 34 = .ok (.iload_n 2, 1) := by decide +kernel
theorem dJ0_getBytes_840e7_35 : decode cJ0_getBytes_840e7 35 = .ok (.aload_n 0, 1) := by decide +kernel
theorem dJ0_getBytes_840e7_36 : decode cJ0_getBytes_840e7 36 = .ok (.getfield 9, 3) := by decide +kernel
theorem dJ0_getBytes_840e7_39 : decode cJ0_getBytes_840e7 39 = .ok (.arraylength, 1) := by decide +kernel
theorem dJ0_getBytes_840e7_40 : decode cJ0_getBytes_840e7 40 = .ok (.invokestatic 106, 3) := by decide +kernel
theorem dJ0_getBytes_840e7_43 : decode cJ0_getBytes_840e7 43 = .ok (.return_, 1) := by decide +kernel
set_option maxRecDepth 100000 in
set_option maxHeartbeats 4000000 in
theorem J_getBytes (l : Launch) (D : va_G) (cid : Nat → ClassId) (J : jA) {g : Nat × (Nat × List Int32)} (hg : g ∈ J.2.2.2.2.2.2) {v n cap : Nat} {a : Nat → Int32} (h7 : seven g.2.2) (hn : n + g.2.2.length ≤ cap) (hc : cap ≤ 300) : jM l D cid J yJ0_getBytes_840e7 (.code yJ0_getBytes_840e7 cJ0_getBytes_840e7 4 none) (gRX 1 60 0 0) [.ref g.1, .ref v, .int (nI n), .int 0] [(v, .inl (cid 3, cap, .inl a))] [] 0 0 (α := Unit) (fun rv _ => rv = none) (fun _ => [(v, .inl (cid 3, cap, .inl (va_cpy (fun j => g.2.2.getD j 0) a 0 n g.2.2.length)))]) := by
  refine jMet (by decide +kernel) (Nat.le_of_ble_eq_true rfl) ?_
  intro p e s m args below meth c H locs ls Q A hA hC hni hl hI kk
  replace hC : jC p s m args c cJ0_getBytes_840e7 4 "java/lang/String" D cid J A [] := hC
  replace hl : lv_has ls 4 [(0, .ref g.1), (1, .ref v), (2, .int (nI n)), (3, .int 0)] := hl
  replace hI : jI D s A [(v, .inl (cid 3, cap, .inl a))] H locs := hI
  have hx := hC.1.1
  have hb := hC.1.2.1
  have hown := hC.1.2.2.2.1
  have hts := hC.1.2.2.2.2.1
  have hK := hC.1.2.2.2.2.2.1
  have hAn := hC.2.2.1
  have hJ := hC.2.1
  refine lv_aload_n hx hb dJ0_getBytes_840e7_0 rfl (lv_at hl 0 rfl) ?_
  refine j_callV (rest := []) [(v, .inl (cid 3, cap, .inl a))] hC hI (J_strCoder l D cid J hg) (fun _ h => absurd h List.not_mem_nil) Z_J0_coder_7d493 ZV_J0_coder_7d493 w930 (j_strR (hJ.2.2.2.2.2 g hg).1 hI.2.2) ⟨rfl, rfl⟩ ⟨Nat.le_of_ble_eq_true rfl, Nat.le_of_ble_eq_true rfl⟩ rfl hl.1 rfl (Nat.le_of_ble_eq_true rfl) dJ0_getBytes_840e7_1 ⟨Nat.le_of_ble_eq_true rfl, Nat.le_of_ble_eq_true rfl⟩ (fun rv u H1 locs1 hp hI hk1 => ?_)
  obtain rfl := hp
  replace hI : jI D s A [(v, .inl (cid 3, cap, .inl a))] H1 locs1 := hI
  refine lv_iload_n hx hb dJ0_getBytes_840e7_4 rfl (lv_at hl 3 rfl) ?_
  refine lv_icmp_ne (tgt := 28) hx hb dJ0_getBytes_840e7_5 rfl (fun h => absurd rfl h) (fun _ => ?_)
  refine lv_aload_n hx hb dJ0_getBytes_840e7_8 rfl (lv_at hl 0 rfl) ?_
  refine vk_getf hx hb (hJ.2.2.2.2.2 g hg).2.2.1 hI.2.2 hown (hts _ w1566) (fun _ h9 => h9) dJ0_getBytes_840e7_9 ?_
  refine lv_iconst (v := 0) hx hb dJ0_getBytes_840e7_12 (by decide) ?_
  refine lv_aload_n hx hb dJ0_getBytes_840e7_13 rfl (lv_at hl 1 rfl) ?_
  refine lv_iload_n hx hb dJ0_getBytes_840e7_14 rfl (lv_at hl 2 rfl) ?_
  refine lv_iload_n hx hb dJ0_getBytes_840e7_15 rfl (lv_at hl 3 rfl) ?_
  refine lv_ishl hx hb dJ0_getBytes_840e7_16 ?_
  refine g_top (v := nI n) ((shl0 _).symm) ?_
  refine lv_aload_n hx hb dJ0_getBytes_840e7_17 rfl (lv_at hl 0 rfl) ?_
  refine vk_getf hx hb (hJ.2.2.2.2.2 g hg).2.2.1 hI.2.2 hown (hts _ w1566) (fun _ h9 => h9) dJ0_getBytes_840e7_18 ?_
  refine va_tlen hx hb (hJ.2.2.2.2.2 g hg).2.2.2 hI.2.2 (v := nI g.2.2.length) rfl dJ0_getBytes_840e7_21 ?_
  refine vk_copyt hx hb (hC.1.2.2.1.trans hl.1.symm) hown (hts _ w1486) (hts _ w395) (hts _ w394) (hts _ w17) hK hI.1 hI.2.1 hI.2.2 (f := fun j => g.2.2.getD j 0) (hJ.2.2.2.2.2 g hg).2.2.2 0 3 rfl rfl (by decide) (nI_pos (by omega)) (nI_pos (by omega)) (show (0 : Int32).toNatClampNeg + (nI g.2.2.length).toNatClampNeg ≤ g.2.2.length by rw [nI_clamp (by omega)]; exact Nat.le_of_eq (Nat.zero_add _)) (show (nI n).toNatClampNeg + (nI g.2.2.length).toNatClampNeg ≤ cap by rw [nI_clamp (by omega), nI_clamp (by omega)]; exact hn) (fun i hi => h7.fit _) (Nat.le_of_ble_eq_true rfl) (Nat.le_of_ble_eq_true rfl) dJ0_getBytes_840e7_22 (fun H locs hP hD hS => ?_)
  rw [nI_clamp (show g.2.2.length < 2 ^ 31 by omega), nI_clamp (show n < 2 ^ 31 by omega), show (0 : Int32).toNatClampNeg = 0 by decide] at hP hD
  replace hI : jI D s A [(v, .inl (cid 3, cap, .inl (va_cpy (fun j => g.2.2.getD j 0) a 0 n g.2.2.length)))] H locs := ⟨hP, hD, hS⟩
  refine lv_goto (tgt := 43) hx hb dJ0_getBytes_840e7_25 rfl ?_
  exact kk _ () _ _ _ _ _ _ _ rfl rfl hI ⟨Nat.le_of_ble_eq_true rfl, Nat.le_of_ble_eq_true rfl⟩ (Or.inr (Or.inl ⟨rfl, rfl, dJ0_getBytes_840e7_43⟩))
theorem dJ5_putStringAt_47b60_0 : decode cJ5_putStringAt_47b60 0 = .ok (.aload_n 0, 1) := by decide +kernel
theorem dJ5_putStringAt_47b60_1 : decode cJ5_putStringAt_47b60 1 = .ok (.aload_n 2, 1) := by decide +kernel
theorem dJ5_putStringAt_47b60_2 : decode cJ5_putStringAt_47b60 2 = .ok (.invokevirtual 397, 3) := by decide +kernel
theorem dJ5_putStringAt_47b60_5 : decode cJ5_putStringAt_47b60 5 = .ok (.aload_n 2, 1) := by decide +kernel
theorem dJ5_putStringAt_47b60_6 : decode cJ5_putStringAt_47b60 6 = .ok (.aload_n 0, 1) := by decide +kernel
theorem dJ5_putStringAt_47b60_7 : decode cJ5_putStringAt_47b60 7 = .ok (.getfield 15, 3) := by decide +kernel
theorem dJ5_putStringAt_47b60_10 : decode cJ5_putStringAt_47b60 10 = .ok (.iload_n 1, 1) := by decide +kernel
theorem dJ5_putStringAt_47b60_11 : decode cJ5_putStringAt_47b60 11 = .ok (.aload_n 0, 1) := by decide +kernel
theorem dJ5_putStringAt_47b60_12 : decode cJ5_putStringAt_47b60 12 = .ok (.getfield 22, 3) := by decide +kernel
theorem dJ5_putStringAt_47b60_15 : decode cJ5_putStringAt_47b60 15 = .ok (.invokevirtual 399, 3) := by decide +kernel
theorem dJ5_putStringAt_47b60_18 : decode cJ5_putStringAt_47b60 18 = .ok (.return_, 1) := by decide +kernel
set_option maxRecDepth 100000 in
set_option maxHeartbeats 4000000 in
theorem J_putString (l : Launch) (D : va_G) (cid : Nat → ClassId) (J : jA) {g : Nat × (Nat × List Int32)} (hg : g ∈ J.2.2.2.2.2.2) {q v n cap : Nat} {a : Nat → Int32} {c0 : Int32} (h7 : seven g.2.2) (hn : n + g.2.2.length ≤ cap) (hc : cap ≤ 300) : jM l D cid J yJ5_putStringAt_47b60 (.code yJ5_putStringAt_47b60 cJ5_putStringAt_47b60 3 none) (gRX 2 100 0 0) [.ref q, .int (nI n), .ref g.1] [(q, .inr (1, [.ref v, .int 0, .int 0, .int c0])), (v, .inl (cid 3, cap, .inl a))] [] 0 0 (α := Unit) (fun rv _ => rv = none) (fun _ => [(q, .inr (1, [.ref v, .int 0, .int 0, .int c0])), (v, .inl (cid 3, cap, .inl (va_cpy (fun j => g.2.2.getD j 0) a 0 n g.2.2.length)))]) := by
  refine jMet (by decide +kernel) (Nat.le_of_ble_eq_true rfl) ?_
  intro p e s m args below meth c H locs ls Q A hA hC hni hl hI kk
  replace hC : jC p s m args c cJ5_putStringAt_47b60 3 "java/lang/AbstractStringBuilder" D cid J A [] := hC
  replace hl : lv_has ls 3 [(0, .ref q), (1, .int (nI n)), (2, .ref g.1)] := hl
  replace hI : jI D s A [(q, .inr (1, [.ref v, .int 0, .int 0, .int c0])), (v, .inl (cid 3, cap, .inl a))] H locs := hI
  have hx := hC.1.1
  have hb := hC.1.2.1
  have hown := hC.1.2.2.2.1
  have hts := hC.1.2.2.2.2.1
  have hK := hC.1.2.2.2.2.2.1
  have hAn := hC.2.2.1
  have hJ := hC.2.1
  refine lv_aload_n hx hb dJ5_putStringAt_47b60_0 rfl (lv_at hl 0 rfl) ?_
  refine lv_aload_n hx hb dJ5_putStringAt_47b60_1 rfl (lv_at hl 2 rfl) ?_
  replace hI : jI D s A [(v, .inl (cid 3, cap, .inl a)), (q, .inr (1, [.ref v, .int 0, .int 0, .int c0]))] _ _ := j_sub hI [1, 0] rfl rfl
  refine j_callVC (rest := []) [(v, .inl (cid 3, cap, .inl a))] "java/lang/StringBuilder" hC hI (J_inflate l D cid J hg (v := v) (n := c0)) (fun _ h => absurd h List.not_mem_nil) Z_J5_inflateIfNeededFor_a7421 ZI_J5_inflateIfNeededFor_a7421 (sb_sel rfl (hts _ w1436) (va_Nw.use rfl (hJ.2.2.1.2.2.2.2 _ (by decide +kernel))) (hts _ ZI_J5_inflateIfNeededFor_a7421)) w1458 (va_recv hK hI.1 (ci := 1) rfl (q0 := 1) rfl) ⟨rfl, rfl⟩ ⟨Nat.le_of_ble_eq_true rfl, Nat.le_of_ble_eq_true rfl⟩ rfl hl.1 rfl (Nat.le_of_ble_eq_true rfl) dJ5_putStringAt_47b60_2 ⟨Nat.le_of_ble_eq_true rfl, Nat.le_of_ble_eq_true rfl⟩ (fun rv u H1 locs1 hp hI hk1 => ?_)
  obtain rfl := hp
  replace hI : jI D s A [(v, .inl (cid 3, cap, .inl a)), (q, .inr (1, [.ref v, .int 0, .int 0, .int c0]))] H1 locs1 := hI
  refine lv_aload_n hx hb dJ5_putStringAt_47b60_5 rfl (lv_at hl 2 rfl) ?_
  refine lv_aload_n hx hb dJ5_putStringAt_47b60_6 rfl (lv_at hl 0 rfl) ?_
  refine va_get (D := D) (ci := 1) (v := .ref v) hx hb hts uJ4' hown hK hI.1 1 rfl rfl 0 (by decide) (hts _ w1389) (fun _ h9 => h9) rfl dJ5_putStringAt_47b60_7 ?_
  refine lv_iload_n hx hb dJ5_putStringAt_47b60_10 rfl (lv_at hl 1 rfl) ?_
  refine lv_aload_n hx hb dJ5_putStringAt_47b60_11 rfl (lv_at hl 0 rfl) ?_
  refine va_get (D := D) (ci := 1) (v := .int 0) hx hb hts uJ4' hown hK hI.1 1 rfl rfl 1 (by decide) (hts _ w1390) (fun _ h9 => h9) rfl dJ5_putStringAt_47b60_12 ?_
  replace hI : jI D s A [(q, .inr (1, [.ref v, .int 0, .int 0, .int c0])), (v, .inl (cid 3, cap, .inl a))] _ _ := j_sub hI [1, 0] rfl rfl
  refine j_callV (rest := []) [(q, .inr (1, [.ref v, .int 0, .int 0, .int c0]))] hC hI (J_getBytes l D cid J hg (a := a) h7 hn hc) (fun _ h => absurd h List.not_mem_nil) Z_J0_getBytes_840e7 ZV_J0_getBytes_840e7 w1482 (j_strR (hJ.2.2.2.2.2 g hg).1 hI.2.2) ⟨rfl, rfl⟩ ⟨Nat.le_of_ble_eq_true rfl, Nat.le_of_ble_eq_true rfl⟩ rfl hl.1 rfl (Nat.le_of_ble_eq_true rfl) dJ5_putStringAt_47b60_15 ⟨Nat.le_of_ble_eq_true rfl, Nat.le_of_ble_eq_true rfl⟩ (fun rv u H1 locs1 hp hI hk1 => ?_)
  obtain rfl := hp
  replace hI : jI D s A [(q, .inr (1, [.ref v, .int 0, .int 0, .int c0])), (v, .inl (cid 3, cap, .inl (va_cpy (fun j => g.2.2.getD j 0) a 0 n g.2.2.length)))] H1 locs1 := hI
  exact kk _ () _ _ _ _ _ _ _ rfl rfl hI ⟨Nat.le_of_ble_eq_true rfl, Nat.le_of_ble_eq_true rfl⟩ (Or.inr (Or.inl ⟨rfl, rfl, dJ5_putStringAt_47b60_18⟩))
theorem dJ5_append_cf1ce_0 : decode cJ5_append_cf1ce 0 = .ok (.aload_n 1, 1) := by decide +kernel
theorem dJ5_append_cf1ce_1 : decode cJ5_append_cf1ce 1 = .ok (.ifnonnull 8, 3) := by decide +kernel
theorem dJ5_append_cf1ce_4 : decode cJ5_append_cf1ce 4 = .ok (.aload_n 0, 1) := by decide +kernel
theorem dJ5_append_cf1ce_5 : decode cJ5_append_cf1ce 5 = .ok (.invokevirtual 204, 3) := by decide +kernel
theorem dJ5_append_cf1ce_8 : decode cJ5_append_cf1ce 8 = .ok (.areturn, 1) := by decide +kernel
theorem dJ5_append_cf1ce_9 : decode cJ5_append_cf1ce 9 = .ok (.aload_n 1, 1) := by decide +kernel
theorem dJ5_append_cf1ce_10 : decode cJ5_append_cf1ce 10 = .ok (.invokevirtual 32, 3) := by decide +kernel
theorem dJ5_append_cf1ce_13 : decode cJ5_append_cf1ce 13 = .ok (.istore_n 2, 1) := by decide +kernel
theorem dJ5_append_cf1ce_14 : decode cJ5_append_cf1ce 14 = .ok (.aload_n 0, 1) := by decide +kernel
theorem dJ5_append_cf1ce_15 : decode cJ5_append_cf1ce 15 = .ok (.aload_n 0, 1) := by decide +kernel
theorem dJ5_append_cf1ce_16 : decode cJ5_append_cf1ce 16 = .ok (.getfield 79, 3) := by decide +kernel
theorem dJ5_append_cf1ce_19 : decode cJ5_append_cf1ce 19 = .ok (.iload_n 2, 1) := by decide +kernel
theorem dJ5_append_cf1ce_20 : decode cJ5_append_cf1ce 20 = .ok (.iadd, 1) := by decide +kernel
theorem dJ5_append_cf1ce_21 : decode cJ5_append_cf1ce 21 = .ok (.invokevirtual 100, 3) := by decide +kernel
theorem dJ5_append_cf1ce_24 : decode cJ5_append_cf1ce 24 = .ok (.aload_n 0, 1) := by decide +kernel
theorem dJ5_append_cf1ce_25 : decode cJ5_append_cf1ce 25 = .ok (.aload_n 0, 1) := by decide +kernel
theorem dJ5_append_cf1ce_26 : decode cJ5_append_cf1ce 26 = .ok (.getfield 79, 3) := by decide +kernel
theorem dJ5_append_cf1ce_29 : decode cJ5_append_cf1ce 29 = .ok (.aload_n 1, 1) := by decide +kernel
theorem dJ5_append_cf1ce_30 : decode cJ5_append_cf1ce 30 = .ok (.invokevirtual 208, 3) := by decide +kernel
theorem dJ5_append_cf1ce_33 : decode cJ5_append_cf1ce 33 = .ok (.aload_n 0, 1) := by decide +kernel
theorem dJ5_append_cf1ce_34 : decode cJ5_append_cf1ce 34 = .ok (.dup, 1) := by decide +kernel
theorem dJ5_append_cf1ce_35 : decode cJ5_append_cf1ce 35 = .ok (.getfield 79, 3) := by decide +kernel
theorem dJ5_append_cf1ce_38 : decode cJ5_append_cf1ce 38 = .ok (.iload_n 2, 1) := by decide +kernel
theorem dJ5_append_cf1ce_39 : decode cJ5_append_cf1ce 39 = .ok (.iadd, 1) := by decide +kernel
theorem dJ5_append_cf1ce_40 : decode cJ5_append_cf1ce 40 = .ok (.putfield 79, 3) := by decide +kernel
theorem dJ5_append_cf1ce_43 : decode cJ5_append_cf1ce 43 = .ok (.aload_n 0, 1) := by decide +kernel
theorem dJ5_append_cf1ce_44 : decode cJ5_append_cf1ce 44 = .ok (.areturn, 1) := by decide +kernel
set_option maxRecDepth 100000 in
set_option maxHeartbeats 4000000 in
theorem J_appS (l : Launch) (D : va_G) (cid : Nat → ClassId) (J : jA) {g : Nat × (Nat × List Int32)} (hg : g ∈ J.2.2.2.2.2.2) {q v cap : Nat} {a : Nat → Int32} {T : List Int32} (h7 : seven g.2.2) (h2 : (T.length + g.2.2.length) ≤ 2 * cap + 2) (h3 : cap ≤ 100) (hT : sbH T cap a) : jM l D cid J yJ5_append_cf1ce (.code yJ5_append_cf1ce cJ5_append_cf1ce 3 (some (.object "java/lang/AbstractStringBuilder"))) (gRX 6 200 1 300) [.ref q, .ref g.1] [(q, .inr (1, [.ref v, .int 0, .int 0, .int (nI T.length)])), (v, .inl (cid 3, cap, .inl a))] [] 1 300 (α := Nat × (Nat → Int32)) (fun rv u => rv = some (.ref q) ∧ sbH (T ++ g.2.2) (sbC (T.length + g.2.2.length) cap) u.2) (fun u => [(q, .inr (1, [.ref u.1, .int 0, .int 0, .int (nI (T.length + g.2.2.length))])), (u.1, .inl (cid 3, (sbC (T.length + g.2.2.length) cap), .inl u.2))]) := by
  refine jMet (by decide +kernel) (Nat.le_of_ble_eq_true rfl) ?_
  intro p e s m args below meth c H locs ls Q A hA hC hni hl hI kk
  replace hC : jC p s m args c cJ5_append_cf1ce 3 "java/lang/AbstractStringBuilder" D cid J A [] := hC
  replace hl : lv_has ls 3 [(0, .ref q), (1, .ref g.1)] := hl
  replace hI : jI D s A [(q, .inr (1, [.ref v, .int 0, .int 0, .int (nI T.length)])), (v, .inl (cid 3, cap, .inl a))] H locs := hI
  have hx := hC.1.1
  have hb := hC.1.2.1
  have hown := hC.1.2.2.2.1
  have hts := hC.1.2.2.2.2.1
  have hK := hC.1.2.2.2.2.2.1
  have hAn := hC.2.2.1
  have hJ := hC.2.1
  refine lv_aload_n hx hb dJ5_append_cf1ce_0 rfl (lv_at hl 1 rfl) ?_
  refine lv_ifnonnull (tgt := 9) hx hb dJ5_append_cf1ce_1 rfl ?_
  have hc0 := sbC_le h2
  have hc1 := sbC_le2 (T.length + g.2.2.length) cap
  refine lv_aload_n hx hb dJ5_append_cf1ce_9 rfl (lv_at hl 1 rfl) ?_
  refine j_callV (rest := []) [(q, .inr (1, [.ref v, .int 0, .int 0, .int (nI T.length)])), (v, .inl (cid 3, cap, .inl a))] hC hI (J_strLen l D cid J hg) (fun _ h => absurd h List.not_mem_nil) Z_J0_length_8abf5 ZV_J0_length_8abf5 w1453 (j_strR (hJ.2.2.2.2.2 g hg).1 hI.2.2) ⟨rfl, rfl⟩ ⟨Nat.le_of_ble_eq_true rfl, Nat.le_of_ble_eq_true rfl⟩ rfl hl.1 rfl (Nat.le_of_ble_eq_true rfl) dJ5_append_cf1ce_10 ⟨Nat.le_of_ble_eq_true rfl, Nat.le_of_ble_eq_true rfl⟩ (fun rv u H1 locs1 hp hI hk1 => ?_)
  obtain rfl := hp
  replace hI : jI D s A [(q, .inr (1, [.ref v, .int 0, .int 0, .int (nI T.length)])), (v, .inl (cid 3, cap, .inl a))] H1 locs1 := hI
  refine lv_istore_n (lv' := [(2, .int (nI g.2.2.length)), (0, .ref q), (1, .ref g.1)]) hx hb dJ5_append_cf1ce_13 rfl hl (by decide) rfl (fun ls hl => ?_)
  refine lv_aload_n hx hb dJ5_append_cf1ce_14 rfl (lv_at hl 1 rfl) ?_
  refine lv_aload_n hx hb dJ5_append_cf1ce_15 rfl (lv_at hl 1 rfl) ?_
  refine va_get (D := D) (ci := 1) (v := .int (nI T.length)) hx hb hts uJ4' hown hK hI.1 0 rfl rfl 3 (by decide) (hts _ w1392) (fun _ h9 => h9) rfl dJ5_append_cf1ce_16 ?_
  refine lv_iload_n hx hb dJ5_append_cf1ce_19 rfl (lv_at hl 0 rfl) ?_
  refine lv_iadd hx hb dJ5_append_cf1ce_20 ?_
  refine g_top (v := nI (T.length + g.2.2.length)) ((nI_add _ _).symm) ?_
  refine j_callVC (rest := []) ([] : va_W) "java/lang/StringBuilder" hC hI (J_ensure l D cid J (n := nI T.length) h2 h3 hT) (fun _ h => absurd h List.not_mem_nil) Z_J5_ensureCapacityInternal_d00df ZI_J5_ensureCapacityInternal_d00df (sb_sel rfl (hts _ w1436) (va_Nw.use rfl (hJ.2.2.1.2.2.2.2 _ (by decide +kernel))) (hts _ ZI_J5_ensureCapacityInternal_d00df)) w1413 (va_recv hK hI.1 (ci := 1) rfl (q0 := 0) rfl) ⟨rfl, rfl⟩ ⟨Nat.le_of_ble_eq_true rfl, Nat.le_of_ble_eq_true rfl⟩ rfl hl.1 rfl (Nat.le_of_ble_eq_true rfl) dJ5_append_cf1ce_21 ⟨Nat.le_of_ble_eq_true rfl, Nat.le_of_ble_eq_true rfl⟩ (fun rv u H1 locs1 hp hI hk1 => ?_)
  obtain ⟨rfl, hT1⟩ := hp
  obtain ⟨w, a1⟩ := u
  replace hI : jI D s A [(q, .inr (1, [.ref w, .int 0, .int 0, .int (nI T.length)])), (w, .inl (cid 3, (sbC (T.length + g.2.2.length) cap), .inl a1))] H1 locs1 := hI
  refine lv_aload_n hx hb dJ5_append_cf1ce_24 rfl (lv_at hl 1 rfl) ?_
  refine lv_aload_n hx hb dJ5_append_cf1ce_25 rfl (lv_at hl 1 rfl) ?_
  refine va_get (D := D) (ci := 1) (v := .int (nI T.length)) hx hb hts uJ4' hown hK hI.1 0 rfl rfl 3 (by decide) (hts _ w1392) (fun _ h9 => h9) rfl dJ5_append_cf1ce_26 ?_
  refine lv_aload_n hx hb dJ5_append_cf1ce_29 rfl (lv_at hl 2 rfl) ?_
  refine j_callVC (rest := []) ([] : va_W) "java/lang/StringBuilder" hC hI (J_putString l D cid J hg (c0 := nI T.length) (a := a1) h7 hc0 (by omega)) (fun _ h => absurd h List.not_mem_nil) Z_J5_putStringAt_47b60 ZI_J5_putStringAt_47b60 (sb_sel rfl (hts _ w1436) (va_Nw.use rfl (hJ.2.2.1.2.2.2.2 _ (by decide +kernel))) (hts _ ZI_J5_putStringAt_47b60)) w1454 (va_recv hK hI.1 (ci := 1) rfl (q0 := 0) rfl) ⟨rfl, rfl⟩ ⟨Nat.le_of_ble_eq_true rfl, Nat.le_of_ble_eq_true rfl⟩ rfl hl.1 rfl (Nat.le_of_ble_eq_true rfl) dJ5_append_cf1ce_30 ⟨Nat.le_of_ble_eq_true rfl, Nat.le_of_ble_eq_true rfl⟩ (fun rv u H1 locs1 hp hI hk1 => ?_)
  obtain rfl := hp
  replace hI : jI D s A [(q, .inr (1, [.ref w, .int 0, .int 0, .int (nI T.length)])), (w, .inl (cid 3, (sbC (T.length + g.2.2.length) cap), .inl (va_cpy (fun j => g.2.2.getD j 0) a1 0 T.length g.2.2.length)))] H1 locs1 := hI
  refine lv_aload_n hx hb dJ5_append_cf1ce_33 rfl (lv_at hl 1 rfl) ?_
  refine lv_dup hx hb dJ5_append_cf1ce_34 rfl ?_
  refine va_get (D := D) (ci := 1) (v := .int (nI T.length)) hx hb hts uJ4' hown hK hI.1 0 rfl rfl 3 (by decide) (hts _ w1392) (fun _ h9 => h9) rfl dJ5_append_cf1ce_35 ?_
  refine lv_iload_n hx hb dJ5_append_cf1ce_38 rfl (lv_at hl 0 rfl) ?_
  refine lv_iadd hx hb dJ5_append_cf1ce_39 ?_
  refine g_top (v := nI (T.length + g.2.2.length)) ((nI_add _ _).symm) ?_
  refine va_put hx hb hts uJ4' tyJ4 tyJ4_ok nmJ4 hown hK hI.1 hI.2.1 hI.2.2 0 (by rfl) rfl 3 (by decide) (hts _ w1392) (fun _ h9 => h9) rfl (ty := .int) (by decide +kernel) rfl rfl (Nat.le_of_ble_eq_true rfl) dJ5_append_cf1ce_40 (fun H locs hP hD hS => ?_)
  replace hI : jI D s A [(q, .inr (1, [.ref w, .int 0, .int 0, .int (nI (T.length + g.2.2.length))])), (w, .inl (cid 3, (sbC (T.length + g.2.2.length) cap), .inl (va_cpy (fun j => g.2.2.getD j 0) a1 0 T.length g.2.2.length)))] H locs := ⟨hP, hD, hS⟩
  refine lv_aload_n hx hb dJ5_append_cf1ce_43 rfl (lv_at hl 1 rfl) ?_
  exact kk _ (w, (va_cpy (fun j => g.2.2.getD j 0) a1 0 T.length g.2.2.length)) _ _ _ _ _ _ _ ⟨rfl, hT1.app h7 hc0⟩ rfl hI ⟨Nat.le_of_ble_eq_true rfl, Nat.le_of_ble_eq_true rfl⟩ (Or.inr (Or.inr ⟨_, _, rfl, rfl, (by first | exact Or.inl ⟨_, rfl⟩ | exact Or.inr ⟨_, rfl⟩), dJ5_append_cf1ce_44⟩))
theorem dJ4_append_15ec4_0 : decode cJ4_append_15ec4 0 = .ok (.aload_n 0, 1) := by decide +kernel
theorem dJ4_append_15ec4_1 : decode cJ4_append_15ec4 1 = .ok (.aload_n 1, 1) := by decide +kernel
theorem dJ4_append_15ec4_2 : decode cJ4_append_15ec4 2 = .ok (.invokespecial 29, 3) := by decide +kernel
theorem dJ4_append_15ec4_5 : decode cJ4_append_15ec4 5 = .ok (.pop, 1) := by decide +kernel
theorem dJ4_append_15ec4_6 : decode cJ4_append_15ec4 6 = .ok (.aload_n 0, 1) := by decide +kernel
theorem dJ4_append_15ec4_7 : decode cJ4_append_15ec4 7 = .ok (.areturn, 1) := by decide +kernel
set_option maxRecDepth 100000 in
set_option maxHeartbeats 4000000 in
theorem J_appendS (l : Launch) (D : va_G) (cid : Nat → ClassId) (J : jA) {g : Nat × (Nat × List Int32)} (hg : g ∈ J.2.2.2.2.2.2) {q v cap : Nat} {a : Nat → Int32} {T : List Int32} (h7 : seven g.2.2) (h2 : (T.length + g.2.2.length) ≤ 2 * cap + 2) (h3 : cap ≤ 100) (hT : sbH T cap a) : jM l D cid J yJ4_append_15ec4 (.code yJ4_append_15ec4 cJ4_append_15ec4 2 (some (.object "java/lang/StringBuilder"))) (gRX 7 240 1 300) [.ref q, .ref g.1] [(q, .inr (1, [.ref v, .int 0, .int 0, .int (nI T.length)])), (v, .inl (cid 3, cap, .inl a))] [] 1 300 (α := Nat × (Nat → Int32)) (fun rv u => rv = some (.ref q) ∧ sbH (T ++ g.2.2) (sbC (T.length + g.2.2.length) cap) u.2) (fun u => [(q, .inr (1, [.ref u.1, .int 0, .int 0, .int (nI (T.length + g.2.2.length))])), (u.1, .inl (cid 3, (sbC (T.length + g.2.2.length) cap), .inl u.2))]) := by
  refine jMet (by decide +kernel) (Nat.le_of_ble_eq_true rfl) ?_
  intro p e s m args below meth c H locs ls Q A hA hC hni hl hI kk
  replace hC : jC p s m args c cJ4_append_15ec4 2 "java/lang/StringBuilder" D cid J A [] := hC
  replace hl : lv_has ls 2 [(0, .ref q), (1, .ref g.1)] := hl
  replace hI : jI D s A [(q, .inr (1, [.ref v, .int 0, .int 0, .int (nI T.length)])), (v, .inl (cid 3, cap, .inl a))] H locs := hI
  have hx := hC.1.1
  have hb := hC.1.2.1
  have hown := hC.1.2.2.2.1
  have hts := hC.1.2.2.2.2.1
  have hK := hC.1.2.2.2.2.2.1
  have hAn := hC.2.2.1
  have hJ := hC.2.1
  refine lv_aload_n hx hb dJ4_append_15ec4_0 rfl (lv_at hl 0 rfl) ?_
  refine lv_aload_n hx hb dJ4_append_15ec4_1 rfl (lv_at hl 1 rfl) ?_
  refine j_callSU (rest := []) ([] : va_W) (hK.1 1 _ rfl).2 hC hI (J_appS l D cid J hg h7 h2 h3 hT) (fun _ h => absurd h List.not_mem_nil) Z_J5_append_cf1ce ZI_J5_append_cf1ce w1595 w1401 (by decide) w1406 (va_recv hK hI.1 (ci := 1) rfl (q0 := 0) rfl) ⟨rfl, rfl⟩ ⟨Nat.le_of_ble_eq_true rfl, Nat.le_of_ble_eq_true rfl⟩ rfl hl.1 rfl (Nat.le_of_ble_eq_true rfl) dJ4_append_15ec4_2 ⟨Nat.le_of_ble_eq_true rfl, Nat.le_of_ble_eq_true rfl⟩ (fun rv u H1 locs1 hp hI hk1 => ?_)
  obtain ⟨rfl, hT1⟩ := hp
  replace hI : jI D s A [(q, .inr (1, [.ref u.1, .int 0, .int 0, .int (nI (T.length + g.2.2.length))])), (u.1, .inl (cid 3, (sbC (T.length + g.2.2.length) cap), .inl u.2))] H1 locs1 := hI
  refine lv_pop hx hb dJ4_append_15ec4_5 rfl ?_
  refine lv_aload_n hx hb dJ4_append_15ec4_6 rfl (lv_at hl 0 rfl) ?_
  exact kk _ u _ _ _ _ _ _ _ ⟨rfl, hT1⟩ rfl hI ⟨Nat.le_of_ble_eq_true rfl, Nat.le_of_ble_eq_true rfl⟩ (Or.inr (Or.inr ⟨_, _, rfl, rfl, (by first | exact Or.inl ⟨_, rfl⟩ | exact Or.inr ⟨_, rfl⟩), dJ4_append_15ec4_7⟩))
theorem dJ6_stringSize_0f7a4_0 : decode cJ6_stringSize_0f7a4 0 = .ok (.iconst 1, 1) := by decide +kernel
theorem dJ6_stringSize_0f7a4_1 : decode cJ6_stringSize_0f7a4 1 = .ok (.istore_n 1, 1) := by decide +kernel
theorem dJ6_stringSize_0f7a4_2 : decode cJ6_stringSize_0f7a4 2 = .ok (.iload_n 0, 1) := by decide +kernel
theorem dJ6_stringSize_0f7a4_3 : decode cJ6_stringSize_0f7a4 3 = .ok (.ifCond .lt 8, 3) := by decide +kernel
theorem dJ6_stringSize_0f7a4_6 : decode cJ6_stringSize_0f7a4 6 = .ok (.iconst 0, 1) := by decide +kernel
theorem dJ6_stringSize_0f7a4_7 : decode cJ6_stringSize_0f7a4 7 = .ok (.istore_n 1, 1) := by decide +kernel
theorem dJ6_stringSize_0f7a4_8 : decode cJ6_stringSize_0f7a4 8 = .ok (.iload_n 0, 1) := by decide +kernel
theorem dJ6_stringSize_0f7a4_9 : decode cJ6_stringSize_0f7a4 9 = .ok (.ineg, 1) := by decide +kernel
theorem dJ6_stringSize_0f7a4_10 : decode cJ6_stringSize_0f7a4 10 = .ok (.istore_n 0, 1) := by decide +kernel
theorem dJ6_stringSize_0f7a4_11 : decode cJ6_stringSize_0f7a4 11 = .ok (.bipush (-10), 2) := by decide +kernel
theorem dJ6_stringSize_0f7a4_13 : decode cJ6_stringSize_0f7a4 13 = .ok (.istore_n 2, 1) := by decide +kernel
theorem dJ6_stringSize_0f7a4_14 : decode cJ6_stringSize_0f7a4 14 = .ok (.iconst 1, 1) := by decide +kernel
theorem dJ6_stringSize_0f7a4_15 : decode cJ6_stringSize_0f7a4 15 = .ok (.istore_n 3, 1) := by decide +kernel
theorem dJ6_stringSize_0f7a4_16 : decode cJ6_stringSize_0f7a4 16 = .ok (.iload_n 3, 1) := by decide +kernel
theorem dJ6_stringSize_0f7a4_17 : decode cJ6_stringSize_0f7a4 17 = .ok (.bipush 10, 2) := by decide +kernel
theorem dJ6_stringSize_0f7a4_19 : decode cJ6_stringSize_0f7a4 19 = .ok (.if_icmp .ge 23, 3) := by decide +kernel
theorem dJ6_stringSize_0f7a4_22 : decode cJ6_stringSize_0f7a4 22 = .ok (.iload_n 0, 1) := by decide +kernel
theorem dJ6_stringSize_0f7a4_23 : decode cJ6_stringSize_0f7a4 23 = .ok (.iload_n 2, 1) := by decide +kernel
theorem dJ6_stringSize_0f7a4_24 : decode cJ6_stringSize_0f7a4 24 = .ok (.if_icmp .le 7, 3) := by decide +kernel
theorem dJ6_stringSize_0f7a4_27 : decode cJ6_stringSize_0f7a4 27 = .ok (.iload_n 3, 1) := by decide +kernel
theorem dJ6_stringSize_0f7a4_28 : decode cJ6_stringSize_0f7a4 28 = .ok (.iload_n 1, 1) := by decide +kernel
theorem dJ6_stringSize_0f7a4_29 : decode cJ6_stringSize_0f7a4 29 = .ok (.iadd, 1) := by decide +kernel
theorem dJ6_stringSize_0f7a4_30 : decode cJ6_stringSize_0f7a4 30 = .ok (.ireturn, 1) := by decide +kernel
theorem dJ6_stringSize_0f7a4_31 : decode cJ6_stringSize_0f7a4 31 = .ok (.bipush 10, 2) := by decide +kernel
theorem dJ6_stringSize_0f7a4_33 : decode cJ6_stringSize_0f7a4 33 = .ok (.iload_n 2, 1) := by decide +kernel
theorem dJ6_stringSize_0f7a4_34 : decode cJ6_stringSize_0f7a4 34 = .ok (.imul, 1) := by decide +kernel
theorem dJ6_stringSize_0f7a4_35 : decode cJ6_stringSize_0f7a4 35 = .ok (.istore_n 2, 1) := by decide +kernel
theorem dJ6_stringSize_0f7a4_36 : decode cJ6_stringSize_0f7a4 36 = .ok (.iinc 3 1, 3) := by decide +kernel
theorem dJ6_stringSize_0f7a4_39 : decode cJ6_stringSize_0f7a4 39 = .ok (.goto (-23), 3) := by decide +kernel
theorem dJ6_stringSize_0f7a4_42 : decode cJ6_stringSize_0f7a4 42 = .ok (.bipush 10, 2) := by decide +kernel
theorem dJ6_stringSize_0f7a4_44 : decode cJ6_stringSize_0f7a4 44 = .ok (.iload_n 1, 1) := by decide +kernel
theorem dJ6_stringSize_0f7a4_45 : decode cJ6_stringSize_0f7a4 45 = .ok (.iadd, 1) := by decide +kernel
theorem dJ6_stringSize_0f7a4_46 : decode cJ6_stringSize_0f7a4 46 = .ok (.ireturn, 1) := by decide +kernel
set_option maxRecDepth 100000 in
set_option maxHeartbeats 4000000 in
theorem J_strSize (l : Launch) (D : va_G) (cid : Nat → ClassId) (J : jA) {x : Nat} (hx1 : x < 100) : jM l D cid J yJ6_stringSize_0f7a4 (.code yJ6_stringSize_0f7a4 cJ6_stringSize_0f7a4 4 (some .int)) (gRX 0 0 0 0) [.int (nI x)] ([] : va_W) [] 0 0 (α := Unit) (fun rv _ => rv = some (.int (nI (dLen x)))) (fun _ => []) := by
  refine jMet (by decide +kernel) (Nat.le_of_ble_eq_true rfl) ?_
  intro p e s m args below meth c H locs ls Q A hA hC hni hl hI kk
  replace hC : jC p s m args c cJ6_stringSize_0f7a4 4 "java/lang/Integer" D cid J A [] := hC
  replace hl : lv_has ls 4 [(0, .int (nI x))] := hl
  replace hI : jI D s A ([] : va_W) H locs := hI
  have hx := hC.1.1
  have hb := hC.1.2.1
  have hown := hC.1.2.2.2.1
  have hts := hC.1.2.2.2.2.1
  have hK := hC.1.2.2.2.2.2.1
  have hAn := hC.2.2.1
  have hJ := hC.2.1
  obtain ⟨d1, d2, d3, d4⟩ := d_neg x hx1
  refine lv_iconst (v := 1) hx hb dJ6_stringSize_0f7a4_0 (by decide) ?_
  refine lv_istore_n (lv' := [(1, .int 1), (0, .int (nI x))]) hx hb dJ6_stringSize_0f7a4_1 rfl hl (by decide) rfl (fun ls hl => ?_)
  refine lv_iload_n hx hb dJ6_stringSize_0f7a4_2 rfl (lv_at hl 1 rfl) ?_
  refine lv_if_lt (tgt := 11) hx hb dJ6_stringSize_0f7a4_3 rfl (fun h => absurd h (nI_pos (by omega))) (fun _ => ?_)
  refine lv_iconst (v := 0) hx hb dJ6_stringSize_0f7a4_6 (by decide) ?_
  refine lv_istore_n (lv' := [(1, .int 0), (0, .int (nI x))]) hx hb dJ6_stringSize_0f7a4_7 rfl hl (by decide) rfl (fun ls hl => ?_)
  refine lv_iload_n hx hb dJ6_stringSize_0f7a4_8 rfl (lv_at hl 1 rfl) ?_
  refine lv_ineg hx hb dJ6_stringSize_0f7a4_9 ?_
  refine lv_istore_n (lv' := [(0, .int (-(nI x))), (1, .int 0)]) hx hb dJ6_stringSize_0f7a4_10 rfl hl (by decide) rfl (fun ls hl => ?_)
  refine lv_bipush (v := (-10)) hx hb dJ6_stringSize_0f7a4_11 (by decide) ?_
  refine lv_istore_n (lv' := [(2, .int (-10)), (0, .int (-(nI x))), (1, .int 0)]) hx hb dJ6_stringSize_0f7a4_13 rfl hl (by decide) rfl (fun ls hl => ?_)
  refine lv_iconst (v := 1) hx hb dJ6_stringSize_0f7a4_14 (by decide) ?_
  refine lv_istore_n (lv' := [(3, .int 1), (2, .int (-10)), (0, .int (-(nI x))), (1, .int 0)]) hx hb dJ6_stringSize_0f7a4_15 rfl hl (by decide) rfl (fun ls hl => ?_)
  refine lv_iload_n hx hb dJ6_stringSize_0f7a4_16 rfl (lv_at hl 0 rfl) ?_
  refine lv_bipush (v := 10) hx hb dJ6_stringSize_0f7a4_17 (by decide) ?_
  refine lv_icmp_ge (tgt := 42) hx hb dJ6_stringSize_0f7a4_19 rfl (fun h => absurd h (by decide)) (fun _ => ?_)
  refine lv_iload_n hx hb dJ6_stringSize_0f7a4_22 rfl (lv_at hl 2 rfl) ?_
  refine lv_iload_n hx hb dJ6_stringSize_0f7a4_23 rfl (lv_at hl 1 rfl) ?_
  by_cases hlt : x < 10
  · refine lv_icmp_le (tgt := 31) hx hb dJ6_stringSize_0f7a4_24 rfl (fun h => absurd h (fun h9 => by have := d1.mp h9; omega)) (fun _ => ?_)
    refine lv_iload_n hx hb dJ6_stringSize_0f7a4_27 rfl (lv_at hl 0 rfl) ?_
    refine lv_iload_n hx hb dJ6_stringSize_0f7a4_28 rfl (lv_at hl 3 rfl) ?_
    refine lv_iadd hx hb dJ6_stringSize_0f7a4_29 ?_
    refine g_top (v := nI (dLen x)) (by rw [show dLen x = 1 from if_pos hlt]; decide) ?_
    exact kk _ () _ _ _ _ _ _ _ rfl rfl hI ⟨Nat.le_of_ble_eq_true rfl, Nat.le_of_ble_eq_true rfl⟩ (Or.inl ⟨_, _, rfl, rfl, (by first | rfl | exact gb_nar _), dJ6_stringSize_0f7a4_30⟩)
  · refine lv_icmp_le (tgt := 31) hx hb dJ6_stringSize_0f7a4_24 rfl (fun _ => ?_) (fun h => absurd (d1.mpr (by omega)) h)
    refine lv_bipush (v := 10) hx hb dJ6_stringSize_0f7a4_31 (by decide) ?_
    refine lv_iload_n hx hb dJ6_stringSize_0f7a4_33 rfl (lv_at hl 1 rfl) ?_
    refine lv_imul hx hb dJ6_stringSize_0f7a4_34 ?_
    refine g_top (v := (-100)) (by decide) ?_
    refine lv_istore_n (lv' := [(2, .int (-100)), (3, .int 1), (0, .int (-(nI x))), (1, .int 0)]) hx hb dJ6_stringSize_0f7a4_35 rfl hl (by decide) rfl (fun ls hl => ?_)
    refine lv_iinc (k := 1) (v := 1 + 1) (lv' := [(3, .int (1 + 1)), (2, .int (-100)), (0, .int (-(nI x))), (1, .int 0)]) hx hb dJ6_stringSize_0f7a4_36 hl rfl rfl (by decide) rfl (fun ls hl => ?_)
    refine lv_goto (tgt := 16) hx hb dJ6_stringSize_0f7a4_39 (by decide) ?_
    refine lv_iload_n hx hb dJ6_stringSize_0f7a4_16 rfl (lv_at hl 0 rfl) ?_
    refine lv_bipush (v := 10) hx hb dJ6_stringSize_0f7a4_17 (by decide) ?_
    refine lv_icmp_ge (tgt := 42) hx hb dJ6_stringSize_0f7a4_19 rfl (fun h => absurd h (by decide)) (fun _ => ?_)
    refine lv_iload_n hx hb dJ6_stringSize_0f7a4_22 rfl (lv_at hl 2 rfl) ?_
    refine lv_iload_n hx hb dJ6_stringSize_0f7a4_23 rfl (lv_at hl 1 rfl) ?_
    refine lv_icmp_le (tgt := 31) hx hb dJ6_stringSize_0f7a4_24 rfl (fun h => absurd h d2) (fun _ => ?_)
    refine lv_iload_n hx hb dJ6_stringSize_0f7a4_27 rfl (lv_at hl 0 rfl) ?_
    refine lv_iload_n hx hb dJ6_stringSize_0f7a4_28 rfl (lv_at hl 3 rfl) ?_
    refine lv_iadd hx hb dJ6_stringSize_0f7a4_29 ?_
    refine g_top (v := nI (dLen x)) (by rw [show dLen x = 2 from if_neg hlt]; decide) ?_
    exact kk _ () _ _ _ _ _ _ _ rfl rfl hI ⟨Nat.le_of_ble_eq_true rfl, Nat.le_of_ble_eq_true rfl⟩ (Or.inl ⟨_, _, rfl, rfl, (by first | rfl | exact gb_nar _), dJ6_stringSize_0f7a4_30⟩)
theorem dJ6_getChars_ba4f3_0 : decode cJ6_getChars_ba4f3 0 = .ok (.iload_n 1, 1) := by decide +kernel
theorem dJ6_getChars_ba4f3_1 : decode cJ6_getChars_ba4f3 1 = .ok (.istore 5, 2) := by decide +kernel
theorem dJ6_getChars_ba4f3_3 : decode cJ6_getChars_ba4f3 3 = .ok (.iload_n 0, 1) := by decide +kernel
theorem dJ6_getChars_ba4f3_4 : decode cJ6_getChars_ba4f3 4 = .ok (.ifCond .ge 7, 3) := by decide +kernel
theorem dJ6_getChars_ba4f3_7 : decode cJ6_getChars_ba4f3 7 = .ok (.iconst 1, 1) := by decide +kernel
theorem dJ6_getChars_ba4f3_8 : decode cJ6_getChars_ba4f3 8 = .ok (.goto 4, 3) := by decide +kernel
theorem dJ6_getChars_ba4f3_11 : decode cJ6_getChars_ba4f3 11 = .ok (.iconst 0, 1) := by decide +kernel
theorem dJ6_getChars_ba4f3_12 : decode cJ6_getChars_ba4f3 12 = .ok (.istore 6, 2) := by decide +kernel
theorem dJ6_getChars_ba4f3_14 : decode cJ6_getChars_ba4f3 14 = .ok (.iload 6, 2) := by decide +kernel
theorem dJ6_getChars_ba4f3_16 : decode cJ6_getChars_ba4f3 16 = .ok (.ifCond .ne 6, 3) := by decide +kernel
theorem dJ6_getChars_ba4f3_19 : decode cJ6_getChars_ba4f3 19 = .ok (.iload_n 0, 1) := by decide +kernel
theorem dJ6_getChars_ba4f3_20 : decode cJ6_getChars_ba4f3 20 = .ok (.ineg, 1) := by decide +kernel
theorem dJ6_getChars_ba4f3_21 : decode cJ6_getChars_ba4f3 21 = .ok (.istore_n 0, 1) := by decide +kernel
theorem dJ6_getChars_ba4f3_22 : decode cJ6_getChars_ba4f3 22 = .ok (.iload_n 0, 1) := by decide +kernel
theorem dJ6_getChars_ba4f3_23 : decode cJ6_getChars_ba4f3 23 = .ok (.bipush (-100), 2) := by decide +kernel
theorem dJ6_getChars_ba4f3_25 : decode cJ6_getChars_ba4f3 25 = .ok (.if_icmp .gt 47, 3) := by decide +kernel
theorem dJ6_getChars_ba4f3_28 : decode cJ6_getChars_ba4f3 28 = .ok (.iload_n 0, 1) := by decide +kernel
theorem dJ6_getChars_ba4f3_29 : decode cJ6_getChars_ba4f3 29 = .ok (.bipush 100, 2) := by decide +kernel
theorem dJ6_getChars_ba4f3_31 : decode cJ6_getChars_ba4f3 31 = .ok (.idiv, 1) := by decide +kernel
theorem dJ6_getChars_ba4f3_32 : decode cJ6_getChars_ba4f3 32 = .ok (.istore_n 3, 1) := by decide +kernel
theorem dJ6_getChars_ba4f3_33 : decode cJ6_getChars_ba4f3 33 = .ok (.iload_n 3, 1) := by decide +kernel
theorem dJ6_getChars_ba4f3_34 : decode cJ6_getChars_ba4f3 34 = .ok (.bipush 100, 2) := by decide +kernel
theorem dJ6_getChars_ba4f3_36 : decode cJ6_getChars_ba4f3 36 = .ok (.imul, 1) := by decide +kernel
theorem dJ6_getChars_ba4f3_37 : decode cJ6_getChars_ba4f3 37 = .ok (.iload_n 0, 1) := by decide +kernel
theorem dJ6_getChars_ba4f3_38 : decode cJ6_getChars_ba4f3 38 = .ok (.isub, 1) := by decide +kernel
theorem dJ6_getChars_ba4f3_39 : decode cJ6_getChars_ba4f3 39 = .ok (.istore 4, 2) := by decide +kernel
theorem dJ6_getChars_ba4f3_41 : decode cJ6_getChars_ba4f3 41 = .ok (.iload_n 3, 1) := by decide +kernel
theorem dJ6_getChars_ba4f3_42 : decode cJ6_getChars_ba4f3 42 = .ok (.istore_n 0, 1) := by decide +kernel
theorem dJ6_getChars_ba4f3_43 : decode cJ6_getChars_ba4f3 43 = .ok (.aload_n 2, 1) := by decide +kernel
theorem dJ6_getChars_ba4f3_44 : decode cJ6_getChars_ba4f3 44 = .ok (.iinc 5 (-1), 3) := by decide +kernel
theorem dJ6_getChars_ba4f3_47 : decode cJ6_getChars_ba4f3 47 = .ok (.iload 5, 2) := by decide +kernel
theorem dJ6_getChars_ba4f3_49 : decode cJ6_getChars_ba4f3 49 = .ok (.getstatic 83, 3) := by decide +kernel
theorem dJ6_getChars_ba4f3_52 : decode cJ6_getChars_ba4f3 52 = .ok (.iload 4, 2) := by decide +kernel
theorem dJ6_getChars_ba4f3_54 : decode cJ6_getChars_ba4f3 54 = .ok (.baload, 1) := by decide +kernel
theorem dJ6_getChars_ba4f3_55 : decode cJ6_getChars_ba4f3 55 = .ok (.bastore, 1) := by decide +kernel
theorem dJ6_getChars_ba4f3_56 : decode cJ6_getChars_ba4f3 56 = .ok (.aload_n 2, 1) := by decide +kernel
theorem dJ6_getChars_ba4f3_57 : decode cJ6_getChars_ba4f3 57 = .ok (.iinc 5 (-1), 3) := by decide +kernel
theorem dJ6_getChars_ba4f3_60 : decode cJ6_getChars_ba4f3 60 = .ok (.iload 5, 2) := by decide +kernel
theorem dJ6_getChars_ba4f3_62 : decode cJ6_getChars_ba4f3 62 = .ok (.getstatic 87, 3) := by decide +kernel
theorem dJ6_getChars_ba4f3_65 : decode cJ6_getChars_ba4f3 65 = .ok (.iload 4, 2) := by decide +kernel
theorem dJ6_getChars_ba4f3_67 : decode cJ6_getChars_ba4f3 67 = .ok (.baload, 1) := by decide +kernel
theorem dJ6_getChars_ba4f3_68 : decode cJ6_getChars_ba4f3 68 = .ok (.bastore, 1) := by decide +kernel
theorem dJ6_getChars_ba4f3_69 : decode cJ6_getChars_ba4f3 69 = .ok (.goto (-47), 3) := by decide +kernel
theorem dJ6_getChars_ba4f3_72 : decode cJ6_getChars_ba4f3 72 = .ok (.aload_n 2, 1) := by decide +kernel
theorem dJ6_getChars_ba4f3_73 : decode cJ6_getChars_ba4f3 73 = .ok (.iinc 5 (-1), 3) := by decide +kernel
theorem dJ6_getChars_ba4f3_76 : decode cJ6_getChars_ba4f3 76 = .ok (.iload 5, 2) := by decide +kernel
theorem dJ6_getChars_ba4f3_78 : decode cJ6_getChars_ba4f3 78 = .ok (.getstatic 83, 3) := by decide +kernel
theorem dJ6_getChars_ba4f3_81 : decode cJ6_getChars_ba4f3 81 = .ok (.iload_n 0, 1) := by decide +kernel
theorem dJ6_getChars_ba4f3_82 : decode cJ6_getChars_ba4f3 82 = .ok (.ineg, 1) := by decide +kernel
theorem dJ6_getChars_ba4f3_83 : decode cJ6_getChars_ba4f3 83 = .ok (.baload, 1) := by decide +kernel
theorem dJ6_getChars_ba4f3_84 : decode cJ6_getChars_ba4f3 84 = .ok (.bastore, 1) := by decide +kernel
theorem dJ6_getChars_ba4f3_85 : decode cJ6_getChars_ba4f3 85 = .ok (.iload_n 0, 1) := by decide +kernel
theorem dJ6_getChars_ba4f3_86 : decode cJ6_getChars_ba4f3 86 = .ok (.bipush (-9), 2) := by decide +kernel
theorem dJ6_getChars_ba4f3_88 : decode cJ6_getChars_ba4f3 88 = .ok (.if_icmp .ge 16, 3) := by decide +kernel
theorem dJ6_getChars_ba4f3_91 : decode cJ6_getChars_ba4f3 91 = .ok (.aload_n 2, 1) := by decide +kernel
theorem dJ6_getChars_ba4f3_92 : decode cJ6_getChars_ba4f3 92 = .ok (.iinc 5 (-1), 3) := by decide +kernel
theorem dJ6_getChars_ba4f3_95 : decode cJ6_getChars_ba4f3 95 = .ok (.iload 5, 2) := by decide +kernel
theorem dJ6_getChars_ba4f3_97 : decode cJ6_getChars_ba4f3 97 = .ok (.getstatic 87, 3) := by decide +kernel
theorem dJ6_getChars_ba4f3_100 : decode cJ6_getChars_ba4f3 100 = .ok (.iload_n 0, 1) := by decide +kernel
theorem dJ6_getChars_ba4f3_101 : decode cJ6_getChars_ba4f3 101 = .ok (.ineg, 1) := by decide +kernel
theorem dJ6_getChars_ba4f3_102 : decode cJ6_getChars_ba4f3 102 = .ok (.baload, 1) := by decide +kernel
theorem dJ6_getChars_ba4f3_103 : decode cJ6_getChars_ba4f3 103 = .ok (.bastore, 1) := by decide +kernel
theorem dJ6_getChars_ba4f3_104 : decode cJ6_getChars_ba4f3 104 = .ok (.iload 6, 2) := by decide +kernel
theorem dJ6_getChars_ba4f3_106 : decode cJ6_getChars_ba4f3 106 = .ok (.ifCond .eq 12, 3) := by decide +kernel
theorem dJ6_getChars_ba4f3_109 : decode cJ6_getChars_ba4f3 109 = .ok (.aload_n 2, 1) := by decide +kernel
theorem dJ6_getChars_ba4f3_110 : decode cJ6_getChars_ba4f3 110 = .ok (.iinc 5 (-1), 3) := by decide +kernel
theorem dJ6_getChars_ba4f3_113 : decode cJ6_getChars_ba4f3 113 = .ok (.iload 5, 2) := by decide +kernel
theorem dJ6_getChars_ba4f3_115 : decode cJ6_getChars_ba4f3 115 = .ok (.bipush 45, 2) := by decide +kernel
theorem dJ6_getChars_ba4f3_117 : decode cJ6_getChars_ba4f3 117 = .ok (.bastore, 1) := by decide +kernel
theorem dJ6_getChars_ba4f3_118 : decode cJ6_getChars_ba4f3 118 = .ok (.iload 5, 2) := by decide +kernel
theorem dJ6_getChars_ba4f3_120 : decode cJ6_getChars_ba4f3 120 = .ok (.ireturn, 1) := by decide +kernel
set_option maxRecDepth 100000 in
set_option maxHeartbeats 4000000 in
theorem J_getChars (l : Launch) (D : va_G) (cid : Nat → ClassId) (J : jA) {v ei cap x : Nat} {a : Nat → Int32} (hx1 : x < 100) (he : dLen x ≤ ei) (hc : ei ≤ cap) (hc3 : cap ≤ 300) : jM l D cid J yJ6_getChars_ba4f3 (.code yJ6_getChars_ba4f3 cJ6_getChars_ba4f3 7 (some .int)) (gRX 0 0 0 0) [.int (nI x), .int (nI ei), .ref v] [(v, .inl (cid 3, cap, .inl a))] [] 0 0 (α := Unit) (fun rv _ => ∃ z, rv = some (.int z)) (fun _ => [(v, .inl (cid 3, cap, .inl (dRow a ei x)))]) := by
  refine jMet (by decide +kernel) (Nat.le_of_ble_eq_true rfl) ?_
  intro p e s m args below meth c H locs ls Q A hA hC hni hl hI kk
  replace hC : jC p s m args c cJ6_getChars_ba4f3 7 "java/lang/Integer" D cid J A [] := hC
  replace hl : lv_has ls 7 [(0, .int (nI x)), (1, .int (nI ei)), (2, .ref v)] := hl
  replace hI : jI D s A [(v, .inl (cid 3, cap, .inl a))] H locs := hI
  have hx := hC.1.1
  have hb := hC.1.2.1
  have hown := hC.1.2.2.2.1
  have hts := hC.1.2.2.2.2.1
  have hK := hC.1.2.2.2.2.2.1
  have hAn := hC.2.2.1
  have hJ := hC.2.1
  obtain ⟨d1, d2, d3, d4⟩ := d_neg x hx1
  refine lv_iload_n hx hb dJ6_getChars_ba4f3_0 rfl (lv_at hl 1 rfl) ?_
  refine lv_istore (lv' := [(5, .int (nI ei)), (0, .int (nI x)), (1, .int (nI ei)), (2, .ref v)]) hx hb dJ6_getChars_ba4f3_1 hl (by decide) rfl (fun ls hl => ?_)
  refine lv_iload_n hx hb dJ6_getChars_ba4f3_3 rfl (lv_at hl 1 rfl) ?_
  refine lv_if_ge (tgt := 11) hx hb dJ6_getChars_ba4f3_4 rfl (fun _ => ?_) (fun h => absurd (nI_pos' (by omega)) h)
  refine lv_iconst (v := 0) hx hb dJ6_getChars_ba4f3_11 (by decide) ?_
  refine lv_istore (lv' := [(6, .int 0), (5, .int (nI ei)), (0, .int (nI x)), (1, .int (nI ei)), (2, .ref v)]) hx hb dJ6_getChars_ba4f3_12 hl (by decide) rfl (fun ls hl => ?_)
  refine lv_iload hx hb dJ6_getChars_ba4f3_14 (lv_at hl 0 rfl) ?_
  refine lv_if_ne (tgt := 22) hx hb dJ6_getChars_ba4f3_16 rfl (fun h => absurd rfl h) (fun _ => ?_)
  refine lv_iload_n hx hb dJ6_getChars_ba4f3_19 rfl (lv_at hl 2 rfl) ?_
  refine lv_ineg hx hb dJ6_getChars_ba4f3_20 ?_
  refine lv_istore_n (lv' := [(0, .int (-(nI x))), (6, .int 0), (5, .int (nI ei)), (1, .int (nI ei)), (2, .ref v)]) hx hb dJ6_getChars_ba4f3_21 rfl hl (by decide) rfl (fun ls hl => ?_)
  refine lv_iload_n hx hb dJ6_getChars_ba4f3_22 rfl (lv_at hl 0 rfl) ?_
  refine lv_bipush (v := (-100)) hx hb dJ6_getChars_ba4f3_23 (by decide) ?_
  refine lv_icmp_gt (tgt := 72) hx hb dJ6_getChars_ba4f3_25 rfl (fun _ => ?_) (fun h => absurd d4 h)
  refine lv_aload_n hx hb dJ6_getChars_ba4f3_72 rfl (lv_at hl 4 rfl) ?_
  refine lv_iinc (k := 2) (v := (nI ei) + (-1)) (lv' := [(5, .int ((nI ei) + (-1))), (0, .int (-(nI x))), (6, .int 0), (1, .int (nI ei)), (2, .ref v)]) hx hb dJ6_getChars_ba4f3_73 hl rfl rfl (by decide) rfl (fun ls hl => ?_)
  refine lv_iload hx hb dJ6_getChars_ba4f3_76 (lv_at hl 0 rfl) ?_
  refine va_gets hx hb hJ.2.2.2.1.1 hI.2.2 hown (hts _ w1501) (fun _ h9 => h9) dJ6_getChars_ba4f3_78 ?_
  refine lv_iload_n hx hb dJ6_getChars_ba4f3_81 rfl (lv_at hl 1 rfl) ?_
  refine lv_ineg hx hb dJ6_getChars_ba4f3_82 ?_
  refine g_top (v := nI x) (by rw [Int32.neg_neg]) ?_
  refine va_tb hx hb hJ.2.2.2.1.2.1 hI.2.2 (v := .int (nI (x % 10 + 48))) (vp_in_nI hx1 (by decide)) (by rw [nI_clamp (by omega)]; rfl) dJ6_getChars_ba4f3_83 ?_
  have he1 : 1 ≤ ei := by unfold dLen at he; split at he <;> omega
  rw [nI_m1 he1]
  replace hl : lv_has ls 7 [(5, .int (nI (ei - 1))), (0, .int (-(nI x))), (6, .int 0), (1, .int (nI ei)), (2, .ref v)] := by rw [nI_m1 he1] at hl; exact hl
  refine va_bast hx hb hK hI.1 hI.2.1 hI.2.2 0 3 rfl rfl (vp_in_nI (n := (ei - 1)) (by omega) (by omega)) dJ6_getChars_ba4f3_84 (fun H locs hP hD hS => ?_)
  rw [nI_clamp (show (ei - 1) < 2 ^ 31 by omega), d_nar (x % 10 + 48) (by omega)] at hP hD
  replace hI : jI D s A [(v, .inl (cid 3, cap, .inl (upd a (ei - 1) (nI (x % 10 + 48)))))] H locs := ⟨hP, hD, hS⟩
  refine lv_iload_n hx hb dJ6_getChars_ba4f3_85 rfl (lv_at hl 1 rfl) ?_
  refine lv_bipush (v := (-9)) hx hb dJ6_getChars_ba4f3_86 (by decide) ?_
  by_cases hlt : x < 10
  · refine lv_icmp_ge (tgt := 104) hx hb dJ6_getChars_ba4f3_88 rfl (fun _ => ?_) (fun h => absurd (d3.mpr hlt) h)
    replace hI : jI D s A [(v, .inl (cid 3, cap, .inl (dRow a ei x)))] H locs := by rw [show dRow a ei x = _ from if_pos hlt]; exact hI
    refine lv_iload hx hb dJ6_getChars_ba4f3_104 (lv_at hl 2 rfl) ?_
    refine lv_if_eq (tgt := 118) hx hb dJ6_getChars_ba4f3_106 rfl (fun _ => ?_) (fun h => absurd rfl h)
    refine lv_iload hx hb dJ6_getChars_ba4f3_118 (lv_at hl 0 rfl) ?_
    exact kk _ () _ _ _ _ _ _ _ ⟨_, rfl⟩ rfl hI ⟨Nat.le_of_ble_eq_true rfl, Nat.le_of_ble_eq_true rfl⟩ (Or.inl ⟨_, _, rfl, rfl, (by first | rfl | exact gb_nar _), dJ6_getChars_ba4f3_120⟩)
  · have he2 : 2 ≤ ei := by rw [show dLen x = 2 from if_neg hlt] at he; exact he
    refine lv_icmp_ge (tgt := 104) hx hb dJ6_getChars_ba4f3_88 rfl (fun h => absurd h (fun h9 => hlt (d3.mp h9))) (fun _ => ?_)
    refine lv_aload_n hx hb dJ6_getChars_ba4f3_91 rfl (lv_at hl 4 rfl) ?_
    refine lv_iinc (k := 0) (v := (nI (ei - 1)) + (-1)) (lv' := [(5, .int ((nI (ei - 1)) + (-1))), (0, .int (-(nI x))), (6, .int 0), (1, .int (nI ei)), (2, .ref v)]) hx hb dJ6_getChars_ba4f3_92 hl rfl rfl (by decide) rfl (fun ls hl => ?_)
    refine lv_iload hx hb dJ6_getChars_ba4f3_95 (lv_at hl 0 rfl) ?_
    refine va_gets hx hb hJ.2.2.2.1.2.2.1 hI.2.2 hown (hts _ w1503) (fun _ h9 => h9) dJ6_getChars_ba4f3_97 ?_
    refine lv_iload_n hx hb dJ6_getChars_ba4f3_100 rfl (lv_at hl 1 rfl) ?_
    refine lv_ineg hx hb dJ6_getChars_ba4f3_101 ?_
    refine g_top (v := nI x) (by rw [Int32.neg_neg]) ?_
    refine va_tb hx hb hJ.2.2.2.1.2.2.2 hI.2.2 (v := .int (nI (x / 10 + 48))) (vp_in_nI hx1 (by decide)) (by rw [nI_clamp (by omega)]; rfl) dJ6_getChars_ba4f3_102 ?_
    rw [nI_m1 (show 1 ≤ ei - 1 by omega), show ei - 1 - 1 = ei - 2 by omega]
    replace hl : lv_has ls 7 [(5, .int (nI (ei - 2))), (0, .int (-(nI x))), (6, .int 0), (1, .int (nI ei)), (2, .ref v)] := by rw [nI_m1 (show 1 ≤ ei - 1 by omega), show ei - 1 - 1 = ei - 2 by omega] at hl; exact hl
    refine va_bast hx hb hK hI.1 hI.2.1 hI.2.2 0 3 rfl rfl (vp_in_nI (n := (ei - 2)) (by omega) (by omega)) dJ6_getChars_ba4f3_103 (fun H locs hP hD hS => ?_)
    rw [nI_clamp (show (ei - 2) < 2 ^ 31 by omega), d_nar (x / 10 + 48) (by omega)] at hP hD
    replace hI : jI D s A [(v, .inl (cid 3, cap, .inl (upd (upd a (ei - 1) (nI (x % 10 + 48))) (ei - 2) (nI (x / 10 + 48)))))] H locs := ⟨hP, hD, hS⟩
    replace hI : jI D s A [(v, .inl (cid 3, cap, .inl (dRow a ei x)))] H locs := by rw [show dRow a ei x = _ from if_neg hlt]; exact hI
    refine lv_iload hx hb dJ6_getChars_ba4f3_104 (lv_at hl 2 rfl) ?_
    refine lv_if_eq (tgt := 118) hx hb dJ6_getChars_ba4f3_106 rfl (fun _ => ?_) (fun h => absurd rfl h)
    refine lv_iload hx hb dJ6_getChars_ba4f3_118 (lv_at hl 0 rfl) ?_
    exact kk _ () _ _ _ _ _ _ _ ⟨_, rfl⟩ rfl hI ⟨Nat.le_of_ble_eq_true rfl, Nat.le_of_ble_eq_true rfl⟩ (Or.inl ⟨_, _, rfl, rfl, (by first | rfl | exact gb_nar _), dJ6_getChars_ba4f3_120⟩)
theorem dJ5_append_c97b9_0 : decode cJ5_append_c97b9 0 = .ok (.aload_n 0, 1) := by decide +kernel
theorem dJ5_append_c97b9_1 : decode cJ5_append_c97b9 1 = .ok (.getfield 79, 3) := by decide +kernel
theorem dJ5_append_c97b9_4 : decode cJ5_append_c97b9 4 = .ok (.istore_n 2, 1) := by decide +kernel
theorem dJ5_append_c97b9_5 : decode cJ5_append_c97b9 5 = .ok (.iload_n 2, 1) := by decide +kernel
theorem dJ5_append_c97b9_6 : decode cJ5_append_c97b9 6 = .ok (.iload_n 1, 1) := by decide +kernel
theorem dJ5_append_c97b9_7 : decode cJ5_append_c97b9 7 = .ok (.invokestatic 245, 3) := by decide +kernel
theorem dJ5_append_c97b9_10 : decode cJ5_append_c97b9 10 = .ok (.iadd, 1) := by decide +kernel
theorem dJ5_append_c97b9_11 : decode cJ5_append_c97b9 11 = .ok (.istore_n 3, 1) := by decide +kernel
theorem dJ5_append_c97b9_12 : decode cJ5_append_c97b9 12 = .ok (.aload_n 0, 1) := by decide +kernel
theorem dJ5_append_c97b9_13 : decode cJ5_append_c97b9 13 = .ok (.iload_n 3, 1) := by decide +kernel
theorem dJ5_append_c97b9_14 : decode cJ5_append_c97b9 14 = .ok (.invokevirtual 100, 3) := by decide +kernel
theorem dJ5_append_c97b9_17 : decode cJ5_append_c97b9 17 = .ok (.aload_n 0, 1) := by decide +kernel
theorem dJ5_append_c97b9_18 : decode cJ5_append_c97b9 18 = .ok (.invokevirtual 83, 3) := by decide +kernel
theorem dJ5_append_c97b9_21 : decode cJ5_append_c97b9 21 = .ok (.ifCond .eq 16, 3) := by decide +kernel
theorem dJ5_append_c97b9_24 : decode cJ5_append_c97b9 24 = .ok (.iload_n 1, 1) := by decide +kernel
theorem dJ5_append_c97b9_25 : decode cJ5_append_c97b9 25 = .ok (.iload_n 3, 1) := by decide +kernel
theorem dJ5_append_c97b9_26 : decode cJ5_append_c97b9 26 = .ok (.aload_n 0, 1) := by decide +kernel
theorem dJ5_append_c97b9_27 : decode cJ5_append_c97b9 27 = .ok (.getfield 15, 3) := by decide +kernel
theorem dJ5_append_c97b9_30 : decode cJ5_append_c97b9 30 = .ok (.invokestatic 248, 3) := by decide +kernel
theorem dJ5_append_c97b9_33 : decode cJ5_append_c97b9 33 = .ok (.pop, 1) := by decide +kernel
theorem dJ5_append_c97b9_34 : decode cJ5_append_c97b9 34 = .ok (.goto 14, 3) := by decide +kernel
theorem dJ5_append_c97b9_37 : decode cJ5_append_c97b9 37 = .ok (.iload_n 1, 1) := by decide +kernel
theorem dJ5_append_c97b9_38 : decode cJ5_append_c97b9 38 = .ok (.iload_n 2, 1) := by decide +kernel
theorem dJ5_append_c97b9_39 : decode cJ5_append_c97b9 39 = .ok (.iload_n 3, 1) := by decide +kernel
theorem dJ5_append_c97b9_40 : decode cJ5_append_c97b9 40 = .ok (.aload_n 0, 1) := by decide +kernel
theorem dJ5_append_c97b9_41 : decode cJ5_append_c97b9 41 = .ok (.getfield 15, 3) := by decide +kernel
theorem dJ5_append_c97b9_44 : decode cJ5_append_c97b9 44 = .ok (.invokestatic 251, 3) := by decide +kernel
theorem dJ5_append_c97b9_47 : decode cJ5_append_c97b9 47 = .ok (.pop, 1) := by decide +kernel
theorem dJ5_append_c97b9_48 : decode cJ5_append_c97b9 48 = .ok (.aload_n 0, 1) := by decide +kernel
theorem dJ5_append_c97b9_49 : decode cJ5_append_c97b9 49 = .ok (.iload_n 3, 1) := by decide +kernel
theorem dJ5_append_c97b9_50 : decode cJ5_append_c97b9 50 = .ok (.putfield 79, 3) := by decide +kernel
theorem dJ5_append_c97b9_53 : decode cJ5_append_c97b9 53 = .ok (.aload_n 0, 1) := by decide +kernel
theorem dJ5_append_c97b9_54 : decode cJ5_append_c97b9 54 = .ok (.areturn, 1) := by decide +kernel
set_option maxRecDepth 100000 in
set_option maxHeartbeats 4000000 in
theorem J_appI (l : Launch) (D : va_G) (cid : Nat → ClassId) (J : jA) {x : Nat} {q v cap : Nat} {a : Nat → Int32} {T : List Int32} (hx1 : x < 100) (h2 : (T.length + dLen x) ≤ 2 * cap + 2) (h3 : cap ≤ 100) (hT : sbH T cap a) : jM l D cid J yJ5_append_c97b9 (.code yJ5_append_c97b9 cJ5_append_c97b9 4 (some (.object "java/lang/AbstractStringBuilder"))) (gRX 6 200 1 300) [.ref q, .int (nI x)] [(q, .inr (1, [.ref v, .int 0, .int 0, .int (nI T.length)])), (v, .inl (cid 3, cap, .inl a))] [] 1 300 (α := Nat × (Nat → Int32)) (fun rv u => rv = some (.ref q) ∧ sbH (T ++ dig x) (sbC (T.length + dLen x) cap) u.2) (fun u => [(q, .inr (1, [.ref u.1, .int 0, .int 0, .int (nI (T.length + dLen x))])), (u.1, .inl (cid 3, (sbC (T.length + dLen x) cap), .inl u.2))]) := by
  refine jMet (by decide +kernel) (Nat.le_of_ble_eq_true rfl) ?_
  intro p e s m args below meth c H locs ls Q A hA hC hni hl hI kk
  replace hC : jC p s m args c cJ5_append_c97b9 4 "java/lang/AbstractStringBuilder" D cid J A [] := hC
  replace hl : lv_has ls 4 [(0, .ref q), (1, .int (nI x))] := hl
  replace hI : jI D s A [(q, .inr (1, [.ref v, .int 0, .int 0, .int (nI T.length)])), (v, .inl (cid 3, cap, .inl a))] H locs := hI
  have hx := hC.1.1
  have hb := hC.1.2.1
  have hown := hC.1.2.2.2.1
  have hts := hC.1.2.2.2.2.1
  have hK := hC.1.2.2.2.2.2.1
  have hAn := hC.2.2.1
  have hJ := hC.2.1
  have hc0 := sbC_le h2
  have hc1 := sbC_le2 (T.length + dLen x) cap
  refine lv_aload_n hx hb dJ5_append_c97b9_0 rfl (lv_at hl 0 rfl) ?_
  refine va_get (D := D) (ci := 1) (v := .int (nI T.length)) hx hb hts uJ4' hown hK hI.1 0 rfl rfl 3 (by decide) (hts _ w1392) (fun _ h9 => h9) rfl dJ5_append_c97b9_1 ?_
  refine lv_istore_n (lv' := [(2, .int (nI T.length)), (0, .ref q), (1, .int (nI x))]) hx hb dJ5_append_c97b9_4 rfl hl (by decide) rfl (fun ls hl => ?_)
  refine lv_iload_n hx hb dJ5_append_c97b9_5 rfl (lv_at hl 0 rfl) ?_
  refine lv_iload_n hx hb dJ5_append_c97b9_6 rfl (lv_at hl 2 rfl) ?_
  refine j_callS (rest := [.int (nI T.length)]) [(q, .inr (1, [.ref v, .int 0, .int 0, .int (nI T.length)])), (v, .inl (cid 3, cap, .inl a))] hC hI (J_strSize l D cid J hx1) (fun _ h => absurd h List.not_mem_nil) Z_J6_stringSize_0f7a4 ZS_J6_stringSize_0f7a4 w1495 ⟨rfl, rfl⟩ ⟨Nat.le_of_ble_eq_true rfl, Nat.le_of_ble_eq_true rfl⟩ rfl hl.1 rfl (Nat.le_of_ble_eq_true rfl) dJ5_append_c97b9_7 ⟨Nat.le_of_ble_eq_true rfl, Nat.le_of_ble_eq_true rfl⟩ (fun rv u H1 locs1 hp hI hk1 => ?_)
  obtain rfl := hp
  replace hI : jI D s A [(q, .inr (1, [.ref v, .int 0, .int 0, .int (nI T.length)])), (v, .inl (cid 3, cap, .inl a))] H1 locs1 := hI
  skip
  refine lv_iadd hx hb dJ5_append_c97b9_10 ?_
  refine g_top (v := nI (T.length + dLen x)) ((nI_add _ _).symm) ?_
  refine lv_istore_n (lv' := [(3, .int (nI (T.length + dLen x))), (2, .int (nI T.length)), (0, .ref q), (1, .int (nI x))]) hx hb dJ5_append_c97b9_11 rfl hl (by decide) rfl (fun ls hl => ?_)
  refine lv_aload_n hx hb dJ5_append_c97b9_12 rfl (lv_at hl 2 rfl) ?_
  refine lv_iload_n hx hb dJ5_append_c97b9_13 rfl (lv_at hl 0 rfl) ?_
  refine j_callVC (rest := []) ([] : va_W) "java/lang/StringBuilder" hC hI (J_ensure l D cid J (n := nI T.length) h2 h3 hT) (fun _ h => absurd h List.not_mem_nil) Z_J5_ensureCapacityInternal_d00df ZI_J5_ensureCapacityInternal_d00df (sb_sel rfl (hts _ w1436) (va_Nw.use rfl (hJ.2.2.1.2.2.2.2 _ (by decide +kernel))) (hts _ ZI_J5_ensureCapacityInternal_d00df)) w1413 (va_recv hK hI.1 (ci := 1) rfl (q0 := 0) rfl) ⟨rfl, rfl⟩ ⟨Nat.le_of_ble_eq_true rfl, Nat.le_of_ble_eq_true rfl⟩ rfl hl.1 rfl (Nat.le_of_ble_eq_true rfl) dJ5_append_c97b9_14 ⟨Nat.le_of_ble_eq_true rfl, Nat.le_of_ble_eq_true rfl⟩ (fun rv u H1 locs1 hp hI hk1 => ?_)
  obtain ⟨rfl, hT1⟩ := hp
  obtain ⟨w, a1⟩ := u
  replace hI : jI D s A [(q, .inr (1, [.ref w, .int 0, .int 0, .int (nI T.length)])), (w, .inl (cid 3, (sbC (T.length + dLen x) cap), .inl a1))] H1 locs1 := hI
  refine lv_aload_n hx hb dJ5_append_c97b9_17 rfl (lv_at hl 2 rfl) ?_
  replace hI : jI D s A [(w, .inl (cid 3, (sbC (T.length + dLen x) cap), .inl a1)), (q, .inr (1, [.ref w, .int 0, .int 0, .int (nI T.length)]))] _ _ := j_sub hI [1, 0] rfl rfl
  refine j_callVC (rest := []) [(w, .inl (cid 3, (sbC (T.length + dLen x) cap), .inl a1))] "java/lang/StringBuilder" hC hI (J_sbLatin l D cid J (v := w) (n := nI T.length)) (fun _ h => absurd h List.not_mem_nil) Z_J5_isLatin1_aae02 ZI_J5_isLatin1_aae02 (hts _ w1436) w1433 (va_recv hK hI.1 (ci := 1) rfl (q0 := 1) rfl) ⟨rfl, rfl⟩ ⟨Nat.le_of_ble_eq_true rfl, Nat.le_of_ble_eq_true rfl⟩ rfl hl.1 rfl (Nat.le_of_ble_eq_true rfl) dJ5_append_c97b9_18 ⟨Nat.le_of_ble_eq_true rfl, Nat.le_of_ble_eq_true rfl⟩ (fun rv u H1 locs1 hp hI hk1 => ?_)
  obtain rfl := hp
  replace hI : jI D s A [(w, .inl (cid 3, (sbC (T.length + dLen x) cap), .inl a1)), (q, .inr (1, [.ref w, .int 0, .int 0, .int (nI T.length)]))] H1 locs1 := hI
  refine lv_if_eq (tgt := 37) hx hb dJ5_append_c97b9_21 rfl (fun h => absurd h (by decide)) (fun _ => ?_)
  refine lv_iload_n hx hb dJ5_append_c97b9_24 rfl (lv_at hl 3 rfl) ?_
  refine lv_iload_n hx hb dJ5_append_c97b9_25 rfl (lv_at hl 0 rfl) ?_
  refine lv_aload_n hx hb dJ5_append_c97b9_26 rfl (lv_at hl 2 rfl) ?_
  refine va_get (D := D) (ci := 1) (v := .ref w) hx hb hts uJ4' hown hK hI.1 1 rfl rfl 0 (by decide) (hts _ w1389) (fun _ h9 => h9) rfl dJ5_append_c97b9_27 ?_
  replace hI : jI D s A [(q, .inr (1, [.ref w, .int 0, .int 0, .int (nI T.length)])), (w, .inl (cid 3, (sbC (T.length + dLen x) cap), .inl a1))] _ _ := j_sub hI [1, 0] rfl rfl
  refine j_callS (rest := []) [(q, .inr (1, [.ref w, .int 0, .int 0, .int (nI T.length)]))] hC hI (J_getChars l D cid J (a := a1) hx1 (Nat.le_add_left _ _) hc0 (by omega)) (fun _ h => absurd h List.not_mem_nil) Z_J6_getChars_ba4f3 ZS_J6_getChars_ba4f3 w1498 ⟨rfl, rfl⟩ ⟨Nat.le_of_ble_eq_true rfl, Nat.le_of_ble_eq_true rfl⟩ rfl hl.1 rfl (Nat.le_of_ble_eq_true rfl) dJ5_append_c97b9_30 ⟨Nat.le_of_ble_eq_true rfl, Nat.le_of_ble_eq_true rfl⟩ (fun rv u H1 locs1 hp hI hk1 => ?_)
  obtain ⟨z, rfl⟩ := hp
  replace hI : jI D s A [(q, .inr (1, [.ref w, .int 0, .int 0, .int (nI T.length)])), (w, .inl (cid 3, (sbC (T.length + dLen x) cap), .inl (dRow a1 (T.length + dLen x) x)))] H1 locs1 := hI
  skip
  refine lv_pop hx hb dJ5_append_c97b9_33 rfl ?_
  refine lv_goto (tgt := 48) hx hb dJ5_append_c97b9_34 rfl ?_
  refine lv_aload_n hx hb dJ5_append_c97b9_48 rfl (lv_at hl 2 rfl) ?_
  refine lv_iload_n hx hb dJ5_append_c97b9_49 rfl (lv_at hl 0 rfl) ?_
  refine va_put hx hb hts uJ4' tyJ4 tyJ4_ok nmJ4 hown hK hI.1 hI.2.1 hI.2.2 0 (by rfl) rfl 3 (by decide) (hts _ w1392) (fun _ h9 => h9) rfl (ty := .int) (by decide +kernel) rfl rfl (Nat.le_of_ble_eq_true rfl) dJ5_append_c97b9_50 (fun H locs hP hD hS => ?_)
  replace hI : jI D s A [(q, .inr (1, [.ref w, .int 0, .int 0, .int (nI (T.length + dLen x))])), (w, .inl (cid 3, (sbC (T.length + dLen x) cap), .inl (dRow a1 (T.length + dLen x) x)))] H locs := ⟨hP, hD, hS⟩
  refine lv_aload_n hx hb dJ5_append_c97b9_53 rfl (lv_at hl 2 rfl) ?_
  exact kk _ (w, dRow a1 (T.length + dLen x) x) _ _ _ _ _ _ _ ⟨rfl, by rw [dRow_eq]; exact hT1.app (dig_seven hx1) (by rw [dig_len]; exact hc0)⟩ rfl hI ⟨Nat.le_of_ble_eq_true rfl, Nat.le_of_ble_eq_true rfl⟩ (Or.inr (Or.inr ⟨_, _, rfl, rfl, (by first | exact Or.inl ⟨_, rfl⟩ | exact Or.inr ⟨_, rfl⟩), dJ5_append_c97b9_54⟩))
theorem dJ4_append_bf812_0 : decode cJ4_append_bf812 0 = .ok (.aload_n 0, 1) := by decide +kernel
theorem dJ4_append_bf812_1 : decode cJ4_append_bf812 1 = .ok (.iload_n 1, 1) := by decide +kernel
theorem dJ4_append_bf812_2 : decode cJ4_append_bf812 2 = .ok (.invokespecial 53, 3) := by decide +kernel
theorem dJ4_append_bf812_5 : decode cJ4_append_bf812 5 = .ok (.pop, 1) := by decide +kernel
theorem dJ4_append_bf812_6 : decode cJ4_append_bf812 6 = .ok (.aload_n 0, 1) := by decide +kernel
theorem dJ4_append_bf812_7 : decode cJ4_append_bf812 7 = .ok (.areturn, 1) := by decide +kernel
set_option maxRecDepth 100000 in
set_option maxHeartbeats 4000000 in
theorem J_appendI (l : Launch) (D : va_G) (cid : Nat → ClassId) (J : jA) {x : Nat} {q v cap : Nat} {a : Nat → Int32} {T : List Int32} (hx1 : x < 100) (h2 : (T.length + dLen x) ≤ 2 * cap + 2) (h3 : cap ≤ 100) (hT : sbH T cap a) : jM l D cid J yJ4_append_bf812 (.code yJ4_append_bf812 cJ4_append_bf812 2 (some (.object "java/lang/StringBuilder"))) (gRX 7 240 1 300) [.ref q, .int (nI x)] [(q, .inr (1, [.ref v, .int 0, .int 0, .int (nI T.length)])), (v, .inl (cid 3, cap, .inl a))] [] 1 300 (α := Nat × (Nat → Int32)) (fun rv u => rv = some (.ref q) ∧ sbH (T ++ dig x) (sbC (T.length + dLen x) cap) u.2) (fun u => [(q, .inr (1, [.ref u.1, .int 0, .int 0, .int (nI (T.length + dLen x))])), (u.1, .inl (cid 3, (sbC (T.length + dLen x) cap), .inl u.2))]) := by
  refine jMet (by decide +kernel) (Nat.le_of_ble_eq_true rfl) ?_
  intro p e s m args below meth c H locs ls Q A hA hC hni hl hI kk
  replace hC : jC p s m args c cJ4_append_bf812 2 "java/lang/StringBuilder" D cid J A [] := hC
  replace hl : lv_has ls 2 [(0, .ref q), (1, .int (nI x))] := hl
  replace hI : jI D s A [(q, .inr (1, [.ref v, .int 0, .int 0, .int (nI T.length)])), (v, .inl (cid 3, cap, .inl a))] H locs := hI
  have hx := hC.1.1
  have hb := hC.1.2.1
  have hown := hC.1.2.2.2.1
  have hts := hC.1.2.2.2.2.1
  have hK := hC.1.2.2.2.2.2.1
  have hAn := hC.2.2.1
  have hJ := hC.2.1
  refine lv_aload_n hx hb dJ4_append_bf812_0 rfl (lv_at hl 0 rfl) ?_
  refine lv_iload_n hx hb dJ4_append_bf812_1 rfl (lv_at hl 1 rfl) ?_
  refine j_callSU (rest := []) ([] : va_W) (hK.1 1 _ rfl).2 hC hI (J_appI l D cid J hx1 h2 h3 hT) (fun _ h => absurd h List.not_mem_nil) Z_J5_append_c97b9 ZI_J5_append_c97b9 w1602 w1401 (by decide) w1492 (va_recv hK hI.1 (ci := 1) rfl (q0 := 0) rfl) ⟨rfl, rfl⟩ ⟨Nat.le_of_ble_eq_true rfl, Nat.le_of_ble_eq_true rfl⟩ rfl hl.1 rfl (Nat.le_of_ble_eq_true rfl) dJ4_append_bf812_2 ⟨Nat.le_of_ble_eq_true rfl, Nat.le_of_ble_eq_true rfl⟩ (fun rv u H1 locs1 hp hI hk1 => ?_)
  obtain ⟨rfl, hT1⟩ := hp
  replace hI : jI D s A [(q, .inr (1, [.ref u.1, .int 0, .int 0, .int (nI (T.length + dLen x))])), (u.1, .inl (cid 3, (sbC (T.length + dLen x) cap), .inl u.2))] H1 locs1 := hI
  refine lv_pop hx hb dJ4_append_bf812_5 rfl ?_
  refine lv_aload_n hx hb dJ4_append_bf812_6 rfl (lv_at hl 0 rfl) ?_
  exact kk _ u _ _ _ _ _ _ _ ⟨rfl, hT1⟩ rfl hI ⟨Nat.le_of_ble_eq_true rfl, Nat.le_of_ble_eq_true rfl⟩ (Or.inr (Or.inr ⟨_, _, rfl, rfl, (by first | exact Or.inl ⟨_, rfl⟩ | exact Or.inr ⟨_, rfl⟩), dJ4_append_bf812_7⟩))
theorem dJ5_getValue_6d5f1_0 : decode cJ5_getValue_6d5f1 0 = .ok (.aload_n 0, 1) := by decide +kernel
theorem dJ5_getValue_6d5f1_1 : decode cJ5_getValue_6d5f1 1 = .ok (.getfield 15, 3) := by decide +kernel
theorem dJ5_getValue_6d5f1_4 : decode cJ5_getValue_6d5f1 4 = .ok (.areturn, 1) := by decide +kernel
set_option maxRecDepth 100000 in
set_option maxHeartbeats 4000000 in
theorem J_sbValue (l : Launch) (D : va_G) (cid : Nat → ClassId) (J : jA) {q v : Nat} {n : Int32}  : jM l D cid J yJ5_getValue_6d5f1 (.code yJ5_getValue_6d5f1 cJ5_getValue_6d5f1 1 (some (.array .byte))) (gRX 0 0 0 0) [.ref q] [(q, .inr (1, [.ref v, .int 0, .int 0, .int n]))] [] 0 0 (α := Unit) (fun rv _ => rv = some (.ref v)) (fun _ => [(q, .inr (1, [.ref v, .int 0, .int 0, .int n]))]) := by
  refine jMet (by decide +kernel) (Nat.le_of_ble_eq_true rfl) ?_
  intro p e s m args below meth c H locs ls Q A hA hC hni hl hI kk
  replace hC : jC p s m args c cJ5_getValue_6d5f1 1 "java/lang/AbstractStringBuilder" D cid J A [] := hC
  replace hl : lv_has ls 1 [(0, .ref q)] := hl
  replace hI : jI D s A [(q, .inr (1, [.ref v, .int 0, .int 0, .int n]))] H locs := hI
  have hx := hC.1.1
  have hb := hC.1.2.1
  have hown := hC.1.2.2.2.1
  have hts := hC.1.2.2.2.2.1
  have hK := hC.1.2.2.2.2.2.1
  have hAn := hC.2.2.1
  have hJ := hC.2.1
  refine lv_aload_n hx hb dJ5_getValue_6d5f1_0 rfl (lv_at hl 0 rfl) ?_
  refine va_get (D := D) (ci := 1) (v := .ref v) hx hb hts uJ4' hown hK hI.1 0 rfl rfl 0 (by decide) (hts _ w1389) (fun _ h9 => h9) rfl dJ5_getValue_6d5f1_1 ?_
  exact kk _ () _ _ _ _ _ _ _ rfl rfl hI ⟨Nat.le_of_ble_eq_true rfl, Nat.le_of_ble_eq_true rfl⟩ (Or.inr (Or.inr ⟨_, _, rfl, rfl, (by first | exact Or.inl ⟨_, rfl⟩ | exact Or.inr ⟨_, rfl⟩), dJ5_getValue_6d5f1_4⟩))
theorem dJ5_length_8abf5_0 : decode cJ5_length_8abf5 0 = .ok (.aload_n 0, 1) := by decide +kernel
theorem dJ5_length_8abf5_1 : decode cJ5_length_8abf5 1 = .ok (.getfield 79, 3) := by decide +kernel
theorem dJ5_length_8abf5_4 : decode cJ5_length_8abf5 4 = .ok (.ireturn, 1) := by decide +kernel
set_option maxRecDepth 100000 in
set_option maxHeartbeats 4000000 in
theorem J_sbCount (l : Launch) (D : va_G) (cid : Nat → ClassId) (J : jA) {q v : Nat} {n : Int32}  : jM l D cid J yJ5_length_8abf5 (.code yJ5_length_8abf5 cJ5_length_8abf5 1 (some .int)) (gRX 0 0 0 0) [.ref q] [(q, .inr (1, [.ref v, .int 0, .int 0, .int n]))] [] 0 0 (α := Unit) (fun rv _ => rv = some (.int n)) (fun _ => [(q, .inr (1, [.ref v, .int 0, .int 0, .int n]))]) := by
  refine jMet (by decide +kernel) (Nat.le_of_ble_eq_true rfl) ?_
  intro p e s m args below meth c H locs ls Q A hA hC hni hl hI kk
  replace hC : jC p s m args c cJ5_length_8abf5 1 "java/lang/AbstractStringBuilder" D cid J A [] := hC
  replace hl : lv_has ls 1 [(0, .ref q)] := hl
  replace hI : jI D s A [(q, .inr (1, [.ref v, .int 0, .int 0, .int n]))] H locs := hI
  have hx := hC.1.1
  have hb := hC.1.2.1
  have hown := hC.1.2.2.2.1
  have hts := hC.1.2.2.2.2.1
  have hK := hC.1.2.2.2.2.2.1
  have hAn := hC.2.2.1
  have hJ := hC.2.1
  refine lv_aload_n hx hb dJ5_length_8abf5_0 rfl (lv_at hl 0 rfl) ?_
  refine va_get (D := D) (ci := 1) (v := .int n) hx hb hts uJ4' hown hK hI.1 0 rfl rfl 3 (by decide) (hts _ w1392) (fun _ h9 => h9) rfl dJ5_length_8abf5_1 ?_
  exact kk _ () _ _ _ _ _ _ _ rfl rfl hI ⟨Nat.le_of_ble_eq_true rfl, Nat.le_of_ble_eq_true rfl⟩ (Or.inl ⟨_, _, rfl, rfl, (by first | rfl | exact gb_nar _), dJ5_length_8abf5_4⟩)
theorem dJ4_length_8abf5_0 : decode cJ4_length_8abf5 0 = .ok (.aload_n 0, 1) := by decide +kernel
theorem dJ4_length_8abf5_1 : decode cJ4_length_8abf5 1 = .ok (.invokespecial 343, 3) := by decide +kernel
theorem dJ4_length_8abf5_4 : decode cJ4_length_8abf5 4 = .ok (.ireturn, 1) := by decide +kernel
set_option maxRecDepth 100000 in
set_option maxHeartbeats 4000000 in
theorem J_sbLength (l : Launch) (D : va_G) (cid : Nat → ClassId) (J : jA) {q v : Nat} {n : Int32}  : jM l D cid J yJ4_length_8abf5 (.code yJ4_length_8abf5 cJ4_length_8abf5 1 (some .int)) (gRX 1 20 0 0) [.ref q] [(q, .inr (1, [.ref v, .int 0, .int 0, .int n]))] [] 0 0 (α := Unit) (fun rv _ => rv = some (.int n)) (fun _ => [(q, .inr (1, [.ref v, .int 0, .int 0, .int n]))]) := by
  refine jMet (by decide +kernel) (Nat.le_of_ble_eq_true rfl) ?_
  intro p e s m args below meth c H locs ls Q A hA hC hni hl hI kk
  replace hC : jC p s m args c cJ4_length_8abf5 1 "java/lang/StringBuilder" D cid J A [] := hC
  replace hl : lv_has ls 1 [(0, .ref q)] := hl
  replace hI : jI D s A [(q, .inr (1, [.ref v, .int 0, .int 0, .int n]))] H locs := hI
  have hx := hC.1.1
  have hb := hC.1.2.1
  have hown := hC.1.2.2.2.1
  have hts := hC.1.2.2.2.2.1
  have hK := hC.1.2.2.2.2.2.1
  have hAn := hC.2.2.1
  have hJ := hC.2.1
  refine lv_aload_n hx hb dJ4_length_8abf5_0 rfl (lv_at hl 0 rfl) ?_
  refine j_callSU (rest := []) ([] : va_W) (hK.1 1 _ rfl).2 hC hI (J_sbCount l D cid J (v := v) (n := n)) (fun _ h => absurd h List.not_mem_nil) Z_J5_length_8abf5 ZI_J5_length_8abf5 w1532 w1401 (by decide) w1536 (va_recv hK hI.1 (ci := 1) rfl (q0 := 0) rfl) ⟨rfl, rfl⟩ ⟨Nat.le_of_ble_eq_true rfl, Nat.le_of_ble_eq_true rfl⟩ rfl hl.1 rfl (Nat.le_of_ble_eq_true rfl) dJ4_length_8abf5_1 ⟨Nat.le_of_ble_eq_true rfl, Nat.le_of_ble_eq_true rfl⟩ (fun rv u H1 locs1 hp hI hk1 => ?_)
  obtain rfl := hp
  replace hI : jI D s A [(q, .inr (1, [.ref v, .int 0, .int 0, .int n]))] H1 locs1 := hI
  exact kk _ () _ _ _ _ _ _ _ rfl rfl hI ⟨Nat.le_of_ble_eq_true rfl, Nat.le_of_ble_eq_true rfl⟩ (Or.inl ⟨_, _, rfl, rfl, (by first | rfl | exact gb_nar _), dJ4_length_8abf5_4⟩)
theorem dJ7_checkLength_df160_0 : decode cJ7_checkLength_df160 0 = .ok (.iload_n 1, 1) := by decide +kernel
theorem dJ7_checkLength_df160_1 : decode cJ7_checkLength_df160 1 = .ok (.iload_n 0, 1) := by decide +kernel
theorem dJ7_checkLength_df160_2 : decode cJ7_checkLength_df160 2 = .ok (.if_icmp .ge 35, 3) := by decide +kernel
theorem dJ7_checkLength_df160_5 : decode cJ7_checkLength_df160 5 = .ok (.new 43, 3) := by decide +kernel
theorem dJ7_checkLength_df160_8 : decode cJ7_checkLength_df160 8 = .ok (.dup, 1) := by decide +kernel
theorem dJ7_checkLength_df160_9 : decode cJ7_checkLength_df160 9 = .ok (.new 45, 3) := by decide +kernel
theorem dJ7_checkLength_df160_12 : decode cJ7_checkLength_df160 12 = .ok (.dup, 1) := by decide +kernel
theorem dJ7_checkLength_df160_13 : decode cJ7_checkLength_df160 13 = .ok (.invokespecial 47, 3) := by decide +kernel
theorem dJ7_checkLength_df160_16 : decode cJ7_checkLength_df160 16 = .ok (.iload_n 0, 1) := by decide +kernel
theorem dJ7_checkLength_df160_17 : decode cJ7_checkLength_df160 17 = .ok (.invokevirtual 54, 3) := by decide +kernel
theorem dJ7_checkLength_df160_20 : decode cJ7_checkLength_df160 20 = .ok (.ldc_w 337, 3) := by decide +kernel
theorem dJ7_checkLength_df160_23 : decode cJ7_checkLength_df160 23 = .ok (.invokevirtual 50, 3) := by decide +kernel
theorem dJ7_checkLength_df160_26 : decode cJ7_checkLength_df160 26 = .ok (.iload_n 1, 1) := by decide +kernel
theorem dJ7_checkLength_df160_27 : decode cJ7_checkLength_df160 27 = .ok (.invokevirtual 54, 3) := by decide +kernel
theorem dJ7_checkLength_df160_30 : decode cJ7_checkLength_df160 30 = .ok (.invokevirtual 61, 3) := by decide +kernel
theorem dJ7_checkLength_df160_33 : decode cJ7_checkLength_df160 33 = .ok (.invokespecial 65, 3) := by decide +kernel
theorem dJ7_checkLength_df160_36 : decode cJ7_checkLength_df160 36 = .ok (.athrow, 1) := by decide +kernel
theorem dJ7_checkLength_df160_37 : decode cJ7_checkLength_df160 37 = .ok (.return_, 1) := by decide +kernel
set_option maxRecDepth 100000 in
set_option maxHeartbeats 4000000 in
theorem J_checkLen (l : Launch) (D : va_G) (cid : Nat → ClassId) (J : jA) {n : Nat} (h : n ≤ 300) : jM l D cid J yJ7_checkLength_df160 (.code yJ7_checkLength_df160 cJ7_checkLength_df160 2 none) (gRX 0 0 0 0) [.int 0, .int (nI n)] ([] : va_W) [] 0 0 (α := Unit) (fun rv _ => rv = none) (fun _ => []) := by
  refine jMet (by decide +kernel) (Nat.le_of_ble_eq_true rfl) ?_
  intro p e s m args below meth c H locs ls Q A hA hC hni hl hI kk
  replace hC : jC p s m args c cJ7_checkLength_df160 2 "java/util/Arrays" D cid J A [] := hC
  replace hl : lv_has ls 2 [(0, .int 0), (1, .int (nI n))] := hl
  replace hI : jI D s A ([] : va_W) H locs := hI
  have hx := hC.1.1
  have hb := hC.1.2.1
  have hown := hC.1.2.2.2.1
  have hts := hC.1.2.2.2.2.1
  have hK := hC.1.2.2.2.2.2.1
  have hAn := hC.2.2.1
  have hJ := hC.2.1
  refine lv_iload_n hx hb dJ7_checkLength_df160_0 rfl (lv_at hl 1 rfl) ?_
  refine lv_iload_n hx hb dJ7_checkLength_df160_1 rfl (lv_at hl 0 rfl) ?_
  refine lv_icmp_ge (tgt := 37) hx hb dJ7_checkLength_df160_2 rfl (fun _ => ?_) (fun h => absurd (nI_pos' (by omega)) h)
  exact kk _ () _ _ _ _ _ _ _ rfl rfl hI ⟨Nat.le_of_ble_eq_true rfl, Nat.le_of_ble_eq_true rfl⟩ (Or.inr (Or.inl ⟨rfl, rfl, dJ7_checkLength_df160_37⟩))
theorem dJ7_copyOfRangeByte_39247_0 : decode cJ7_copyOfRangeByte_39247 0 = .ok (.iload_n 1, 1) := by decide +kernel
theorem dJ7_copyOfRangeByte_39247_1 : decode cJ7_copyOfRangeByte_39247 1 = .ok (.iload_n 2, 1) := by decide +kernel
theorem dJ7_copyOfRangeByte_39247_2 : decode cJ7_copyOfRangeByte_39247 2 = .ok (.invokestatic 343, 3) := by decide +kernel
theorem dJ7_copyOfRangeByte_39247_5 : decode cJ7_copyOfRangeByte_39247 5 = .ok (.iload_n 2, 1) := by decide +kernel
theorem dJ7_copyOfRangeByte_39247_6 : decode cJ7_copyOfRangeByte_39247 6 = .ok (.iload_n 1, 1) := by decide +kernel
theorem dJ7_copyOfRangeByte_39247_7 : decode cJ7_copyOfRangeByte_39247 7 = .ok (.isub, 1) := by decide +kernel
theorem dJ7_copyOfRangeByte_39247_8 : decode cJ7_copyOfRangeByte_39247 8 = .ok (.istore_n 3, 1) := by decide +kernel
theorem dJ7_copyOfRangeByte_39247_9 : decode cJ7_copyOfRangeByte_39247 9 = .ok (.iload_n 3, 1) := by decide +kernel
theorem dJ7_copyOfRangeByte_39247_10 : decode cJ7_copyOfRangeByte_39247 10 = .ok (.newarray .byte, 2) := by decide +kernel
theorem dJ7_copyOfRangeByte_39247_12 : decode cJ7_copyOfRangeByte_39247 12 = .ok (.astore 4, 2) := by decide +kernel
theorem dJ7_copyOfRangeByte_39247_14 : decode cJ7_copyOfRangeByte_39247 14 = .ok (.aload_n 0, 1) := by decide +kernel
theorem dJ7_copyOfRangeByte_39247_15 : decode cJ7_copyOfRangeByte_39247 15 = .ok (.iload_n 1, 1) := by decide +kernel
theorem dJ7_copyOfRangeByte_39247_16 : decode cJ7_copyOfRangeByte_39247 16 = .ok (.aload 4, 2) := by decide +kernel
theorem dJ7_copyOfRangeByte_39247_18 : decode cJ7_copyOfRangeByte_39247 18 = .ok (.iconst 0, 1) := by decide +kernel
theorem dJ7_copyOfRangeByte_39247_19 : decode cJ7_copyOfRangeByte_39247 19 = .ok (.aload_n 0, 1) := by decide +kernel
theorem dJ7_copyOfRangeByte_39247_20 : decode cJ7_copyOfRangeByte_39247 20 = .ok (.arraylength, 1) := by decide +kernel
theorem dJ7_copyOfRangeByte_39247_21 : decode cJ7_copyOfRangeByte_39247 21 = .ok (.iload_n 1, 1) := by decide +kernel
theorem dJ7_copyOfRangeByte_39247_22 : decode cJ7_copyOfRangeByte_39247 22 = .ok (.isub, 1) := by decide +kernel
theorem dJ7_copyOfRangeByte_39247_23 : decode cJ7_copyOfRangeByte_39247 23 = .ok (.iload_n 3, 1) := by decide +kernel
theorem dJ7_copyOfRangeByte_39247_24 : decode cJ7_copyOfRangeByte_39247 24 = .ok (.invokestatic 304, 3) := by decide +kernel
theorem dJ7_copyOfRangeByte_39247_27 : decode cJ7_copyOfRangeByte_39247 27 = .ok (.invokestatic 150, 3) := by decide +kernel
theorem dJ7_copyOfRangeByte_39247_30 : decode cJ7_copyOfRangeByte_39247 30 = .ok (.aload 4, 2) := by decide +kernel
theorem dJ7_copyOfRangeByte_39247_32 : decode cJ7_copyOfRangeByte_39247 32 = .ok (.areturn, 1) := by decide +kernel
set_option maxRecDepth 100000 in
set_option maxHeartbeats 4000000 in
theorem J_rangeB (l : Launch) (D : va_G) (cid : Nat → ClassId) (J : jA) {v n cap : Nat} {a : Nat → Int32} {T : List Int32} (h1 : n < cap) (h2 : cap ≤ 300) (hT : sbH T cap a) : jM l D cid J yJ7_copyOfRangeByte_39247 (.code yJ7_copyOfRangeByte_39247 cJ7_copyOfRangeByte_39247 5 (some (.array .byte))) (gRX 1 80 1 300) [.ref v, .int 0, .int (nI n)] [(v, .inl (cid 3, cap, .inl a))] [] 1 300 (α := Nat) (fun rv u => rv = some (.ref u)) (fun u => [(v, .inl (cid 3, cap, .inl a)), (u, .inl (cid 3, n, .inl (va_cpy a (fun _ => 0) 0 0 n)))]) := by
  refine jMet (by decide +kernel) (Nat.le_of_ble_eq_true rfl) ?_
  intro p e s m args below meth c H locs ls Q A hA hC hni hl hI kk
  replace hC : jC p s m args c cJ7_copyOfRangeByte_39247 5 "java/util/Arrays" D cid J A [] := hC
  replace hl : lv_has ls 5 [(0, .ref v), (1, .int 0), (2, .int (nI n))] := hl
  replace hI : jI D s A [(v, .inl (cid 3, cap, .inl a))] H locs := hI
  have hx := hC.1.1
  have hb := hC.1.2.1
  have hown := hC.1.2.2.2.1
  have hts := hC.1.2.2.2.2.1
  have hK := hC.1.2.2.2.2.2.1
  have hAn := hC.2.2.1
  have hJ := hC.2.1
  refine lv_iload_n hx hb dJ7_copyOfRangeByte_39247_0 rfl (lv_at hl 1 rfl) ?_
  refine lv_iload_n hx hb dJ7_copyOfRangeByte_39247_1 rfl (lv_at hl 2 rfl) ?_
  refine j_callS (rest := []) [(v, .inl (cid 3, cap, .inl a))] hC hI (J_checkLen l D cid J (n := n) (by omega)) (fun _ h => absurd h List.not_mem_nil) Z_J7_checkLength_df160 ZS_J7_checkLength_df160 w1545 ⟨rfl, rfl⟩ ⟨Nat.le_of_ble_eq_true rfl, Nat.le_of_ble_eq_true rfl⟩ rfl hl.1 rfl (Nat.le_of_ble_eq_true rfl) dJ7_copyOfRangeByte_39247_2 ⟨Nat.le_of_ble_eq_true rfl, Nat.le_of_ble_eq_true rfl⟩ (fun rv u H1 locs1 hp hI hk1 => ?_)
  obtain rfl := hp
  replace hI : jI D s A [(v, .inl (cid 3, cap, .inl a))] H1 locs1 := hI
  skip
  refine lv_iload_n hx hb dJ7_copyOfRangeByte_39247_5 rfl (lv_at hl 2 rfl) ?_
  refine lv_iload_n hx hb dJ7_copyOfRangeByte_39247_6 rfl (lv_at hl 1 rfl) ?_
  refine lv_isub hx hb dJ7_copyOfRangeByte_39247_7 ?_
  refine g_top (v := nI n) ((Int32.sub_zero _).symm) ?_
  refine lv_istore_n (lv' := [(3, .int (nI n)), (0, .ref v), (1, .int 0), (2, .int (nI n))]) hx hb dJ7_copyOfRangeByte_39247_8 rfl hl (by decide) rfl (fun ls hl => ?_)
  refine lv_iload_n hx hb dJ7_copyOfRangeByte_39247_9 rfl (lv_at hl 0 rfl) ?_
  refine va_newa (atype := .byte) (ty := .byte) hx hb (hts _ w328) rfl hK hI.1 hI.2.1 hI.2.2 hAn (N' := n) (a0 := (n, .inl (fun _ => 0))) (fun _ => rfl) (nI_pos (by omega)) (nI_clamp (by omega)) (by show n * 1 ≤ _; omega) (Nat.le_of_ble_eq_true rfl) (show 0 + n ≤ 300 by omega) dJ7_copyOfRangeByte_39247_10 (fun u cA H hK1 hP hD hS => ?_)
  have ec := iid_byte hC.1.2.2.2.2.2 cA (hK1.2 5 _ rfl).2
  subst ec
  replace hI : jI D s A [(v, .inl (cid 3, cap, .inl a)), (u, .inl (cid 3, n, .inl (fun _ => 0)))] _ _ := ⟨hP, hD, hS⟩
  refine lv_astore (lv' := [(4, .ref u), (3, .int (nI n)), (0, .ref v), (1, .int 0), (2, .int (nI n))]) hx hb dJ7_copyOfRangeByte_39247_12 hl (by decide) rfl (fun ls hl => ?_)
  refine lv_aload_n hx hb dJ7_copyOfRangeByte_39247_14 rfl (lv_at hl 2 rfl) ?_
  refine lv_iload_n hx hb dJ7_copyOfRangeByte_39247_15 rfl (lv_at hl 3 rfl) ?_
  refine lv_aload hx hb dJ7_copyOfRangeByte_39247_16 (lv_at hl 0 rfl) ?_
  refine lv_iconst (v := 0) hx hb dJ7_copyOfRangeByte_39247_18 (by decide) ?_
  refine lv_aload_n hx hb dJ7_copyOfRangeByte_39247_19 rfl (lv_at hl 2 rfl) ?_
  refine va_alen hx hb hK hI.1 0 3 rfl rfl (v := nI cap) rfl dJ7_copyOfRangeByte_39247_20 ?_
  refine lv_iload_n hx hb dJ7_copyOfRangeByte_39247_21 rfl (lv_at hl 3 rfl) ?_
  refine lv_isub hx hb dJ7_copyOfRangeByte_39247_22 ?_
  refine g_top (v := nI cap) ((Int32.sub_zero _).symm) ?_
  refine lv_iload_n hx hb dJ7_copyOfRangeByte_39247_23 rfl (lv_at hl 1 rfl) ?_
  refine va_mmin hx hb (hC.1.2.2.1.trans hl.1.symm) hown (hts _ w1282) (hts _ w1283) (hts _ w18) (hts _ w1284) (Nat.le_of_ble_eq_true rfl) (Nat.le_of_ble_eq_true rfl) (Nat.le_of_ble_eq_true rfl) (show 0 + n ≤ 300 by omega) dJ7_copyOfRangeByte_39247_24 ?_
  refine g_top (v := nI n) (by first | (rw [if_neg (nI_nlt (Nat.le_of_lt h1) (by omega))]; done) | (rw [if_pos (nI_le (Nat.le_of_lt h1) (by omega))]; done) | (by_cases q : nI cap < nI n; · exact absurd q (nI_nlt (Nat.le_of_lt h1) (by omega)); · rw [if_neg q]) | (rw [if_pos (nI_lt h1 (by omega))]; done) | (rw [if_neg (fun q => by have := (nI_leI (by omega) (by omega)).mp q; omega)]; done)) ?_
  refine va_copyi hx hb (hC.1.2.2.1.trans hl.1.symm) hown (hts _ w1285) (hts _ w395) (hts _ w394) (hts _ w17) hK hI.1 hI.2.1 hI.2.2 0 1 3 3 rfl rfl rfl rfl rfl (by decide) (by decide) (nI_pos (by omega)) (show (0 : Int32).toNatClampNeg + (nI n).toNatClampNeg ≤ cap by rw [nI_clamp (by omega), show (0 : Int32).toNatClampNeg = 0 by decide]; omega) (show (0 : Int32).toNatClampNeg + (nI n).toNatClampNeg ≤ n by rw [nI_clamp (by omega), show (0 : Int32).toNatClampNeg = 0 by decide]; omega) (fun i hi => hT.fit _) (Nat.le_of_ble_eq_true rfl) (Nat.le_of_ble_eq_true rfl) dJ7_copyOfRangeByte_39247_27 (fun H locs hP hD hS => ?_)
  rw [nI_clamp (show n < 2 ^ 31 by omega), show (0 : Int32).toNatClampNeg = 0 by decide] at hP hD
  replace hI : jI D s A [(v, .inl (cid 3, cap, .inl a)), (u, .inl (cid 3, n, .inl (va_cpy a (fun _ => 0) 0 0 n)))] H locs := ⟨hP, hD, hS⟩
  refine lv_aload hx hb dJ7_copyOfRangeByte_39247_30 (lv_at hl 0 rfl) ?_
  refine W.widen (show _ ≤ 1 by omega) (show _ ≤ 300 by omega) ?_
  exact kk _ u _ _ _ _ _ _ _ rfl rfl hI ⟨Nat.le_of_ble_eq_true rfl, Nat.le_of_ble_eq_true rfl⟩ (Or.inr (Or.inr ⟨_, _, rfl, rfl, (by first | exact Or.inl ⟨_, rfl⟩ | exact Or.inr ⟨_, rfl⟩), dJ7_copyOfRangeByte_39247_32⟩))
theorem dJ7_copyOfRange_39247_0 : decode cJ7_copyOfRange_39247 0 = .ok (.iload_n 1, 1) := by decide +kernel
theorem dJ7_copyOfRange_39247_1 : decode cJ7_copyOfRange_39247 1 = .ok (.ifCond .ne 9, 3) := by decide +kernel
theorem dJ7_copyOfRange_39247_4 : decode cJ7_copyOfRange_39247 4 = .ok (.iload_n 2, 1) := by decide +kernel
theorem dJ7_copyOfRange_39247_5 : decode cJ7_copyOfRange_39247 5 = .ok (.aload_n 0, 1) := by decide +kernel
theorem dJ7_copyOfRange_39247_6 : decode cJ7_copyOfRange_39247 6 = .ok (.arraylength, 1) := by decide +kernel
theorem dJ7_copyOfRange_39247_7 : decode cJ7_copyOfRange_39247 7 = .ok (.if_icmp .eq 10, 3) := by decide +kernel
theorem dJ7_copyOfRange_39247_10 : decode cJ7_copyOfRange_39247 10 = .ok (.aload_n 0, 1) := by decide +kernel
theorem dJ7_copyOfRange_39247_11 : decode cJ7_copyOfRange_39247 11 = .ok (.iload_n 1, 1) := by decide +kernel
theorem dJ7_copyOfRange_39247_12 : decode cJ7_copyOfRange_39247 12 = .ok (.iload_n 2, 1) := by decide +kernel
theorem dJ7_copyOfRange_39247_13 : decode cJ7_copyOfRange_39247 13 = .ok (.invokestatic 339, 3) := by decide +kernel
theorem dJ7_copyOfRange_39247_16 : decode cJ7_copyOfRange_39247 16 = .ok (.areturn, 1) := by decide +kernel
theorem dJ7_copyOfRange_39247_17 : decode cJ7_copyOfRange_39247 17 = .ok (.aload_n 0, 1) := by decide +kernel
theorem dJ7_copyOfRange_39247_18 : decode cJ7_copyOfRange_39247 18 = .ok (.invokevirtual 310, 3) := by decide +kernel
theorem dJ7_copyOfRange_39247_21 : decode cJ7_copyOfRange_39247 21 = .ok (.checkcast 311, 3) := by decide +kernel
theorem dJ7_copyOfRange_39247_24 : decode cJ7_copyOfRange_39247 24 = .ok (.areturn, 1) := by decide +kernel
set_option maxRecDepth 100000 in
set_option maxHeartbeats 4000000 in
theorem J_range (l : Launch) (D : va_G) (cid : Nat → ClassId) (J : jA) {v n cap : Nat} {a : Nat → Int32} {T : List Int32} (h1 : n < cap) (h2 : cap ≤ 300) (hT : sbH T cap a) : jM l D cid J yJ7_copyOfRange_39247 (.code yJ7_copyOfRange_39247 cJ7_copyOfRange_39247 3 (some (.array .byte))) (gRX 2 120 1 300) [.ref v, .int 0, .int (nI n)] [(v, .inl (cid 3, cap, .inl a))] [] 1 300 (α := Nat) (fun rv u => rv = some (.ref u)) (fun u => [(v, .inl (cid 3, cap, .inl a)), (u, .inl (cid 3, n, .inl (va_cpy a (fun _ => 0) 0 0 n)))]) := by
  refine jMet (by decide +kernel) (Nat.le_of_ble_eq_true rfl) ?_
  intro p e s m args below meth c H locs ls Q A hA hC hni hl hI kk
  replace hC : jC p s m args c cJ7_copyOfRange_39247 3 "java/util/Arrays" D cid J A [] := hC
  replace hl : lv_has ls 3 [(0, .ref v), (1, .int 0), (2, .int (nI n))] := hl
  replace hI : jI D s A [(v, .inl (cid 3, cap, .inl a))] H locs := hI
  have hx := hC.1.1
  have hb := hC.1.2.1
  have hown := hC.1.2.2.2.1
  have hts := hC.1.2.2.2.2.1
  have hK := hC.1.2.2.2.2.2.1
  have hAn := hC.2.2.1
  have hJ := hC.2.1
  refine lv_iload_n hx hb dJ7_copyOfRange_39247_0 rfl (lv_at hl 1 rfl) ?_
  refine lv_if_ne (tgt := 10) hx hb dJ7_copyOfRange_39247_1 rfl (fun h => absurd rfl h) (fun _ => ?_)
  refine lv_iload_n hx hb dJ7_copyOfRange_39247_4 rfl (lv_at hl 2 rfl) ?_
  refine lv_aload_n hx hb dJ7_copyOfRange_39247_5 rfl (lv_at hl 0 rfl) ?_
  refine va_alen hx hb hK hI.1 0 3 rfl rfl (v := nI cap) rfl dJ7_copyOfRange_39247_6 ?_
  refine lv_icmp_eq (tgt := 17) hx hb dJ7_copyOfRange_39247_7 rfl (fun h => absurd h (fun h9 => by have := (nI_eq (by omega) (by omega)).mp h9; omega)) (fun _ => ?_)
  refine lv_aload_n hx hb dJ7_copyOfRange_39247_10 rfl (lv_at hl 0 rfl) ?_
  refine lv_iload_n hx hb dJ7_copyOfRange_39247_11 rfl (lv_at hl 1 rfl) ?_
  refine lv_iload_n hx hb dJ7_copyOfRange_39247_12 rfl (lv_at hl 2 rfl) ?_
  refine j_callS (rest := []) ([] : va_W) hC hI (J_rangeB l D cid J (n := n) h1 h2 hT) (fun _ h => absurd h List.not_mem_nil) Z_J7_copyOfRangeByte_39247 ZS_J7_copyOfRangeByte_39247 w1542 ⟨rfl, rfl⟩ ⟨Nat.le_of_ble_eq_true rfl, Nat.le_of_ble_eq_true rfl⟩ rfl hl.1 rfl (Nat.le_of_ble_eq_true rfl) dJ7_copyOfRange_39247_13 ⟨Nat.le_of_ble_eq_true rfl, Nat.le_of_ble_eq_true rfl⟩ (fun rv u H1 locs1 hp hI hk1 => ?_)
  obtain rfl := hp
  replace hI : jI D s A [(v, .inl (cid 3, cap, .inl a)), (u, .inl (cid 3, n, .inl (va_cpy a (fun _ => 0) 0 0 n)))] H1 locs1 := hI
  skip
  exact kk _ u _ _ _ _ _ _ _ rfl rfl hI ⟨Nat.le_of_ble_eq_true rfl, Nat.le_of_ble_eq_true rfl⟩ (Or.inr (Or.inr ⟨_, _, rfl, rfl, (by first | exact Or.inl ⟨_, rfl⟩ | exact Or.inr ⟨_, rfl⟩), dJ7_copyOfRange_39247_16⟩))
theorem dJ0_init_db425_0 : decode cJ0_init_db425 0 = .ok (.aload_n 0, 1) := by decide +kernel
theorem dJ0_init_db425_1 : decode cJ0_init_db425 1 = .ok (.invokespecial 1, 3) := by decide +kernel
theorem dJ0_init_db425_4 : decode cJ0_init_db425 4 = .ok (.aload_n 1, 1) := by decide +kernel
theorem dJ0_init_db425_5 : decode cJ0_init_db425 5 = .ok (.invokevirtual 552, 3) := by decide +kernel
theorem dJ0_init_db425_8 : decode cJ0_init_db425 8 = .ok (.astore_n 3, 1) := by decide +kernel
theorem dJ0_init_db425_9 : decode cJ0_init_db425 9 = .ok (.aload_n 1, 1) := by decide +kernel
theorem dJ0_init_db425_10 : decode cJ0_init_db425 10 = .ok (.invokevirtual 549, 3) := by decide +kernel
theorem dJ0_init_db425_13 : decode cJ0_init_db425 13 = .ok (.istore 4, 2) := by decide +kernel
theorem dJ0_init_db425_15 : decode cJ0_init_db425 15 = .ok (.aload_n 1, 1) := by decide +kernel
theorem dJ0_init_db425_16 : decode cJ0_init_db425 16 = .ok (.invokevirtual 1047, 3) := by decide +kernel
theorem dJ0_init_db425_19 : decode cJ0_init_db425 19 = .ok (.ifCond .eq 22, 3) := by decide +kernel
theorem dJ0_init_db425_22 : decode cJ0_init_db425 22 = .ok (.aload_n 0, 1) := by decide +kernel
theorem dJ0_init_db425_23 : decode cJ0_init_db425 23 = .ok (.iconst 0, 1) := by decide +kernel
theorem dJ0_init_db425_24 : decode cJ0_init_db425 24 = .ok (.putfield 15, 3) := by decide +kernel
theorem dJ0_init_db425_27 : decode cJ0_init_db425 27 = .ok (.aload_n 0, 1) := by decide +kernel
theorem dJ0_init_db425_28 : decode cJ0_init_db425 28 = .ok (.aload_n 3, 1) := by decide +kernel
theorem dJ0_init_db425_29 : decode cJ0_init_db425 29 = .ok (.iconst 0, 1) := by decide +kernel
theorem dJ0_init_db425_30 : decode cJ0_init_db425 30 = .ok (.iload 4, 2) := by decide +kernel
theorem dJ0_init_db425_32 : decode cJ0_init_db425 32 = .ok (.invokestatic 54, 3) := by decide +kernel
theorem dJ0_init_db425_35 : decode cJ0_init_db425 35 = .ok (.putfield 9, 3) := by decide +kernel
theorem dJ0_init_db425_38 : decode cJ0_init_db425 38 = .ok (.goto 59, 3) := by decide +kernel
theorem dJ0_init_db425_41 : decode cJ0_init_db425 41 = .ok (.getstatic 38, 3) := by decide +kernel
theorem dJ0_init_db425_44 : decode cJ0_init_db425 44 = .ok (.ifCond .eq 35, 3) := by decide +kernel
theorem dJ0_init_db425_47 : decode cJ0_init_db425 47 = .ok (.aload_n 1, 1) := by decide +kernel
theorem dJ0_init_db425_48 : decode cJ0_init_db425 48 = .ok (.getfield 1048, 3) := by decide +kernel
theorem dJ0_init_db425_51 : decode cJ0_init_db425 51 = .ok (.ifCond .eq 28, 3) := by decide +kernel
theorem dJ0_init_db425_54 : decode cJ0_init_db425 54 = .ok (.aload_n 0, 1) := by decide +kernel
theorem dJ0_init_db425_55 : decode cJ0_init_db425 55 = .ok (.aload_n 3, 1) := by decide +kernel
theorem dJ0_init_db425_56 : decode cJ0_init_db425 56 = .ok (.iconst 0, 1) := by decide +kernel
theorem dJ0_init_db425_57 : decode cJ0_init_db425 57 = .ok (.iload 4, 2) := by decide +kernel
theorem dJ0_init_db425_59 : decode cJ0_init_db425 59 = .ok (.invokestatic 1051, 3) := by decide +kernel
theorem dJ0_init_db425_62 : decode cJ0_init_db425 62 = .ok (.putfield 9, 3) := by decide +kernel
theorem dJ0_init_db425_65 : decode cJ0_init_db425 65 = .ok (.aload_n 0, 1) := by decide +kernel
theorem dJ0_init_db425_66 : decode cJ0_init_db425 66 = .ok (.aload_n 0, 1) := by decide +kernel
theorem dJ0_init_db425_67 : decode cJ0_init_db425 67 = .ok (.getfield 9, 3) := by decide +kernel
theorem dJ0_init_db425_70 : decode cJ0_init_db425 70 = .ok (.iload 4, 2) := by decide +kernel
theorem dJ0_init_db425_72 : decode cJ0_init_db425 72 = .ok (.invokestatic 47, 3) := by decide +kernel
theorem dJ0_init_db425_75 : decode cJ0_init_db425 75 = .ok (.putfield 15, 3) := by decide +kernel
theorem dJ0_init_db425_78 : decode cJ0_init_db425 78 = .ok (.return_, 1) := by decide +kernel
theorem dJ0_init_db425_79 : decode cJ0_init_db425 79 = .ok (.aload_n 0, 1) := by decide +kernel
theorem dJ0_init_db425_80 : decode cJ0_init_db425 80 = .ok (.iconst 1, 1) := by decide +kernel
theorem dJ0_init_db425_81 : decode cJ0_init_db425 81 = .ok (.putfield 15, 3) := by decide +kernel
theorem dJ0_init_db425_84 : decode cJ0_init_db425 84 = .ok (.aload_n 0, 1) := by decide +kernel
theorem dJ0_init_db425_85 : decode cJ0_init_db425 85 = .ok (.aload_n 3, 1) := by decide +kernel
theorem dJ0_init_db425_86 : decode cJ0_init_db425 86 = .ok (.iconst 0, 1) := by decide +kernel
theorem dJ0_init_db425_87 : decode cJ0_init_db425 87 = .ok (.iload 4, 2) := by decide +kernel
theorem dJ0_init_db425_89 : decode cJ0_init_db425 89 = .ok (.iconst 1, 1) := by decide +kernel
theorem dJ0_init_db425_90 : decode cJ0_init_db425 90 = .ok (.ishl, 1) := by decide +kernel
theorem dJ0_init_db425_91 : decode cJ0_init_db425 91 = .ok (.invokestatic 54, 3) := by decide +kernel
theorem dJ0_init_db425_94 : decode cJ0_init_db425 94 = .ok (.putfield 9, 3) := by decide +kernel
theorem dJ0_init_db425_97 : decode cJ0_init_db425 97 = .ok (.return_, 1) := by decide +kernel
set_option maxRecDepth 100000 in
set_option maxHeartbeats 4000000 in
theorem J_strInit (l : Launch) (D : va_G) (cid : Nat → ClassId) (J : jA) {q v w n cap : Nat} {a : Nat → Int32} {T : List Int32} (h1 : n < cap) (h2 : cap ≤ 300) (hT : sbH T cap a) : jM l D cid J yJ0_init_db425 (.code yJ0_init_db425 cJ0_init_db425 5 none) (gRX 3 170 1 300) [.ref w, .ref q, .null] [(q, .inr (1, [.ref v, .int 0, .int 0, .int (nI n)])), (v, .inl (cid 3, cap, .inl a)), (w, .inr (0, [.null, .int 0, .int 0, .int 0]))] [] 1 300 (α := Nat) (fun rv _ => rv = none) (fun u => [(q, .inr (1, [.ref v, .int 0, .int 0, .int (nI n)])), (v, .inl (cid 3, cap, .inl a)), (w, .inr (0, [.ref u, .int 0, .int 0, .int 0])), (u, .inl (cid 3, n, .inl (va_cpy a (fun _ => 0) 0 0 n)))]) := by
  refine jMet (by decide +kernel) (Nat.le_of_ble_eq_true rfl) ?_
  intro p e s m args below meth c H locs ls Q A hA hC hni hl hI kk
  replace hC : jC p s m args c cJ0_init_db425 5 "java/lang/String" D cid J A [] := hC
  replace hl : lv_has ls 5 [(0, .ref w), (1, .ref q), (2, .null)] := hl
  replace hI : jI D s A [(q, .inr (1, [.ref v, .int 0, .int 0, .int (nI n)])), (v, .inl (cid 3, cap, .inl a)), (w, .inr (0, [.null, .int 0, .int 0, .int 0]))] H locs := hI
  have hx := hC.1.1
  have hb := hC.1.2.1
  have hown := hC.1.2.2.2.1
  have hts := hC.1.2.2.2.2.1
  have hK := hC.1.2.2.2.2.2.1
  have hAn := hC.2.2.1
  have hJ := hC.2.1
  refine lv_aload_n hx hb dJ0_init_db425_0 rfl (lv_at hl 0 rfl) ?_
  refine j_obj hC hl.1 w1524 w40 w41 ⟨Nat.le_of_ble_eq_true rfl, Nat.le_of_ble_eq_true rfl⟩ dJ0_init_db425_1 ?_
  refine lv_aload_n hx hb dJ0_init_db425_4 rfl (lv_at hl 1 rfl) ?_
  replace hI : jI D s A [(v, .inl (cid 3, cap, .inl a)), (w, .inr (0, [.null, .int 0, .int 0, .int 0])), (q, .inr (1, [.ref v, .int 0, .int 0, .int (nI n)]))] _ _ := j_sub hI [1, 2, 0] rfl rfl
  refine j_callVC (rest := []) [(v, .inl (cid 3, cap, .inl a)), (w, .inr (0, [.null, .int 0, .int 0, .int 0]))] "java/lang/StringBuilder" hC hI (J_sbValue l D cid J (v := v) (n := nI n)) (fun _ h => absurd h List.not_mem_nil) Z_J5_getValue_6d5f1 ZI_J5_getValue_6d5f1 (hts _ w1528) w1525 (va_recv hK hI.1 (ci := 1) rfl (q0 := 2) rfl) ⟨rfl, rfl⟩ ⟨Nat.le_of_ble_eq_true rfl, Nat.le_of_ble_eq_true rfl⟩ rfl hl.1 rfl (Nat.le_of_ble_eq_true rfl) dJ0_init_db425_5 ⟨Nat.le_of_ble_eq_true rfl, Nat.le_of_ble_eq_true rfl⟩ (fun rv u H1 locs1 hp hI hk1 => ?_)
  obtain rfl := hp
  replace hI : jI D s A [(v, .inl (cid 3, cap, .inl a)), (w, .inr (0, [.null, .int 0, .int 0, .int 0])), (q, .inr (1, [.ref v, .int 0, .int 0, .int (nI n)]))] H1 locs1 := hI
  refine lv_astore_n (lv' := [(3, .ref v), (0, .ref w), (1, .ref q), (2, .null)]) hx hb dJ0_init_db425_8 rfl hl (by decide) rfl (fun ls hl => ?_)
  refine lv_aload_n hx hb dJ0_init_db425_9 rfl (lv_at hl 2 rfl) ?_
  refine j_callO (rest := []) [(v, .inl (cid 3, cap, .inl a)), (w, .inr (0, [.null, .int 0, .int 0, .int 0]))] "java/lang/StringBuilder" hC hI (J_sbLength l D cid J (v := v) (n := nI n)) (fun _ h => absurd h List.not_mem_nil) Z_J4_length_8abf5 ZI_J4_length_8abf5 ZI_J5_length_8abf5 w1537 ⟨by decide, by decide⟩ rfl w1532 w1533 w1530 (va_recv hK hI.1 (ci := 1) rfl (q0 := 2) rfl) ⟨rfl, rfl⟩ ⟨Nat.le_of_ble_eq_true rfl, Nat.le_of_ble_eq_true rfl⟩ rfl hl.1 rfl (Nat.le_of_ble_eq_true rfl) dJ0_init_db425_10 ⟨Nat.le_of_ble_eq_true rfl, Nat.le_of_ble_eq_true rfl⟩ (fun rv u H1 locs1 hp hI hk1 => ?_)
  obtain rfl := hp
  replace hI : jI D s A [(v, .inl (cid 3, cap, .inl a)), (w, .inr (0, [.null, .int 0, .int 0, .int 0])), (q, .inr (1, [.ref v, .int 0, .int 0, .int (nI n)]))] H1 locs1 := hI
  refine lv_istore (lv' := [(4, .int (nI n)), (3, .ref v), (0, .ref w), (1, .ref q), (2, .null)]) hx hb dJ0_init_db425_13 hl (by decide) rfl (fun ls hl => ?_)
  refine lv_aload_n hx hb dJ0_init_db425_15 rfl (lv_at hl 3 rfl) ?_
  refine j_callVC (rest := []) [(v, .inl (cid 3, cap, .inl a)), (w, .inr (0, [.null, .int 0, .int 0, .int 0]))] "java/lang/StringBuilder" hC hI (J_sbLatin l D cid J (v := v) (n := nI n)) (fun _ h => absurd h List.not_mem_nil) Z_J5_isLatin1_aae02 ZI_J5_isLatin1_aae02 (hts _ w1436) w1538 (va_recv hK hI.1 (ci := 1) rfl (q0 := 2) rfl) ⟨rfl, rfl⟩ ⟨Nat.le_of_ble_eq_true rfl, Nat.le_of_ble_eq_true rfl⟩ rfl hl.1 rfl (Nat.le_of_ble_eq_true rfl) dJ0_init_db425_16 ⟨Nat.le_of_ble_eq_true rfl, Nat.le_of_ble_eq_true rfl⟩ (fun rv u H1 locs1 hp hI hk1 => ?_)
  obtain rfl := hp
  replace hI : jI D s A [(v, .inl (cid 3, cap, .inl a)), (w, .inr (0, [.null, .int 0, .int 0, .int 0])), (q, .inr (1, [.ref v, .int 0, .int 0, .int (nI n)]))] H1 locs1 := hI
  refine lv_if_eq (tgt := 41) hx hb dJ0_init_db425_19 rfl (fun h => absurd h (by decide)) (fun _ => ?_)
  refine lv_aload_n hx hb dJ0_init_db425_22 rfl (lv_at hl 2 rfl) ?_
  refine lv_iconst (v := 0) hx hb dJ0_init_db425_23 (by decide) ?_
  refine va_putF hx hb hts uJ0' tyJ0 tyJ0_ok nmJ0 hown hK hI.1 hI.2.1 hI.2.2 1 (by rfl) rfl 1 (by decide) (hts _ w1567) (fun _ h9 => h9) rfl hni rfl (ty := .byte) (by decide +kernel) (by first | rfl | exact gb_nar _) (by first | rfl | exact gb_fit _) (Nat.le_of_ble_eq_true rfl) dJ0_init_db425_24 (fun H locs hP hD hS => ?_)
  replace hI : jI D s A [(v, .inl (cid 3, cap, .inl a)), (w, .inr (0, [.null, .int 0, .int 0, .int 0])), (q, .inr (1, [.ref v, .int 0, .int 0, .int (nI n)]))] H locs := ⟨hP, hD, hS⟩
  refine lv_aload_n hx hb dJ0_init_db425_27 rfl (lv_at hl 2 rfl) ?_
  refine lv_aload_n hx hb dJ0_init_db425_28 rfl (lv_at hl 1 rfl) ?_
  refine lv_iconst (v := 0) hx hb dJ0_init_db425_29 (by decide) ?_
  refine lv_iload hx hb dJ0_init_db425_30 (lv_at hl 0 rfl) ?_
  replace hI : jI D s A [(w, .inr (0, [.null, .int 0, .int 0, .int 0])), (q, .inr (1, [.ref v, .int 0, .int 0, .int (nI n)])), (v, .inl (cid 3, cap, .inl a))] _ _ := j_sub hI [1, 2, 0] rfl rfl
  refine j_callS (rest := [.ref w]) [(w, .inr (0, [.null, .int 0, .int 0, .int 0])), (q, .inr (1, [.ref v, .int 0, .int 0, .int (nI n)]))] hC hI (J_range l D cid J (n := n) h1 h2 hT) (fun _ h => absurd h List.not_mem_nil) Z_J7_copyOfRange_39247 ZS_J7_copyOfRange_39247 w1539 ⟨rfl, rfl⟩ ⟨Nat.le_of_ble_eq_true rfl, Nat.le_of_ble_eq_true rfl⟩ rfl hl.1 rfl (Nat.le_of_ble_eq_true rfl) dJ0_init_db425_32 ⟨Nat.le_of_ble_eq_true rfl, Nat.le_of_ble_eq_true rfl⟩ (fun rv u H1 locs1 hp hI hk1 => ?_)
  obtain rfl := hp
  replace hI : jI D s A [(w, .inr (0, [.null, .int 0, .int 0, .int 0])), (q, .inr (1, [.ref v, .int 0, .int 0, .int (nI n)])), (v, .inl (cid 3, cap, .inl a)), (u, .inl (cid 3, n, .inl (va_cpy a (fun _ => 0) 0 0 n)))] H1 locs1 := hI
  skip
  refine va_putF hx hb hts uJ0' tyJ0 tyJ0_ok nmJ0 hown hK hI.1 hI.2.1 hI.2.2 0 (by rfl) rfl 0 (by decide) (hts _ w1566) (fun _ h9 => h9) rfl hni rfl (ty := .array .byte) (by decide +kernel) rfl rfl (Nat.le_of_ble_eq_true rfl) dJ0_init_db425_35 (fun H locs hP hD hS => ?_)
  replace hI : jI D s A [(w, .inr (0, [.ref u, .int 0, .int 0, .int 0])), (q, .inr (1, [.ref v, .int 0, .int 0, .int (nI n)])), (v, .inl (cid 3, cap, .inl a)), (u, .inl (cid 3, n, .inl (va_cpy a (fun _ => 0) 0 0 n)))] H locs := ⟨hP, hD, hS⟩
  refine lv_goto (tgt := 97) hx hb dJ0_init_db425_38 rfl ?_
  replace hI : jI D s A [(q, .inr (1, [.ref v, .int 0, .int 0, .int (nI n)])), (v, .inl (cid 3, cap, .inl a)), (w, .inr (0, [.ref u, .int 0, .int 0, .int 0])), (u, .inl (cid 3, n, .inl (va_cpy a (fun _ => 0) 0 0 n)))] _ _ := j_sub hI [1, 2, 0, 3] rfl rfl
  exact kk _ u _ _ _ _ _ _ _ rfl rfl hI ⟨Nat.le_of_ble_eq_true rfl, Nat.le_of_ble_eq_true rfl⟩ (Or.inr (Or.inl ⟨rfl, rfl, dJ0_init_db425_97⟩))
theorem dJ0_init_81219_0 : decode cJ0_init_81219 0 = .ok (.aload_n 0, 1) := by decide +kernel
theorem dJ0_init_81219_1 : decode cJ0_init_81219 1 = .ok (.aload_n 1, 1) := by decide +kernel
theorem dJ0_init_81219_2 : decode cJ0_init_81219 2 = .ok (.aconst_null, 1) := by decide +kernel
theorem dJ0_init_81219_3 : decode cJ0_init_81219 3 = .ok (.invokespecial 489, 3) := by decide +kernel
theorem dJ0_init_81219_6 : decode cJ0_init_81219 6 = .ok (.return_, 1) := by decide +kernel
set_option maxRecDepth 100000 in
set_option maxHeartbeats 4000000 in
theorem J_strInit2 (l : Launch) (D : va_G) (cid : Nat → ClassId) (J : jA) {q v w n cap : Nat} {a : Nat → Int32} {T : List Int32} (h1 : n < cap) (h2 : cap ≤ 300) (hT : sbH T cap a) : jM l D cid J yJ0_init_81219 (.code yJ0_init_81219 cJ0_init_81219 2 none) (gRX 4 200 1 300) [.ref w, .ref q] [(q, .inr (1, [.ref v, .int 0, .int 0, .int (nI n)])), (v, .inl (cid 3, cap, .inl a)), (w, .inr (0, [.null, .int 0, .int 0, .int 0]))] [] 1 300 (α := Nat) (fun rv _ => rv = none) (fun u => [(q, .inr (1, [.ref v, .int 0, .int 0, .int (nI n)])), (v, .inl (cid 3, cap, .inl a)), (w, .inr (0, [.ref u, .int 0, .int 0, .int 0])), (u, .inl (cid 3, n, .inl (va_cpy a (fun _ => 0) 0 0 n)))]) := by
  refine jMet (by decide +kernel) (Nat.le_of_ble_eq_true rfl) ?_
  intro p e s m args below meth c H locs ls Q A hA hC hni hl hI kk
  replace hC : jC p s m args c cJ0_init_81219 2 "java/lang/String" D cid J A [] := hC
  replace hl : lv_has ls 2 [(0, .ref w), (1, .ref q)] := hl
  replace hI : jI D s A [(q, .inr (1, [.ref v, .int 0, .int 0, .int (nI n)])), (v, .inl (cid 3, cap, .inl a)), (w, .inr (0, [.null, .int 0, .int 0, .int 0]))] H locs := hI
  have hx := hC.1.1
  have hb := hC.1.2.1
  have hown := hC.1.2.2.2.1
  have hts := hC.1.2.2.2.2.1
  have hK := hC.1.2.2.2.2.2.1
  have hAn := hC.2.2.1
  have hJ := hC.2.1
  refine lv_aload_n hx hb dJ0_init_81219_0 rfl (lv_at hl 0 rfl) ?_
  refine lv_aload_n hx hb dJ0_init_81219_1 rfl (lv_at hl 1 rfl) ?_
  refine lv_null hx hb dJ0_init_81219_2 ?_
  refine j_callI (rest := []) ([] : va_W) hC hI (J_strInit l D cid J (n := n) h1 h2 hT) (fun _ h => absurd h List.not_mem_nil) Z_J0_init_db425 rfl ZI_J0_init_db425 w1521 ⟨rfl, rfl⟩ ⟨Nat.le_of_ble_eq_true rfl, Nat.le_of_ble_eq_true rfl⟩ rfl hl.1 rfl (Nat.le_of_ble_eq_true rfl) dJ0_init_81219_3 ⟨Nat.le_of_ble_eq_true rfl, Nat.le_of_ble_eq_true rfl⟩ (fun rv u H1 locs1 hp hI hk1 => ?_)
  obtain rfl := hp
  replace hI : jI D s A [(q, .inr (1, [.ref v, .int 0, .int 0, .int (nI n)])), (v, .inl (cid 3, cap, .inl a)), (w, .inr (0, [.ref u, .int 0, .int 0, .int 0])), (u, .inl (cid 3, n, .inl (va_cpy a (fun _ => 0) 0 0 n)))] H1 locs1 := hI
  skip
  exact kk _ u _ _ _ _ _ _ _ rfl rfl hI ⟨Nat.le_of_ble_eq_true rfl, Nat.le_of_ble_eq_true rfl⟩ (Or.inr (Or.inl ⟨rfl, rfl, dJ0_init_81219_6⟩))
theorem dJ4_toString_0e30d_0 : decode cJ4_toString_0e30d 0 = .ok (.new 18, 3) := by decide +kernel
theorem dJ4_toString_0e30d_3 : decode cJ4_toString_0e30d 3 = .ok (.dup, 1) := by decide +kernel
theorem dJ4_toString_0e30d_4 : decode cJ4_toString_0e30d 4 = .ok (.aload_n 0, 1) := by decide +kernel
theorem dJ4_toString_0e30d_5 : decode cJ4_toString_0e30d 5 = .ok (.invokespecial 137, 3) := by decide +kernel
theorem dJ4_toString_0e30d_8 : decode cJ4_toString_0e30d 8 = .ok (.areturn, 1) := by decide +kernel
set_option maxRecDepth 100000 in
set_option maxHeartbeats 4000000 in
theorem J_toString (l : Launch) (D : va_G) (cid : Nat → ClassId) (J : jA) {q v n cap : Nat} {a : Nat → Int32} {T : List Int32} (h1 : n < cap) (h2 : cap ≤ 300) (hT : sbH T cap a) : jM l D cid J yJ4_toString_0e30d (.code yJ4_toString_0e30d cJ4_toString_0e30d 1 (some (.object "java/lang/String"))) (gRX 5 240 2 310) [.ref q] [(q, .inr (1, [.ref v, .int 0, .int 0, .int (nI n)])), (v, .inl (cid 3, cap, .inl a))] [] 2 310 (α := Nat × Nat) (fun rv u => rv = some (.ref u.1)) (fun u => [(q, .inr (1, [.ref v, .int 0, .int 0, .int (nI n)])), (v, .inl (cid 3, cap, .inl a)), (u.1, .inr (0, [.ref u.2, .int 0, .int 0, .int 0])), (u.2, .inl (cid 3, n, .inl (va_cpy a (fun _ => 0) 0 0 n)))]) := by
  refine jMet (by decide +kernel) (Nat.le_of_ble_eq_true rfl) ?_
  intro p e s m args below meth c H locs ls Q A hA hC hni hl hI kk
  replace hC : jC p s m args c cJ4_toString_0e30d 1 "java/lang/StringBuilder" D cid J A [] := hC
  replace hl : lv_has ls 1 [(0, .ref q)] := hl
  replace hI : jI D s A [(q, .inr (1, [.ref v, .int 0, .int 0, .int (nI n)])), (v, .inl (cid 3, cap, .inl a))] H locs := hI
  have hx := hC.1.1
  have hb := hC.1.2.1
  have hown := hC.1.2.2.2.1
  have hts := hC.1.2.2.2.2.1
  have hK := hC.1.2.2.2.2.2.1
  have hAn := hC.2.2.1
  have hJ := hC.2.1
  refine va_new (ci := 0) (fs := [.null, .int 0, .int 0, .int 0]) hx hb hts uJ0' tyJ0 tyJ0_ok hown (hts _ w1517) (hts _ w1115) (hts _ w13) hK hI.1 hI.2.1 hI.2.2 hAn rfl (fun j hj => by revert j; decide) (Nat.le_of_ble_eq_true rfl) (Nat.le_of_ble_eq_true rfl) dJ4_toString_0e30d_0 (fun w H hP hD hS => ?_)
  replace hI : jI D s A [(q, .inr (1, [.ref v, .int 0, .int 0, .int (nI n)])), (v, .inl (cid 3, cap, .inl a)), (w, .inr (0, [.null, .int 0, .int 0, .int 0]))] _ _ := ⟨hP, hD, hS⟩
  refine lv_dup hx hb dJ4_toString_0e30d_3 rfl ?_
  refine lv_aload_n hx hb dJ4_toString_0e30d_4 rfl (lv_at hl 0 rfl) ?_
  refine j_callI (rest := [.ref w]) ([] : va_W) hC hI (J_strInit2 l D cid J (n := n) h1 h2 hT) (fun _ h => absurd h List.not_mem_nil) Z_J0_init_81219 rfl ZI_J0_init_81219 w1518 ⟨rfl, rfl⟩ ⟨Nat.le_of_ble_eq_true rfl, Nat.le_of_ble_eq_true rfl⟩ rfl hl.1 rfl (Nat.le_of_ble_eq_true rfl) dJ4_toString_0e30d_5 ⟨Nat.le_of_ble_eq_true rfl, Nat.le_of_ble_eq_true rfl⟩ (fun rv u H1 locs1 hp hI hk1 => ?_)
  obtain rfl := hp
  replace hI : jI D s A [(q, .inr (1, [.ref v, .int 0, .int 0, .int (nI n)])), (v, .inl (cid 3, cap, .inl a)), (w, .inr (0, [.ref u, .int 0, .int 0, .int 0])), (u, .inl (cid 3, n, .inl (va_cpy a (fun _ => 0) 0 0 n)))] H1 locs1 := hI
  skip
  exact kk _ (w, u) _ _ _ _ _ _ _ rfl rfl hI ⟨Nat.le_of_ble_eq_true rfl, Nat.le_of_ble_eq_true rfl⟩ (Or.inr (Or.inr ⟨_, _, rfl, rfl, (by first | exact Or.inl ⟨_, rfl⟩ | exact Or.inr ⟨_, rfl⟩), dJ4_toString_0e30d_8⟩))
