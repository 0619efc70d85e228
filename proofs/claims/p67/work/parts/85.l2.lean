/-! The law's put, at, fails, isLine; laid by wip/p67/gen/law67b.py. -/
theorem nI_pos2 {n : Nat} (h : n < 2 ^ 31) : 0 ≤ (nI n).toInt := by rw [nI_toInt h]; exact Int.natCast_nonneg n
/-- a text is typed, letter by letter -/
def pPut : List Int32 → gM → Option gM
  | [], M => some M
  | b :: r, M => match f_X6_append b M with
    | some (.inr _, M1) => pPut r M1
    | _ => none
theorem pPut_c {b : Int32} {r : List Int32} {M M' : gM} (h : pPut (b :: r) M = some M') : ∃ v M1, f_X6_append b M = some (.inr v, M1) ∧ pPut r M1 = some M' := by
  rw [pPut] at h
  cases hf : f_X6_append b M with
  | none => rw [hf] at h; cases h
  | some z =>
    obtain ⟨oc, M1⟩ := z
    rw [hf] at h
    cases oc with
    | inl e => cases h
    | inr v => exact ⟨v, M1, rfl, h⟩
theorem Y_L_put : gY yL_put cL_put 3 none 2 := ⟨w1080, w0, ⟨by decide, by decide⟩, by decide +kernel⟩
theorem S_L_put : Cond.static yL_put ∈ gU := w1079
theorem Y_L_at : gY yL_at cL_at 2 (some .int) 2 := ⟨w1077, w0, ⟨by decide, by decide⟩, by decide +kernel⟩
theorem S_L_at : Cond.static yL_at ∈ gU := w1076
theorem Y_L_fails : gY yL_fails cL_fails 3 (some .boolean) 3 := ⟨w1367, w0, ⟨by decide, by decide⟩, by decide +kernel⟩
theorem S_L_fails : Cond.static yL_fails ∈ gU := w1366
theorem Y_L_isLine : gY yL_isLine cL_isLine 4 (some .boolean) 3 := ⟨w1352, w0, ⟨by decide, by decide⟩, by decide +kernel⟩
theorem S_L_isLine : Cond.static yL_isLine ∈ gU := w1351
theorem S_L_runs : Cond.static yL_runs ∈ gU := w1363
theorem S_L_act : Cond.static yL_act ∈ gU := w1097
theorem S_L_stow : Cond.static yL_stow ∈ gU := w1135
theorem Y_L_stack : gY yL_stack cL_stack 5 (some (.array .int)) 3 := ⟨w1158, w0, ⟨by decide, by decide⟩, by decide +kernel⟩
theorem S_L_stack : Cond.static yL_stack ∈ gU := w1157
theorem Y_L_inYard : gY yL_inYard cL_inYard 3 (some (.object "java/util/ArrayList")) 1 := ⟨w1175, w0, ⟨by decide, by decide⟩, by decide +kernel⟩
theorem S_L_inYard : Cond.static yL_inYard ∈ gU := w1174
theorem Y_L_state : gY yL_state cL_state 8 (some .int) 1 := ⟨w1147, w0, ⟨by decide, by decide⟩, by decide +kernel⟩
theorem S_L_state : Cond.static yL_state ∈ gU := w1146
theorem Y_L_build : gY yL_build cL_build 7 (some (.object "ContainerTerminal")) 1 := ⟨w1095, w0, ⟨by decide, by decide⟩, by decide +kernel⟩
theorem S_L_build : Cond.static yL_build ∈ gU := w1094
theorem dL_put_0 : decode cL_put 0 = .ok (.iconst 0, 1) := by decide +kernel
theorem dL_put_1 : decode cL_put 1 = .ok (.istore_n 2, 1) := by decide +kernel
theorem dL_put_2 : decode cL_put 2 = .ok (.iload_n 2, 1) := by decide +kernel
theorem dL_put_3 : decode cL_put 3 = .ok (.aload_n 1, 1) := by decide +kernel
theorem dL_put_4 : decode cL_put 4 = .ok (.invokevirtual 7, 3) := by decide +kernel
theorem dL_put_7 : decode cL_put 7 = .ok (.if_icmp .ge 19, 3) := by decide +kernel
theorem dL_put_10 : decode cL_put 10 = .ok (.aload_n 0, 1) := by decide +kernel
theorem dL_put_11 : decode cL_put 11 = .ok (.aload_n 1, 1) := by decide +kernel
theorem dL_put_12 : decode cL_put 12 = .ok (.iload_n 2, 1) := by decide +kernel
theorem dL_put_13 : decode cL_put 13 = .ok (.invokevirtual 13, 3) := by decide +kernel
theorem dL_put_16 : decode cL_put 16 = .ok (.invokevirtual 17, 3) := by decide +kernel
theorem dL_put_19 : decode cL_put 19 = .ok (.pop, 1) := by decide +kernel
theorem dL_put_20 : decode cL_put 20 = .ok (.iinc 2 1, 3) := by decide +kernel
theorem dL_put_23 : decode cL_put 23 = .ok (.goto (-21), 3) := by decide +kernel
theorem dL_put_26 : decode cL_put 26 = .ok (.return_, 1) := by decide +kernel
theorem dL_at_0 : decode cL_at 0 = .ok (.iload_n 1, 1) := by decide +kernel
theorem dL_at_1 : decode cL_at 1 = .ok (.aload_n 0, 1) := by decide +kernel
theorem dL_at_2 : decode cL_at 2 = .ok (.arraylength, 1) := by decide +kernel
theorem dL_at_3 : decode cL_at 3 = .ok (.if_icmp .ge 9, 3) := by decide +kernel
theorem dL_at_6 : decode cL_at 6 = .ok (.aload_n 0, 1) := by decide +kernel
theorem dL_at_7 : decode cL_at 7 = .ok (.iload_n 1, 1) := by decide +kernel
theorem dL_at_8 : decode cL_at 8 = .ok (.iaload, 1) := by decide +kernel
theorem dL_at_9 : decode cL_at 9 = .ok (.goto 4, 3) := by decide +kernel
theorem dL_at_12 : decode cL_at 12 = .ok (.iconst 0, 1) := by decide +kernel
theorem dL_at_13 : decode cL_at 13 = .ok (.ireturn, 1) := by decide +kernel
theorem dL_fails_0 : decode cL_fails 0 = .ok (.aload_n 0, 1) := by decide +kernel
theorem dL_fails_1 : decode cL_fails 1 = .ok (.aload_n 1, 1) := by decide +kernel
theorem dL_fails_2 : decode cL_fails 2 = .ok (.invokestatic 190, 3) := by decide +kernel
theorem dL_fails_5 : decode cL_fails 5 = .ok (.aload_n 0, 1) := by decide +kernel
theorem dL_fails_6 : decode cL_fails 6 = .ok (.invokestatic 202, 3) := by decide +kernel
theorem dL_fails_9 : decode cL_fails 9 = .ok (.iconst (-1), 1) := by decide +kernel
theorem dL_fails_10 : decode cL_fails 10 = .ok (.if_icmp .ne 15, 3) := by decide +kernel
theorem dL_fails_13 : decode cL_fails 13 = .ok (.aload_n 0, 1) := by decide +kernel
theorem dL_fails_14 : decode cL_fails 14 = .ok (.invokevirtual 345, 3) := by decide +kernel
theorem dL_fails_17 : decode cL_fails 17 = .ok (.iload_n 2, 1) := by decide +kernel
theorem dL_fails_18 : decode cL_fails 18 = .ok (.if_icmp .ne 7, 3) := by decide +kernel
theorem dL_fails_21 : decode cL_fails 21 = .ok (.iconst 1, 1) := by decide +kernel
theorem dL_fails_22 : decode cL_fails 22 = .ok (.goto 4, 3) := by decide +kernel
theorem dL_fails_25 : decode cL_fails 25 = .ok (.iconst 0, 1) := by decide +kernel
theorem dL_fails_26 : decode cL_fails 26 = .ok (.ireturn, 1) := by decide +kernel
theorem dL_isLine_0 : decode cL_isLine 0 = .ok (.iload_n 1, 1) := by decide +kernel
theorem dL_isLine_1 : decode cL_isLine 1 = .ok (.aload_n 2, 1) := by decide +kernel
theorem dL_isLine_2 : decode cL_isLine 2 = .ok (.invokevirtual 7, 3) := by decide +kernel
theorem dL_isLine_5 : decode cL_isLine 5 = .ok (.if_icmp .eq 5, 3) := by decide +kernel
theorem dL_isLine_8 : decode cL_isLine 8 = .ok (.iconst 0, 1) := by decide +kernel
theorem dL_isLine_9 : decode cL_isLine 9 = .ok (.ireturn, 1) := by decide +kernel
theorem dL_isLine_10 : decode cL_isLine 10 = .ok (.iconst 0, 1) := by decide +kernel
theorem dL_isLine_11 : decode cL_isLine 11 = .ok (.istore_n 3, 1) := by decide +kernel
theorem dL_isLine_12 : decode cL_isLine 12 = .ok (.iload_n 3, 1) := by decide +kernel
theorem dL_isLine_13 : decode cL_isLine 13 = .ok (.iload_n 1, 1) := by decide +kernel
theorem dL_isLine_14 : decode cL_isLine 14 = .ok (.if_icmp .ge 24, 3) := by decide +kernel
theorem dL_isLine_17 : decode cL_isLine 17 = .ok (.aload_n 0, 1) := by decide +kernel
theorem dL_isLine_18 : decode cL_isLine 18 = .ok (.iload_n 3, 1) := by decide +kernel
theorem dL_isLine_19 : decode cL_isLine 19 = .ok (.invokevirtual 342, 3) := by decide +kernel
theorem dL_isLine_22 : decode cL_isLine 22 = .ok (.aload_n 2, 1) := by decide +kernel
theorem dL_isLine_23 : decode cL_isLine 23 = .ok (.iload_n 3, 1) := by decide +kernel
theorem dL_isLine_24 : decode cL_isLine 24 = .ok (.invokevirtual 13, 3) := by decide +kernel
theorem dL_isLine_27 : decode cL_isLine 27 = .ok (.if_icmp .eq 5, 3) := by decide +kernel
theorem dL_isLine_30 : decode cL_isLine 30 = .ok (.iconst 0, 1) := by decide +kernel
theorem dL_isLine_31 : decode cL_isLine 31 = .ok (.ireturn, 1) := by decide +kernel
theorem dL_isLine_32 : decode cL_isLine 32 = .ok (.iinc 3 1, 3) := by decide +kernel
theorem dL_isLine_35 : decode cL_isLine 35 = .ok (.goto (-23), 3) := by decide +kernel
theorem dL_isLine_38 : decode cL_isLine 38 = .ok (.iconst 1, 1) := by decide +kernel
theorem dL_isLine_39 : decode cL_isLine 39 = .ok (.ireturn, 1) := by decide +kernel
section GLB
variable {p : Program} {l : Launch} {e : Env} {s : State} {m : MethodId} {args : Array Value} {below : List Frame} {meth : Method} {c : Code} {Q : State → Prop} {E : gE}
set_option maxRecDepth 100000 in
set_option maxHeartbeats 4000000 in
theorem put_loop (hst : l.stackTraces = false) (hC : gC p s m args c cL_put 3 RL E) {j : Nat} {bs : List Int32} (hj : E.2.2.2.2.2[j]? = some bs) (h60 : bs.length ≤ 60) {M' : gM}
    (kv : ∀ (H : Heap) (locs : List Loc) (ls : Array Slot), gI E s M' () H locs → W p l e (gRX 9 200 60 360) s m args below meth c H locs bs.length (6 * bs.length) Q (F0 m 26 ls [])) :
    ∀ (n k : Nat) (M : gM) (H : Heap) (locs : List Loc) (ls : Array Slot), k + n = bs.length → pPut (bs.drop k) M = some M' → gI E s M () H locs → lv_has ls 3 [(2, .int (nI k)), (0, .ref (E.2.1 132)), (1, .ref (E.2.2.2.1 (7 + j)))] → W p l e (gRX 9 200 60 360) s m args below meth c H locs k (6 * k) Q (F0 m 2 ls []) := by
  intro n
  induction n with
  | zero =>
    intro k M H locs ls hk hp hI hl
    have ek : k = bs.length := by omega
    have hM : M = M' := by rw [ek, List.drop_length] at hp; exact Option.some.inj hp
    subst hM
    have hx := hC.1
    have hb := hC.2.1
    refine lv_iload_n hx hb dL_put_2 rfl (lv_at hl 0 rfl) ?_
    refine lv_aload_n hx hb dL_put_3 rfl (lv_at hl 2 rfl) ?_
    refine g_callVbi (rest := [.int (nI k)]) hC hI (C_S_length l E () (show 7 + j < 7 + E.2.2.2.2.2.length by have := (List.getElem?_eq_some_iff.mp hj).1; omega)) Y_J0_length_8abf5 V_J0_length_8abf5 w1081 (rcv_W hC hI (show 7 + j < 7 + E.2.2.2.2.2.length by have := (List.getElem?_eq_some_iff.mp hj).1; omega)) ⟨rfl, rfl⟩ ⟨Nat.le_of_ble_eq_true rfl, Nat.le_of_ble_eq_true rfl⟩ rfl hl.1 rfl (Nat.le_of_ble_eq_true rfl) dL_put_4 ⟨show k ≤ 60 by omega, show 6 * k ≤ 360 by omega⟩ (fun H locs hI => ?_)
    refine g_top (v := nI bs.length) (by rw [gL_x, List.getElem?_map, hj]; rfl) ?_
    refine lv_icmp_ge (tgt := 26) hx hb dL_put_7 rfl (fun _ => ?_) (fun h => absurd (show nI bs.length ≤ nI k by rw [ek]; exact Int32.le_refl _) h)
    have hr := kv H locs ls hI
    rw [ek]
    exact hr
  | succ n ih =>
    intro k M H locs ls hk hp hI hl
    have hx := hC.1
    have hb := hC.2.1
    have hlt : k < bs.length := by omega
    rw [List.drop_eq_getElem_cons hlt] at hp
    obtain ⟨v, M1, hf, hp1⟩ := pPut_c hp
    have eb : bs.getD k 0 = bs[k] := by rw [List.getD_eq_getElem?_getD, List.getElem?_eq_getElem hlt]; rfl
    refine lv_iload_n hx hb dL_put_2 rfl (lv_at hl 0 rfl) ?_
    refine lv_aload_n hx hb dL_put_3 rfl (lv_at hl 2 rfl) ?_
    refine g_callVbi (rest := [.int (nI k)]) hC hI (C_S_length l E () (show 7 + j < 7 + E.2.2.2.2.2.length by have := (List.getElem?_eq_some_iff.mp hj).1; omega)) Y_J0_length_8abf5 V_J0_length_8abf5 w1081 (rcv_W hC hI (show 7 + j < 7 + E.2.2.2.2.2.length by have := (List.getElem?_eq_some_iff.mp hj).1; omega)) ⟨rfl, rfl⟩ ⟨Nat.le_of_ble_eq_true rfl, Nat.le_of_ble_eq_true rfl⟩ rfl hl.1 rfl (Nat.le_of_ble_eq_true rfl) dL_put_4 ⟨show k ≤ 60 by omega, show 6 * k ≤ 360 by omega⟩ (fun H locs hI => ?_)
    refine g_top (v := nI bs.length) (by rw [gL_x, List.getElem?_map, hj]; rfl) ?_
    refine lv_icmp_ge (tgt := 26) hx hb dL_put_7 rfl (fun h => absurd h (nI_ge hlt (by omega))) (fun _ => ?_)
    refine lv_aload_n hx hb dL_put_10 rfl (lv_at hl 1 rfl) ?_
    refine lv_aload_n hx hb dL_put_11 rfl (lv_at hl 2 rfl) ?_
    refine lv_iload_n hx hb dL_put_12 rfl (lv_at hl 0 rfl) ?_
    refine g_callVbi (rest := [.ref (E.2.1 132)]) hC hI (C_S_charAt l E () (show 7 + j < 7 + E.2.2.2.2.2.length by have := (List.getElem?_eq_some_iff.mp hj).1; omega) (i := nI k) (by rw [gL_x, List.getElem?_map, hj]; exact ⟨nI_pos2 (by omega), by rw [nI_toInt (by omega)]; exact Int.ofNat_lt.mpr hlt⟩)) Y_J0_charAt_5068e V_J0_charAt_5068e w1082 (rcv_W hC hI (show 7 + j < 7 + E.2.2.2.2.2.length by have := (List.getElem?_eq_some_iff.mp hj).1; omega)) ⟨rfl, rfl⟩ ⟨Nat.le_of_ble_eq_true rfl, Nat.le_of_ble_eq_true rfl⟩ rfl hl.1 rfl (Nat.le_of_ble_eq_true rfl) dL_put_13 ⟨show k ≤ 60 by omega, show 6 * k ≤ 360 by omega⟩ (fun H locs hI => ?_)
    refine g_top (v := bs.getD k 0) (by rw [gB_x, hj, nI_clamp (by omega)]; rfl) ?_
    refine g_top (v := bs[k]) eb.symm ?_
    refine g_xVi (rest := []) hC hI (C_X6_append l hst E () hf) Y_X6_append V_X6_append w1083 (rcv_X6 hC hI) ⟨rfl, rfl⟩ ⟨Nat.le_of_ble_eq_true rfl, Nat.le_of_ble_eq_true rfl⟩ rfl hl.1 rfl (Nat.le_of_ble_eq_true rfl) dL_put_16 ⟨show k + 1 ≤ 60 by omega, show 6 * k + 6 ≤ 360 by omega⟩ (fun H locs hI => ?_)
    refine lv_pop hx hb dL_put_19 rfl ?_
    refine lv_iinc (k := 0) (v := nI (k + 1)) (lv' := [(2, .int (nI (k + 1))), (0, .ref (E.2.1 132)), (1, .ref (E.2.2.2.1 (7 + j)))]) hx hb dL_put_20 hl rfl (by rw [nI_succ]; rfl) (by decide) rfl (fun ls hl => ?_)
    refine lv_goto (tgt := 2) hx hb dL_put_23 (by decide) ?_
    exact ih (k + 1) M1 H locs ls (by omega) hp1 hI hl
end GLB
set_option maxRecDepth 100000 in
set_option maxHeartbeats 4000000 in
theorem C_put (l : Launch) (hst : l.stackTraces = false) (E : gE) {j : Nat} {bs : List Int32} (hj : E.2.2.2.2.2[j]? = some bs) (h60 : bs.length ≤ 60) {M M' : gM} (hp : pPut bs M = some M') : gH l E yL_put (.code yL_put cL_put 3 none) (gRX 9 200 60 360) M [.ref (E.2.1 132), .ref (E.2.2.2.1 (7 + j))] none M' 60 360 := by
  refine gMetC (by decide +kernel) (Nat.le_of_ble_eq_true rfl) ?_
  intro p e s m args below meth c H locs ls Q hC hN hl hI kr kv
  replace hC : gC p s m args c cL_put 3 RL E := hC
  replace hl : lv_has ls 3 [(0, .ref (E.2.1 132)), (1, .ref (E.2.2.2.1 (7 + j)))] := hl
  have hx := hC.1
  have hb := hC.2.1
  refine lv_iconst (v := 0) hx hb dL_put_0 (by decide) ?_
  refine lv_istore_n (lv' := [(2, .int 0), (0, .ref (E.2.1 132)), (1, .ref (E.2.2.2.1 (7 + j)))]) hx hb dL_put_1 rfl hl (by decide) rfl (fun ls hl => ?_)
  refine put_loop hst hC hj h60 (fun H locs ls hI => ?_) bs.length 0 M H locs ls (by omega) hp hI hl
  exact kv _ _ _ _ _ _ rfl hI ⟨h60, by omega⟩ rfl dL_put_26
set_option maxRecDepth 100000 in
set_option maxHeartbeats 4000000 in
theorem C_fails (l : Launch) (hst : l.stackTraces = false) (E : gE) {j : Nat} {bs : List Int32} (hj : E.2.2.2.2.2[j]? = some bs) (h60 : bs.length ≤ 60) {M M1 M2 : gM} {z : Int32} (hp : pPut bs M = some M1) (hr : f_X6_run M1 = some (.inl "java/lang/IllegalArgumentException", M2)) (he : f_X6_errorPosition M2 = some (.inr z, M2)) : gH l E yL_fails (.code yL_fails cL_fails 3 (some .boolean)) (gRX 15 400 80 480) M [.ref (E.2.1 132), .ref (E.2.2.2.1 (7 + j)), .int z] (some (.int 1)) M2 80 480 := by
  refine gMetC (by decide +kernel) (Nat.le_of_ble_eq_true rfl) ?_
  intro p e s m args below meth c H locs ls Q hC hN hl hI kr kv
  replace hC : gC p s m args c cL_fails 3 RL E := hC
  replace hl : lv_has ls 3 [(0, .ref (E.2.1 132)), (1, .ref (E.2.2.2.1 (7 + j))), (2, .int z)] := hl
  have hx := hC.1
  have hb := hC.2.1
  refine lv_aload_n hx hb dL_fails_0 rfl (lv_at hl 0 rfl) ?_
  refine lv_aload_n hx hb dL_fails_1 rfl (lv_at hl 1 rfl) ?_
  refine g_callHS (rest := []) hC hN hI (C_put l hst E hj h60 hp) Y_L_put S_L_put w1078 ⟨rfl, rfl⟩ ⟨Nat.le_of_ble_eq_true rfl, Nat.le_of_ble_eq_true rfl⟩ rfl hl.1 rfl (Nat.le_of_ble_eq_true rfl) dL_fails_2 ⟨Nat.le_of_ble_eq_true rfl, Nat.le_of_ble_eq_true rfl⟩ (fun H locs hI => ?_)
  refine lv_aload_n hx hb dL_fails_5 rfl (lv_at hl 0 rfl) ?_
  refine g_callHW (n := 1) (rest := []) hC hN hI (A_run l hst E hr (fun e he => by cases he; decide)) w1364 w0 S_L_runs w1362 ⟨⟨by decide, by decide⟩, by decide +kernel⟩ ⟨rfl, rfl⟩ ⟨Nat.le_of_ble_eq_true rfl, Nat.le_of_ble_eq_true rfl⟩ rfl hl.1 rfl (Nat.le_of_ble_eq_true rfl) dL_fails_6 ⟨Nat.le_of_ble_eq_true rfl, Nat.le_of_ble_eq_true rfl⟩ (fun H locs hI => ?_)
  refine g_top (v := -1) (by decide) ?_
  refine lv_iconst (v := (-1)) hx hb dL_fails_9 (by decide) ?_
  refine lv_icmp_ne (tgt := 25) hx hb dL_fails_10 rfl (fun h => absurd rfl h) (fun _ => ?_)
  refine lv_aload_n hx hb dL_fails_13 rfl (lv_at hl 0 rfl) ?_
  refine g_xVi (rest := []) hC hI (C_X6_errorPosition l hst E () he) Y_X6_errorPosition V_X6_errorPosition w1368 (rcv_X6 hC hI) ⟨rfl, rfl⟩ ⟨Nat.le_of_ble_eq_true rfl, Nat.le_of_ble_eq_true rfl⟩ rfl hl.1 rfl (Nat.le_of_ble_eq_true rfl) dL_fails_14 ⟨Nat.le_of_ble_eq_true rfl, Nat.le_of_ble_eq_true rfl⟩ (fun H locs hI => ?_)
  refine lv_iload_n hx hb dL_fails_17 rfl (lv_at hl 2 rfl) ?_
  refine lv_icmp_ne (tgt := 25) hx hb dL_fails_18 rfl (fun h => absurd rfl h) (fun _ => ?_)
  refine lv_iconst (v := 1) hx hb dL_fails_21 (by decide) ?_
  refine lv_goto (tgt := 26) hx hb dL_fails_22 rfl ?_
  exact kr _ _ _ _ _ _ _ rfl hI ⟨Nat.le_of_ble_eq_true rfl, Nat.le_of_ble_eq_true rfl⟩ ⟨.boolean, rfl, rfl⟩ dL_fails_26
section GLB
variable {p : Program} {l : Launch} {e : Env} {s : State} {m : MethodId} {args : Array Value} {below : List Frame} {meth : Method} {c : Code} {Q : State → Prop} {E : gE}
set_option maxRecDepth 100000 in
set_option maxHeartbeats 4000000 in
theorem isLine_loop (hst : l.stackTraces = false) (hC : gC p s m args c cL_isLine 4 RL E) {j : Nat} {bs : List Int32} (hj : E.2.2.2.2.2[j]? = some bs) (h60 : bs.length ≤ 60) {M : gM} (hch : ∀ k, k < bs.length → f_X6_lineChar (nI k) M = some (.inr (bs.getD k 0), M))
    (kv : ∀ (H : Heap) (locs : List Loc) (ls : Array Slot), gI E s M () H locs → W p l e (gRX 9 200 60 360) s m args below meth c H locs bs.length (6 * bs.length) Q (F0 m 38 ls [])) :
    ∀ (n k : Nat) (H : Heap) (locs : List Loc) (ls : Array Slot), k + n = bs.length → gI E s M () H locs → lv_has ls 4 [(3, .int (nI k)), (0, .ref (E.2.1 132)), (1, .int (nI bs.length)), (2, .ref (E.2.2.2.1 (7 + j)))] → W p l e (gRX 9 200 60 360) s m args below meth c H locs k (6 * k) Q (F0 m 12 ls []) := by
  intro n
  induction n with
  | zero =>
    intro k H locs ls hk hI hl
    have ek : k = bs.length := by omega
    have hx := hC.1
    have hb := hC.2.1
    refine lv_iload_n hx hb dL_isLine_12 rfl (lv_at hl 0 rfl) ?_
    refine lv_iload_n hx hb dL_isLine_13 rfl (lv_at hl 2 rfl) ?_
    refine lv_icmp_ge (tgt := 38) hx hb dL_isLine_14 rfl (fun _ => ?_) (fun h => absurd (show nI bs.length ≤ nI k by rw [ek]; exact Int32.le_refl _) h)
    have hr := kv H locs ls hI
    rw [ek]
    exact hr
  | succ n ih =>
    intro k H locs ls hk hI hl
    have hx := hC.1
    have hb := hC.2.1
    have hlt : k < bs.length := by omega
    refine lv_iload_n hx hb dL_isLine_12 rfl (lv_at hl 0 rfl) ?_
    refine lv_iload_n hx hb dL_isLine_13 rfl (lv_at hl 2 rfl) ?_
    refine lv_icmp_ge (tgt := 38) hx hb dL_isLine_14 rfl (fun h => absurd h (nI_ge hlt (by omega))) (fun _ => ?_)
    refine lv_aload_n hx hb dL_isLine_17 rfl (lv_at hl 1 rfl) ?_
    refine lv_iload_n hx hb dL_isLine_18 rfl (lv_at hl 0 rfl) ?_
    refine g_xVi (rest := []) hC hI (C_X6_lineChar l hst E () (hch k hlt)) Y_X6_lineChar V_X6_lineChar w1353 (rcv_X6 hC hI) ⟨rfl, rfl⟩ ⟨Nat.le_of_ble_eq_true rfl, Nat.le_of_ble_eq_true rfl⟩ rfl hl.1 rfl (Nat.le_of_ble_eq_true rfl) dL_isLine_19 ⟨show k + 1 ≤ 60 by omega, show 6 * k + 6 ≤ 360 by omega⟩ (fun H locs hI => ?_)
    refine lv_aload_n hx hb dL_isLine_22 rfl (lv_at hl 3 rfl) ?_
    refine lv_iload_n hx hb dL_isLine_23 rfl (lv_at hl 0 rfl) ?_
    refine g_callVbi (rest := [.int (bs.getD k 0)]) hC hI (C_S_charAt l E () (show 7 + j < 7 + E.2.2.2.2.2.length by have := (List.getElem?_eq_some_iff.mp hj).1; omega) (i := nI k) (by rw [gL_x, List.getElem?_map, hj]; exact ⟨nI_pos2 (by omega), by rw [nI_toInt (by omega)]; exact Int.ofNat_lt.mpr hlt⟩)) Y_J0_charAt_5068e V_J0_charAt_5068e w1082 (rcv_W hC hI (show 7 + j < 7 + E.2.2.2.2.2.length by have := (List.getElem?_eq_some_iff.mp hj).1; omega)) ⟨rfl, rfl⟩ ⟨Nat.le_of_ble_eq_true rfl, Nat.le_of_ble_eq_true rfl⟩ rfl hl.1 rfl (Nat.le_of_ble_eq_true rfl) dL_isLine_24 ⟨show k + 1 ≤ 60 by omega, show 6 * k + 6 ≤ 360 by omega⟩ (fun H locs hI => ?_)
    refine g_top (v := bs.getD k 0) (by rw [gB_x, hj, nI_clamp (by omega)]; rfl) ?_
    refine lv_icmp_eq (tgt := 32) hx hb dL_isLine_27 rfl (fun _ => ?_) (fun h => absurd rfl h)
    refine lv_iinc (k := 0) (v := nI (k + 1)) (lv' := [(3, .int (nI (k + 1))), (0, .ref (E.2.1 132)), (1, .int (nI bs.length)), (2, .ref (E.2.2.2.1 (7 + j)))]) hx hb dL_isLine_32 hl rfl (by rw [nI_succ]; rfl) (by decide) rfl (fun ls hl => ?_)
    refine lv_goto (tgt := 12) hx hb dL_isLine_35 (by decide) ?_
    exact ih (k + 1) H locs ls (by omega) hI hl
end GLB
set_option maxRecDepth 100000 in
set_option maxHeartbeats 4000000 in
theorem C_isLine (l : Launch) (hst : l.stackTraces = false) (E : gE) {j : Nat} {bs : List Int32} (hj : E.2.2.2.2.2[j]? = some bs) (h60 : bs.length ≤ 60) {M : gM} (hch : ∀ k, k < bs.length → f_X6_lineChar (nI k) M = some (.inr (bs.getD k 0), M)) : gH l E yL_isLine (.code yL_isLine cL_isLine 4 (some .boolean)) (gRX 9 200 60 360) M [.ref (E.2.1 132), .int (nI bs.length), .ref (E.2.2.2.1 (7 + j))] (some (.int 1)) M 60 360 := by
  refine gMetC (by decide +kernel) (Nat.le_of_ble_eq_true rfl) ?_
  intro p e s m args below meth c H locs ls Q hC hN hl hI kr kv
  replace hC : gC p s m args c cL_isLine 4 RL E := hC
  replace hl : lv_has ls 4 [(0, .ref (E.2.1 132)), (1, .int (nI bs.length)), (2, .ref (E.2.2.2.1 (7 + j)))] := hl
  have hx := hC.1
  have hb := hC.2.1
  refine lv_iload_n hx hb dL_isLine_0 rfl (lv_at hl 1 rfl) ?_
  refine lv_aload_n hx hb dL_isLine_1 rfl (lv_at hl 2 rfl) ?_
  refine g_callVbi (rest := [.int (nI bs.length)]) hC hI (C_S_length l E () (show 7 + j < 7 + E.2.2.2.2.2.length by have := (List.getElem?_eq_some_iff.mp hj).1; omega)) Y_J0_length_8abf5 V_J0_length_8abf5 w1081 (rcv_W hC hI (show 7 + j < 7 + E.2.2.2.2.2.length by have := (List.getElem?_eq_some_iff.mp hj).1; omega)) ⟨rfl, rfl⟩ ⟨Nat.le_of_ble_eq_true rfl, Nat.le_of_ble_eq_true rfl⟩ rfl hl.1 rfl (Nat.le_of_ble_eq_true rfl) dL_isLine_2 ⟨Nat.le_of_ble_eq_true rfl, Nat.le_of_ble_eq_true rfl⟩ (fun H locs hI => ?_)
  refine g_top (v := nI bs.length) (by rw [gL_x, List.getElem?_map, hj]; rfl) ?_
  refine lv_icmp_eq (tgt := 10) hx hb dL_isLine_5 rfl (fun _ => ?_) (fun h => absurd rfl h)
  refine lv_iconst (v := 0) hx hb dL_isLine_10 (by decide) ?_
  refine lv_istore_n (lv' := [(3, .int 0), (0, .ref (E.2.1 132)), (1, .int (nI bs.length)), (2, .ref (E.2.2.2.1 (7 + j)))]) hx hb dL_isLine_11 rfl hl (by decide) rfl (fun ls hl => ?_)
  refine isLine_loop hst hC hj h60 hch (fun H locs ls hI => ?_) bs.length 0 H locs ls (by omega) hI hl
  refine lv_iconst (v := 1) hx hb dL_isLine_38 (by decide) ?_
  exact kr _ _ _ _ _ _ _ rfl hI ⟨h60, by omega⟩ ⟨.boolean, rfl, rfl⟩ dL_isLine_39
