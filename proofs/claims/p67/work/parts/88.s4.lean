/-! state: the yard, and its contract; laid by wip/p67/gen/law67h.py. -/
theorem perm_mid {α : Type} (G B1 B2 N : List α) (y : α) : ((G ++ (B1 ++ y :: B2)) ++ N).Perm ((((G ++ B1) ++ B2) ++ N) ++ [y]) := by
  refine List.Perm.trans ?_ (List.perm_append_singleton y _).symm
  rw [show (G ++ (B1 ++ y :: B2)) ++ N = (G ++ B1) ++ y :: (B2 ++ N) by simp only [List.append_assoc, List.cons_append], show (((G ++ B1) ++ B2) ++ N) = (G ++ B1) ++ (B2 ++ N) by simp only [List.append_assoc]]
  exact List.perm_middle
section GSY
variable {p : Program} {l : Launch} {e : Env} {s : State} {m : MethodId} {args : Array Value} {below : List Frame} {meth : Method} {c : Code} {H : Heap} {locs : List Loc} {cells slots : Nat} {Q : State → Prop} {E : gE} {M : gM} {J : jA} {ls : Array Slot}
variable {yi : Nat → Int32} {wt ky : Int32 → Int32}
theorem e_nil {ws : va_W} (hI : eI E s M ws H locs) : eI E s M [] H locs := by
  rw [show eI E s M [] H locs = jI E.1 s (eA E s.heap.size) (gwl E M () ++ []) H locs from rfl, gwl_nil]
  exact jI_left hI
set_option maxRecDepth 100000 in
set_option maxHeartbeats 4000000 in
theorem st_yend (hC : sC p s m args c cL_state 8 RL E J) {q it n : Nat} {arr : Value} {la v : Int32} {B : va_W} (hI : eI E s M ((q, (.inr (5, [.int (nI n), arr, .int (nI n)]) : va_E)) :: (it, (.inr (4, [.int (nI n), .int la, .int (nI n), .ref q]) : va_E)) :: B) H locs) (hl : lv_has ls 8 [(0, .ref (E.2.1 132)), (1, .int v), (2, .ref it)]) (hcs : cells ≤ 1000 ∧ slots ≤ 6000)
    (kv : ∀ (H : Heap) (locs : List Loc), eI E s M [] H locs → W p l e (gRX 20 500 1000 6000) s m args below meth c H locs cells slots Q (F0 m 239 ls [])) : W p l e (gRX 20 500 1000 6000) s m args below meth c H locs cells slots Q (F0 m 189 ls []) := by
  have hx := hC.1.1
  have hb := hC.1.2.1
  have hK := hC.2.1.2.2.2.2.2.1
  have hI2 : jI E.1 s (eA E s.heap.size) ((gwl E M () ++ B) ++ [(q, (.inr (5, [.int (nI n), arr, .int (nI n)]) : va_E)), (it, (.inr (4, [.int (nI n), .int la, .int (nI n), .ref q]) : va_E))]) H locs := jI_perm (by
    rw [List.append_assoc]
    refine List.Perm.append_left _ ?_
    show ([(q, (.inr (5, [.int (nI n), arr, .int (nI n)]) : va_E)), (it, (.inr (4, [.int (nI n), .int la, .int (nI n), .ref q]) : va_E))] ++ B).Perm _
    exact List.perm_append_comm) hI
  refine lv_aload_n hx hb dL_state_189 rfl (lv_at hl 2 rfl) ?_
  refine j_callF (rest := []) (gwl E M () ++ B) hC.2 (wc := [(q, (.inr (5, [.int (nI n), arr, .int (nI n)]) : va_E)), (it, (.inr (4, [.int (nI n), .int la, .int (nI n), .ref q]) : va_E))]) hI2 (hK.1 4 _ rfl).2 (J_hasNext0 l E.1 E.2.2.1 J (cu := (nI n)) (la := la) (md := (nI n)) (n := (nI n)) (r := arr) rfl) (fun _ h => absurd h List.not_mem_nil) Z_Jx35411_hasNext_aae02 ZI_Jx35411_hasNext_aae02 w1316 w1312 (jFw_hn hC.2.2.1.2.2.1.2.2.2.2) ⟨by decide, by decide, by decide +kernel⟩ (va_recv (q := (RJx35411, TJx35411, 4)) (ci := 4) (q0 := ((gwl E M () ++ B)).length + 1) hK (hI2).1 rfl (by rw [List.getElem?_append_right (by omega), Nat.add_sub_cancel_left]; rfl)) ⟨rfl, rfl⟩ ⟨Nat.le_of_ble_eq_true rfl, Nat.le_of_ble_eq_true rfl⟩ rfl hl.1 rfl (Nat.le_of_ble_eq_true rfl) dL_state_190 ⟨show cells + 0 ≤ 1000 by omega, show slots + 0 ≤ 6000 by omega⟩ (fun rv u H locs hp hI => ?_)
  subst hp
  refine lv_if_eq (tgt := 239) hx hb dL_state_195 rfl (fun _ => ?_) (fun h => absurd rfl h)
  rw [List.append_assoc] at hI
  exact kv _ _ (e_nil hI)
set_option maxRecDepth 100000 in
set_option maxHeartbeats 4000000 in
theorem st_yloop (hst : l.stackTraces = false) (hC : sC p s m args c cL_state 8 RL E J) {q it r n cap : Nat} {f : Nat → Option Nat} {B : va_W} {V : Int32} (hL : lsH J n yi cap f B) (hw : ∀ j, j < n → svW M wt ky (yi j)) (hn : n ≤ 15) (hcs : cells + 30 ≤ 1000 ∧ slots + 180 ≤ 6000)
    (kv : ∀ (w : Int32) (H : Heap) (locs : List Loc) (ls : Array Slot), w = V → eI E s M [] H locs → lv_has ls 8 [(0, .ref (E.2.1 132)), (1, .int w), (2, .ref it)] → W p l e (gRX 20 500 1000 6000) s m args below meth c H locs (cells + 2 * n) (slots + 12 * n) Q (F0 m 239 ls [])) :
    ∀ (d j : Nat) (v la : Int32) (H : Heap) (locs : List Loc) (ls : Array Slot), j + d = n → svY yi wt ky d j v = V → eI E s M ((q, (.inr (5, [.int (nI n), (.ref r), .int (nI n)]) : va_E)) :: (it, (.inr (4, [.int (nI j), .int la, .int (nI n), .ref q]) : va_E)) :: (r, (.inl (E.2.2.1 4, cap, .inr (.inr (.inr (.inr f)))) : va_E)) :: B) H locs → lv_has ls 8 [(0, .ref (E.2.1 132)), (1, .int v), (2, .ref it)] → W p l e (gRX 20 500 1000 6000) s m args below meth c H locs (cells + 2 * j) (slots + 12 * j) Q (F0 m 189 ls []) := by
  obtain ⟨hc1, hc2, hel⟩ := hL
  intro d
  induction d with
  | zero =>
    intro j v la H locs ls hj hV hI hl
    obtain rfl : j = n := by omega
    exact st_yend hC hI hl ⟨by omega, by omega⟩ (fun H locs hI => kv v H locs ls hV hI hl)
  | succ d ih =>
    intro j v la H locs ls hj hV hI hl
    have hx := hC.1.1
    have hb := hC.1.2.1
    have hown := hC.1.2.2.2.1
    have hts := hC.1.2.2.2.2.1
    have hK := hC.2.1.2.2.2.2.2.1
    have hlt : j < n := by omega
    obtain ⟨y, hy, hbx⟩ := hel j hlt
    obtain ⟨hw1, hw2⟩ := hw j hlt
    have hne : ¬ nI j = nI n := fun h => by have := (nI_eq (by omega) (by omega)).mp h; omega
    have hI2 : jI E.1 s (eA E s.heap.size) ((gwl E M () ++ ((r, (.inl (E.2.2.1 4, cap, .inr (.inr (.inr (.inr f)))) : va_E)) :: B)) ++ [(q, (.inr (5, [.int (nI n), (.ref r), .int (nI n)]) : va_E)), (it, (.inr (4, [.int (nI j), .int la, .int (nI n), .ref q]) : va_E))]) H locs := jI_perm (by
      rw [List.append_assoc]
      refine List.Perm.append_left _ ?_
      show ([(q, (.inr (5, [.int (nI n), (.ref r), .int (nI n)]) : va_E)), (it, (.inr (4, [.int (nI j), .int la, .int (nI n), .ref q]) : va_E))] ++ ((r, (.inl (E.2.2.1 4, cap, .inr (.inr (.inr (.inr f)))) : va_E)) :: B)).Perm _
      exact List.perm_append_comm) hI
    refine lv_aload_n hx hb dL_state_189 rfl (lv_at hl 2 rfl) ?_
    refine j_callF (rest := []) (gwl E M () ++ ((r, (.inl (E.2.2.1 4, cap, .inr (.inr (.inr (.inr f)))) : va_E)) :: B)) hC.2 (wc := [(q, (.inr (5, [.int (nI n), (.ref r), .int (nI n)]) : va_E)), (it, (.inr (4, [.int (nI j), .int la, .int (nI n), .ref q]) : va_E))]) hI2 (hK.1 4 _ rfl).2 (J_hasNext1 l E.1 E.2.2.1 J (cu := (nI j)) (la := la) (md := (nI n)) (n := (nI n)) (r := (.ref r)) hne) (fun _ h => absurd h List.not_mem_nil) Z_Jx35411_hasNext_aae02 ZI_Jx35411_hasNext_aae02 w1316 w1312 (jFw_hn hC.2.2.1.2.2.1.2.2.2.2) ⟨by decide, by decide, by decide +kernel⟩ (va_recv (q := (RJx35411, TJx35411, 4)) (ci := 4) (q0 := ((gwl E M () ++ ((r, (.inl (E.2.2.1 4, cap, .inr (.inr (.inr (.inr f)))) : va_E)) :: B))).length + 1) hK (hI2).1 rfl (by rw [List.getElem?_append_right (by omega), Nat.add_sub_cancel_left]; rfl)) ⟨rfl, rfl⟩ ⟨Nat.le_of_ble_eq_true rfl, Nat.le_of_ble_eq_true rfl⟩ rfl hl.1 rfl (Nat.le_of_ble_eq_true rfl) dL_state_190 ⟨show cells + 2 * j + 0 ≤ 1000 by omega, show slots + 12 * j + 0 ≤ 6000 by omega⟩ (fun rv u H locs hp hI => ?_)
    subst hp
    refine lv_if_eq (tgt := 239) hx hb dL_state_195 rfl (fun h => absurd h (by decide)) (fun _ => ?_)
    refine lv_aload_n hx hb dL_state_198 rfl (lv_at hl 2 rfl) ?_
    have hI3 : jI E.1 s (eA E s.heap.size) ((gwl E M () ++ B) ++ [(q, (.inr (5, [.int (nI n), (.ref r), .int (nI n)]) : va_E)), (r, (.inl (E.2.2.1 4, cap, .inr (.inr (.inr (.inr f)))) : va_E)), (it, (.inr (4, [.int (nI j), .int la, .int (nI n), .ref q]) : va_E))]) H locs := jI_perm (by
      rw [List.append_assoc, List.append_assoc]
      refine List.Perm.append_left _ ?_
      show (((r, (.inl (E.2.2.1 4, cap, .inr (.inr (.inr (.inr f)))) : va_E)) :: B) ++ [(q, (.inr (5, [.int (nI n), (.ref r), .int (nI n)]) : va_E)), (it, (.inr (4, [.int (nI j), .int la, .int (nI n), .ref q]) : va_E))]).Perm _
      refine List.perm_append_comm.trans ?_
      show ([(q, (.inr (5, [.int (nI n), (.ref r), .int (nI n)]) : va_E)), (it, (.inr (4, [.int (nI j), .int la, .int (nI n), .ref q]) : va_E)), (r, (.inl (E.2.2.1 4, cap, .inr (.inr (.inr (.inr f)))) : va_E))] ++ B).Perm _
      refine List.perm_append_comm.trans (List.Perm.append_left _ ?_)
      exact List.Perm.cons _ (List.Perm.swap _ _ _)) hI
    refine j_callF (rest := []) (gwl E M () ++ B) hC.2 hI3 (hK.1 4 _ rfl).2 (J_next l E.1 E.2.2.1 J (la := la) (md := nI n) hlt hc1 (by omega) hy) (fun _ h => absurd h List.not_mem_nil) Z_Jx35411_next_0502b ZI_Jx35411_next_0502b w1325 w1322 (jFw_nx hC.2.2.1.2.2.1.2.2.2.2) ⟨by decide, by decide, by decide +kernel⟩ (va_recv (q := (RJx35411, TJx35411, 4)) (ci := 4) (q0 := (gwl E M () ++ B).length + 2) hK hI3.1 rfl (by rw [List.getElem?_append_right (by omega), Nat.add_sub_cancel_left]; rfl)) ⟨rfl, rfl⟩ ⟨Nat.le_of_ble_eq_true rfl, Nat.le_of_ble_eq_true rfl⟩ rfl hl.1 rfl (Nat.le_of_ble_eq_true rfl) dL_state_199 ⟨show cells + 2 * j + 0 ≤ 1000 by omega, show slots + 12 * j + 0 ≤ 6000 by omega⟩ (fun rv u H locs hp hI => ?_)
    subst hp
    replace hI : jI E.1 s (eA E s.heap.size) ((gwl E M () ++ B) ++ [(q, (.inr (5, [.int (nI n), (.ref r), .int (nI n)]) : va_E)), (r, (.inl (E.2.2.1 4, cap, .inr (.inr (.inr (.inr f)))) : va_E)), (it, (.inr (4, [.int (nI (j + 1)), .int (nI j), .int (nI n), .ref q]) : va_E))]) H locs := hI
    have hbox := bxV.box (wc := [(q, (.inr (5, [.int (nI n), (.ref r), .int (nI n)]) : va_E)), (r, (.inl (E.2.2.1 4, cap, .inr (.inr (.inr (.inr f)))) : va_E)), (it, (.inr (4, [.int (nI (j + 1)), .int (nI j), .int (nI n), .ref q]) : va_E))]) (B := B) hK hC.2.2.1 hC.2.2.2.1 hI (fun z hz => List.mem_append_right _ hz) hbx
    refine va_castS hx hb hown (hts _ w1345) (hK.1 2 _ rfl).2 hbox.1 dL_state_204 ?_
    have key : ∀ (H : Heap) (locs : List Loc), eI E s M ((q, (.inr (5, [.int (nI n), (.ref r), .int (nI n)]) : va_E)) :: (it, (.inr (4, [.int (nI (j + 1)), .int (nI j), .int (nI n), .ref q]) : va_E)) :: (r, (.inl (E.2.2.1 4, cap, .inr (.inr (.inr (.inr f)))) : va_E)) :: B) H locs → W p l e (gRX 20 500 1000 6000) s m args below meth c H locs (cells + 2 * j) (slots + 12 * j) Q (F0 m 210 ls [.int (yi j)]) := fun H locs hI => by
      refine lv_istore_n (lv' := [(3, .int (yi j)), (0, .ref (E.2.1 132)), (1, .int v), (2, .ref it)]) hx hb dL_state_210 rfl hl (by decide) rfl (fun ls hl => ?_)
      refine lv_bipush (v := 31) hx hb dL_state_211 (by decide) ?_
      refine lv_bipush (v := 31) hx hb dL_state_213 (by decide) ?_
      refine lv_iload_n hx hb dL_state_215 rfl (lv_at hl 2 rfl) ?_
      refine lv_imul hx hb dL_state_216 ?_
      refine lv_iload_n hx hb dL_state_217 rfl (lv_at hl 0 rfl) ?_
      refine lv_iadd hx hb dL_state_218 ?_
      refine lv_imul hx hb dL_state_219 ?_
      refine lv_bipush (v := 100) hx hb dL_state_220 (by decide) ?_
      refine lv_aload_n hx hb dL_state_222 rfl (lv_at hl 1 rfl) ?_
      refine lv_iload_n hx hb dL_state_223 rfl (lv_at hl 0 rfl) ?_
      refine e_callX (rest := [.int 100, .int (31 * ((31 * v) + (yi j)))]) hC.1 hI (C_X6_weightOf l hst E () hw1) Y_X6_weightOf V_X6_weightOf w1163 (e_recv6 hC.1 hI) ⟨rfl, rfl⟩ ⟨Nat.le_of_ble_eq_true rfl, Nat.le_of_ble_eq_true rfl⟩ rfl hl.1 rfl (Nat.le_of_ble_eq_true rfl) dL_state_224 ⟨show cells + 2 * j + 1 ≤ 1000 by omega, show slots + 12 * j + 6 ≤ 6000 by omega⟩ (fun H locs hI => ?_)
      refine lv_imul hx hb dL_state_227 ?_
      refine lv_iadd hx hb dL_state_228 ?_
      refine lv_aload_n hx hb dL_state_229 rfl (lv_at hl 1 rfl) ?_
      refine lv_iload_n hx hb dL_state_230 rfl (lv_at hl 0 rfl) ?_
      refine e_callX (rest := [.int ((31 * ((31 * v) + (yi j))) + (100 * (wt (yi j))))]) hC.1 hI (C_X6_keyOf l hst E () hw2) Y_X6_keyOf V_X6_keyOf w1168 (e_recv6 hC.1 hI) ⟨rfl, rfl⟩ ⟨Nat.le_of_ble_eq_true rfl, Nat.le_of_ble_eq_true rfl⟩ rfl hl.1 rfl (Nat.le_of_ble_eq_true rfl) dL_state_231 ⟨show cells + 2 * j + 1 + 1 ≤ 1000 by omega, show slots + 12 * j + 6 + 6 ≤ 6000 by omega⟩ (fun H locs hI => ?_)
      refine lv_iadd hx hb dL_state_234 ?_
      obtain ⟨v1, hv1⟩ : ∃ v1, v1 = (((31 * ((31 * v) + (yi j))) + (100 * (wt (yi j)))) + (ky (yi j))) := ⟨_, rfl⟩
      refine g_top (v := v1) hv1 ?_
      refine lv_istore_n (lv' := [(1, .int v1), (3, .int (yi j)), (0, .ref (E.2.1 132)), (2, .ref it)]) hx hb dL_state_235 rfl hl (by decide) rfl (fun ls hl => ?_)
      refine lv_goto (tgt := 189) hx hb dL_state_236 (by decide) ?_
      exact ih (j + 1) v1 (nI j) H locs ls (by omega) (by rw [hv1]; exact hV) hI (lv_sub hl [2, 0, 3] rfl)
    have hback : ∀ (H : Heap) (locs : List Loc), jI E.1 s (eA E s.heap.size) ((gwl E M () ++ B) ++ [(q, (.inr (5, [.int (nI n), (.ref r), .int (nI n)]) : va_E)), (r, (.inl (E.2.2.1 4, cap, .inr (.inr (.inr (.inr f)))) : va_E)), (it, (.inr (4, [.int (nI (j + 1)), .int (nI j), .int (nI n), .ref q]) : va_E))]) H locs → eI E s M ((q, (.inr (5, [.int (nI n), (.ref r), .int (nI n)]) : va_E)) :: (it, (.inr (4, [.int (nI (j + 1)), .int (nI j), .int (nI n), .ref q]) : va_E)) :: (r, (.inl (E.2.2.1 4, cap, .inr (.inr (.inr (.inr f)))) : va_E)) :: B) H locs := fun H locs h => jI_perm (by
      rw [List.append_assoc]
      refine List.Perm.append_left _ ?_
      refine List.perm_append_comm.trans ?_
      show ((q, (.inr (5, [.int (nI n), (.ref r), .int (nI n)]) : va_E)) :: ((r, (.inl (E.2.2.1 4, cap, .inr (.inr (.inr (.inr f)))) : va_E)) :: (it, (.inr (4, [.int (nI (j + 1)), .int (nI j), .int (nI n), .ref q]) : va_E)) :: B)).Perm _
      exact List.Perm.cons _ (List.Perm.swap _ _ _)) h
    rcases hbx with hbx | ⟨k9, hk9, rfl, hv9⟩
    · obtain ⟨B1, B2, hB⟩ := List.append_of_mem hbx
      have hI4 : jI E.1 s (eA E s.heap.size) ((((gwl E M () ++ B1) ++ B2) ++ [(q, (.inr (5, [.int (nI n), (.ref r), .int (nI n)]) : va_E)), (r, (.inl (E.2.2.1 4, cap, .inr (.inr (.inr (.inr f)))) : va_E)), (it, (.inr (4, [.int (nI (j + 1)), .int (nI j), .int (nI n), .ref q]) : va_E))]) ++ [(y, (.inr (2, [.int (yi j)]) : va_E))]) H locs := jI_perm (by
        rw [hB]
        exact perm_mid _ _ _ _ _) hI
      refine j_callV (rest := []) (((gwl E M () ++ B1) ++ B2) ++ [(q, (.inr (5, [.int (nI n), (.ref r), .int (nI n)]) : va_E)), (r, (.inl (E.2.2.1 4, cap, .inr (.inr (.inr (.inr f)))) : va_E)), (it, (.inr (4, [.int (nI (j + 1)), .int (nI j), .int (nI n), .ref q]) : va_E))]) hC.2 hI4 (J_intValue l E.1 E.2.2.1 J (v := yi j)) (fun _ h => absurd h List.not_mem_nil) Z_J6_intValue_8abf5 ZV_J6_intValue_8abf5 w1346 hbox.1 ⟨rfl, rfl⟩ ⟨Nat.le_of_ble_eq_true rfl, Nat.le_of_ble_eq_true rfl⟩ rfl hl.1 rfl (Nat.le_of_ble_eq_true rfl) dL_state_207 ⟨show cells + 2 * j + 0 ≤ 1000 by omega, show slots + 12 * j + 0 ≤ 6000 by omega⟩ (fun rv u H locs hp hI5 _ => ?_)
      subst hp
      refine key H locs (hback H locs (jI_perm ?_ hI5))
      rw [hB]
      exact (perm_mid _ _ _ _ _).symm
    · refine j_callV (rest := []) ((gwl E M () ++ B) ++ [(q, (.inr (5, [.int (nI n), (.ref r), .int (nI n)]) : va_E)), (r, (.inl (E.2.2.1 4, cap, .inr (.inr (.inr (.inr f)))) : va_E)), (it, (.inr (4, [.int (nI (j + 1)), .int (nI j), .int (nI n), .ref q]) : va_E))]) hC.2 (wc := []) (by rw [List.append_nil]; exact hI) (J_intValueC l E.1 E.2.2.1 J hk9) (fun _ h => absurd h List.not_mem_nil) Z_J6_intValue_8abf5 ZV_J6_intValue_8abf5 w1346 hbox.1 ⟨rfl, rfl⟩ ⟨Nat.le_of_ble_eq_true rfl, Nat.le_of_ble_eq_true rfl⟩ rfl hl.1 rfl (Nat.le_of_ble_eq_true rfl) dL_state_207 ⟨show cells + 2 * j + 0 ≤ 1000 by omega, show slots + 12 * j + 0 ≤ 6000 by omega⟩ (fun rv u H locs hp hI5 _ => ?_)
      subst hp
      rw [List.append_nil] at hI5
      have hk8 := key H locs (hback H locs hI5)
      rw [hv9] at hk8
      exact hk8
end GSY
section GSZ
variable {g : Nat → Int32} {bf : Nat → Nat → Int32} {mo : Nat → Bool} {n : Nat → Nat → Nat} {ids : Nat → Nat → Nat → Int32} {yn : Nat} {yi : Nat → Int32} {wt ky : Int32 → Int32}
def stQ (E : gE) (M : gM) (v : Int32) : Array Value → State → Outcome → State → Prop := fun _ st oc t => (oc = .returned (some (.int v)) ∧ gW E M () t) ∧ va_F (gA E) st t
set_option maxRecDepth 100000 in
set_option maxHeartbeats 4000000 in
theorem C_state (l : Launch) (hst : l.stackTraces = false) (E : gE) (J : jA) {M : gM} (h : svH g bf mo n ids yn yi wt ky M) (sz : Nat) : Met l yL_state (gWs (.code yL_state cL_state 8 (some .int))) (gRX 20 500 1000 6000) (va_Pc [.ref (E.2.1 132)] (sPre E M J sz)) (stQ E M (svAll g bf mo n ids yn yi wt ky)) 1000 6000 (eA E sz) := by
  refine sMet (by decide +kernel) (Nat.le_of_ble_eq_true rfl) ?_
  intro p e s m args below meth c H locs ls hsz hC hr hlocks hl hI
  subst hsz
  replace hC : sC p s m args c cL_state 8 RL E J := hC
  replace hl : lv_has ls 8 [(0, .ref (E.2.1 132))] := hl
  have hx := hC.1.1
  have hb := hC.1.2.1
  have hK := hC.2.1.2.2.2.2.2.1
  obtain ⟨⟨h1, h2, h3, h4, h5⟩, hbe, hyd, hyw⟩ := h
  refine lv_bipush (v := 31) hx hb dL_state_0 (by decide) ?_
  refine lv_bipush (v := 31) hx hb dL_state_2 (by decide) ?_
  refine lv_bipush (v := 31) hx hb dL_state_4 (by decide) ?_
  refine lv_bipush (v := 31) hx hb dL_state_6 (by decide) ?_
  refine lv_aload_n hx hb dL_state_8 rfl (lv_at hl 0 rfl) ?_
  refine e_call0 (rest := [.int 31, .int 31, .int 31, .int 31]) hC.1 hI (C_X6_hour l E () h1) Y_X6_hour V_X6_hour w1141 (e_recv6 hC.1 hI) ⟨rfl, rfl⟩ ⟨Nat.le_of_ble_eq_true rfl, Nat.le_of_ble_eq_true rfl⟩ rfl hl.1 rfl (Nat.le_of_ble_eq_true rfl) dL_state_9 ⟨Nat.le_of_ble_eq_true rfl, Nat.le_of_ble_eq_true rfl⟩ (fun H locs hI => ?_)
  refine lv_imul hx hb dL_state_12 ?_
  refine lv_aload_n hx hb dL_state_13 rfl (lv_at hl 0 rfl) ?_
  refine e_call0 (rest := [.int (31 * (g 0)), .int 31, .int 31, .int 31]) hC.1 hI (C_X6_fees l E () h2) Y_X6_fees V_X6_fees w792 (e_recv6 hC.1 hI) ⟨rfl, rfl⟩ ⟨Nat.le_of_ble_eq_true rfl, Nat.le_of_ble_eq_true rfl⟩ rfl hl.1 rfl (Nat.le_of_ble_eq_true rfl) dL_state_14 ⟨Nat.le_of_ble_eq_true rfl, Nat.le_of_ble_eq_true rfl⟩ (fun H locs hI => ?_)
  refine lv_iadd hx hb dL_state_17 ?_
  refine lv_imul hx hb dL_state_18 ?_
  refine lv_aload_n hx hb dL_state_19 rfl (lv_at hl 0 rfl) ?_
  refine e_call0 (rest := [.int (31 * ((31 * (g 0)) + (g 1))), .int 31, .int 31]) hC.1 hI (C_X6_clearedTotal l E () h3) Y_X6_clearedTotal V_X6_clearedTotal w796 (e_recv6 hC.1 hI) ⟨rfl, rfl⟩ ⟨Nat.le_of_ble_eq_true rfl, Nat.le_of_ble_eq_true rfl⟩ rfl hl.1 rfl (Nat.le_of_ble_eq_true rfl) dL_state_20 ⟨Nat.le_of_ble_eq_true rfl, Nat.le_of_ble_eq_true rfl⟩ (fun H locs hI => ?_)
  refine lv_iadd hx hb dL_state_23 ?_
  refine lv_imul hx hb dL_state_24 ?_
  refine lv_aload_n hx hb dL_state_25 rfl (lv_at hl 0 rfl) ?_
  refine e_call0 (rest := [.int (31 * ((31 * ((31 * (g 0)) + (g 1))) + (g 2))), .int 31]) hC.1 hI (C_X6_deliveredTotal l E () h4) Y_X6_deliveredTotal V_X6_deliveredTotal w800 (e_recv6 hC.1 hI) ⟨rfl, rfl⟩ ⟨Nat.le_of_ble_eq_true rfl, Nat.le_of_ble_eq_true rfl⟩ rfl hl.1 rfl (Nat.le_of_ble_eq_true rfl) dL_state_26 ⟨Nat.le_of_ble_eq_true rfl, Nat.le_of_ble_eq_true rfl⟩ (fun H locs hI => ?_)
  refine lv_iadd hx hb dL_state_29 ?_
  refine lv_imul hx hb dL_state_30 ?_
  refine lv_aload_n hx hb dL_state_31 rfl (lv_at hl 0 rfl) ?_
  refine e_call0 (rest := [.int (31 * ((31 * ((31 * ((31 * (g 0)) + (g 1))) + (g 2))) + (g 3)))]) hC.1 hI (C_X6_wrongTotal l E () h5) Y_X6_wrongTotal V_X6_wrongTotal w804 (e_recv6 hC.1 hI) ⟨rfl, rfl⟩ ⟨Nat.le_of_ble_eq_true rfl, Nat.le_of_ble_eq_true rfl⟩ rfl hl.1 rfl (Nat.le_of_ble_eq_true rfl) dL_state_32 ⟨Nat.le_of_ble_eq_true rfl, Nat.le_of_ble_eq_true rfl⟩ (fun H locs hI => ?_)
  refine lv_iadd hx hb dL_state_35 ?_
  refine g_top (v := sv0 g) rfl ?_
  refine lv_istore_n (lv' := [(1, .int (sv0 g)), (0, .ref (E.2.1 132))]) hx hb dL_state_36 rfl hl (by decide) rfl (fun ls hl => ?_)
  refine lv_iconst (v := nI 0) hx hb dL_state_37 (by decide) ?_
  refine lv_istore_n (lv' := [(2, .int (nI 0)), (1, .int (sv0 g)), (0, .ref (E.2.1 132))]) hx hb dL_state_38 rfl hl (by decide) rfl (fun ls hl => ?_)
  refine st_berths (cells := 0) (slots := 0) hst hC hbe ⟨by decide, by decide⟩ (fun w H locs ls hw9 hI hl => ?_) 3 0 (sv0 g) H locs ls rfl rfl hI (lv_sub hl [1, 2, 0] rfl)
  subst hw9
  obtain ⟨v, hv⟩ : ∃ v, v = svB bf mo n ids wt ky 3 0 (sv0 g) := ⟨_, rfl⟩
  rw [← hv] at hl
  refine lv_aload_n hx hb dL_state_181 rfl (lv_at hl 1 rfl) ?_
  refine s_callYrd hst hC hyd hI hl.1 ⟨Nat.le_of_ble_eq_true rfl, Nat.le_of_ble_eq_true rfl⟩ (fun q r cap f B H locs hL hI => ?_)
  have hend : ∀ (w : Int32) (H : Heap) (locs : List Loc) (ls : Array Slot) (cells slots : Nat), cells ≤ 1000 → slots ≤ 6000 → w = svAll g bf mo n ids yn yi wt ky → eI E s M [] H locs → (∃ L, lv_has ls 8 ((0, .ref (E.2.1 132)) :: (1, .int w) :: L)) → W p l e (gRX 20 500 1000 6000) s m args below meth c H locs cells slots (MQ below (stQ E M (svAll g bf mo n ids yn yi wt ky)) args s 1000 6000 (eA E s.heap.size)) (F0 m 239 ls []) := fun w H locs ls cells slots hc hs hw hI hl => by
    obtain ⟨L, hl⟩ := hl
    refine lv_iload_n hx hb dL_state_239 rfl (lv_at hl 1 rfl) ?_
    refine W.widen hc hs ?_
    exact W.zret (ty := .int) hx hb hr rfl (fun t ht hWm => ⟨⟨by rw [hw], eW_at hC.1.2.2.2.2.2 hI ht hWm⟩, e_F hI ht⟩) hI.2.2.2.2 dL_state_240
  by_cases h0 : yn = 0
  · subst h0
    rw [lsW_0] at hI
    refine j_callV (rest := []) (gwl E M ()) hC.2 (wc := [(q, (.inr (5, [.int (nI 0), (.ref J.2.2.1), .int (nI 0)]) : va_E))]) hI (J_iterator l E.1 E.2.2.1 J (q := q) (md := (nI 0)) (n := (nI 0)) (r := (.ref J.2.2.1))) (fun _ h => absurd h List.not_mem_nil) Z_Jx4a65c_iterator_32c93 ZV_Jx4a65c_iterator_32c93 w1288 (va_recv (q := (RJx4a65c, TJx4a65c, 3)) (ci := 5) (q0 := ((gwl E M ())).length) hK (hI).1 rfl (by rw [List.getElem?_append_right (Nat.le_refl _), Nat.sub_self]; rfl)) ⟨rfl, rfl⟩ ⟨Nat.le_of_ble_eq_true rfl, Nat.le_of_ble_eq_true rfl⟩ rfl hl.1 rfl (Nat.le_of_ble_eq_true rfl) dL_state_185 ⟨Nat.le_of_ble_eq_true rfl, Nat.le_of_ble_eq_true rfl⟩ (fun rv it H locs hp hI5 _ => ?_)
    subst hp
    refine lv_astore_n (lv' := [(2, .ref it), (1, .int v), (0, .ref (E.2.1 132))]) hx hb dL_state_188 rfl hl (by decide) rfl (fun ls hl => ?_)
    refine st_yend (n := 0) (B := []) (la := -1) (v := v) hC hI5 (lv_sub hl [2, 1, 0] rfl) ⟨Nat.le_of_ble_eq_true rfl, Nat.le_of_ble_eq_true rfl⟩ (fun H locs hI => ?_)
    exact hend v H locs ls _ _ (by decide) (by decide) (by rw [hv]; rfl) hI ⟨[], lv_sub hl [2, 1] rfl⟩
  · have h1 : 0 < yn := by omega
    have hn15 := hyd.1
    rw [lsW_1 h1] at hI
    have hI2 : jI E.1 s (eA E s.heap.size) ((gwl E M () ++ ((r, (.inl (E.2.2.1 4, cap, .inr (.inr (.inr (.inr f)))) : va_E)) :: B)) ++ [(q, (.inr (5, [.int (nI yn), (.ref r), .int (nI yn)]) : va_E))]) H locs := jI_perm (by
      rw [List.append_assoc]
      refine List.Perm.append_left _ ?_
      show ([(q, (.inr (5, [.int (nI yn), (.ref r), .int (nI yn)]) : va_E))] ++ ((r, (.inl (E.2.2.1 4, cap, .inr (.inr (.inr (.inr f)))) : va_E)) :: B)).Perm _
      exact List.perm_append_comm) hI
    refine j_callV (rest := []) (gwl E M () ++ ((r, (.inl (E.2.2.1 4, cap, .inr (.inr (.inr (.inr f)))) : va_E)) :: B)) hC.2 (wc := [(q, (.inr (5, [.int (nI yn), (.ref r), .int (nI yn)]) : va_E))]) hI2 (J_iterator l E.1 E.2.2.1 J (q := q) (md := (nI yn)) (n := (nI yn)) (r := (.ref r))) (fun _ h => absurd h List.not_mem_nil) Z_Jx4a65c_iterator_32c93 ZV_Jx4a65c_iterator_32c93 w1288 (va_recv (q := (RJx4a65c, TJx4a65c, 3)) (ci := 5) (q0 := ((gwl E M () ++ ((r, (.inl (E.2.2.1 4, cap, .inr (.inr (.inr (.inr f)))) : va_E)) :: B))).length) hK (hI2).1 rfl (by rw [List.getElem?_append_right (Nat.le_refl _), Nat.sub_self]; rfl)) ⟨rfl, rfl⟩ ⟨Nat.le_of_ble_eq_true rfl, Nat.le_of_ble_eq_true rfl⟩ rfl hl.1 rfl (Nat.le_of_ble_eq_true rfl) dL_state_185 ⟨Nat.le_of_ble_eq_true rfl, Nat.le_of_ble_eq_true rfl⟩ (fun rv it H locs hp hI5 _ => ?_)
    subst hp
    refine lv_astore_n (lv' := [(2, .ref it), (1, .int v), (0, .ref (E.2.1 132))]) hx hb dL_state_188 rfl hl (by decide) rfl (fun ls hl => ?_)
    have hI6 : eI E s M ((q, (.inr (5, [.int (nI yn), (.ref r), .int (nI yn)]) : va_E)) :: (it, (.inr (4, [.int (nI 0), .int (-1), .int (nI yn), .ref q]) : va_E)) :: (r, (.inl (E.2.2.1 4, cap, .inr (.inr (.inr (.inr f)))) : va_E)) :: B) H locs := jI_perm (by
      rw [List.append_assoc]
      refine List.Perm.append_left _ ?_
      exact List.perm_append_comm) hI5
    refine W.widen (show _ ≤ 800 + 2 * 0 by decide) (show _ ≤ 5000 + 12 * 0 by decide) ?_
    refine st_yloop (cells := 800) (slots := 5000) hst hC hL hyw hn15 ⟨by decide, by decide⟩ (fun w H locs ls hw9 hI hl => ?_) yn 0 v (-1) H locs ls (by omega) rfl hI6 (lv_sub hl [2, 1, 0] rfl)
    exact hend w H locs ls _ _ (by omega) (by omega) (by rw [hw9, hv]; rfl) hI ⟨[], lv_sub hl [0, 1] rfl⟩
end GSZ
