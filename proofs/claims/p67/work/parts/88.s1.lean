/-! The law's stack; laid by wip/p67/gen/law67e.py. -/
theorem e_get0 {E : gE} {M : gM} {x : Nat × va_E} {t : va_W} : (gwl E M () ++ x :: t)[142]? = some x := by
  rw [List.getElem?_append_right (by rw [gwl_len]; exact Nat.le_refl _), gwl_len]
  rfl
theorem e_set0 {E : gE} {M : gM} {x y : Nat × va_E} {t : va_W} : (gwl E M () ++ x :: t).set 142 y = gwl E M () ++ y :: t := by
  rw [List.set_append_right _ _ (by rw [gwl_len]; exact Nat.le_refl _), gwl_len]
  rfl
/-- what a stack answers: n containers -/
def stkH (v u : Int32) (n : Nat) (ids : Nat → Int32) (M : gM) : Prop := n ≤ 5 ∧ ((f_X6_isMoored v M = some (.inr false, M) ∧ n = 0) ∨ (f_X6_isMoored v M = some (.inr true, M) ∧ f_X6_stackHeight v u M = some (.inr (nI n), M))) ∧ ∀ k, k < n → f_X6_containerAt v u (nI k) M = some (.inr (ids k), M)
def stkQ (E : gE) (M : gM) (n : Nat) (ids : Nat → Int32) : Array Value → State → Outcome → State → Prop := fun _ st oc t =>
  (∃ (q : Nat) (f : Nat → Int32), oc = .returned (some (.ref q)) ∧ (∀ k, k < n → f k = ids k) ∧ gW E M () t ∧ t.heap[q]? = some (vp_cell (E.2.2.1 0) (n, .inl f)) ∧ st.heap.size ≤ q) ∧ va_F (gA E) st t
theorem e_F {E : gE} {s t : State} {M : gM} {ws : va_W} {H : Heap} {locs : List Loc} (hI : eI E s M ws H locs) (ht : t.heap = H) : va_F (gA E) s t := by
  subst ht
  exact ⟨hI.2.2.1, fun q h1 h2 => hI.2.2.2.1 q h1 (fun h => h.elim h2 (fun h3 => absurd h1 (Nat.not_lt.mpr h3)))⟩
theorem dL_stack_0 : decode cL_stack 0 = .ok (.aload_n 0, 1) := by decide +kernel
theorem dL_stack_1 : decode cL_stack 1 = .ok (.iload_n 1, 1) := by decide +kernel
theorem dL_stack_2 : decode cL_stack 2 = .ok (.invokevirtual 37, 3) := by decide +kernel
theorem dL_stack_5 : decode cL_stack 5 = .ok (.ifCond .eq 12, 3) := by decide +kernel
theorem dL_stack_8 : decode cL_stack 8 = .ok (.aload_n 0, 1) := by decide +kernel
theorem dL_stack_9 : decode cL_stack 9 = .ok (.iload_n 1, 1) := by decide +kernel
theorem dL_stack_10 : decode cL_stack 10 = .ok (.iload_n 2, 1) := by decide +kernel
theorem dL_stack_11 : decode cL_stack 11 = .ok (.invokevirtual 41, 3) := by decide +kernel
theorem dL_stack_14 : decode cL_stack 14 = .ok (.goto 4, 3) := by decide +kernel
theorem dL_stack_17 : decode cL_stack 17 = .ok (.iconst 0, 1) := by decide +kernel
theorem dL_stack_18 : decode cL_stack 18 = .ok (.newarray .int, 2) := by decide +kernel
theorem dL_stack_20 : decode cL_stack 20 = .ok (.astore_n 3, 1) := by decide +kernel
theorem dL_stack_21 : decode cL_stack 21 = .ok (.iconst 0, 1) := by decide +kernel
theorem dL_stack_22 : decode cL_stack 22 = .ok (.istore 4, 2) := by decide +kernel
theorem dL_stack_24 : decode cL_stack 24 = .ok (.iload 4, 2) := by decide +kernel
theorem dL_stack_26 : decode cL_stack 26 = .ok (.aload_n 3, 1) := by decide +kernel
theorem dL_stack_27 : decode cL_stack 27 = .ok (.arraylength, 1) := by decide +kernel
theorem dL_stack_28 : decode cL_stack 28 = .ok (.if_icmp .ge 21, 3) := by decide +kernel
theorem dL_stack_31 : decode cL_stack 31 = .ok (.aload_n 3, 1) := by decide +kernel
theorem dL_stack_32 : decode cL_stack 32 = .ok (.iload 4, 2) := by decide +kernel
theorem dL_stack_34 : decode cL_stack 34 = .ok (.aload_n 0, 1) := by decide +kernel
theorem dL_stack_35 : decode cL_stack 35 = .ok (.iload_n 1, 1) := by decide +kernel
theorem dL_stack_36 : decode cL_stack 36 = .ok (.iload_n 2, 1) := by decide +kernel
theorem dL_stack_37 : decode cL_stack 37 = .ok (.iload 4, 2) := by decide +kernel
theorem dL_stack_39 : decode cL_stack 39 = .ok (.invokevirtual 101, 3) := by decide +kernel
theorem dL_stack_42 : decode cL_stack 42 = .ok (.iastore, 1) := by decide +kernel
theorem dL_stack_43 : decode cL_stack 43 = .ok (.iinc 4 1, 3) := by decide +kernel
theorem dL_stack_46 : decode cL_stack 46 = .ok (.goto (-22), 3) := by decide +kernel
theorem dL_stack_49 : decode cL_stack 49 = .ok (.aload_n 3, 1) := by decide +kernel
theorem dL_stack_50 : decode cL_stack 50 = .ok (.areturn, 1) := by decide +kernel
section GSK
variable {p : Program} {l : Launch} {e : Env} {s : State} {m : MethodId} {args : Array Value} {below : List Frame} {meth : Method} {c : Code} {H : Heap} {locs : List Loc} {cells slots : Nat} {Q : State → Prop} {E : gE} {M : gM} {J : jA} {ls : Array Slot} {ids : Nat → Int32} {v u : Int32}
set_option maxRecDepth 100000 in
set_option maxHeartbeats 4000000 in
theorem stack_loop (hst : l.stackTraces = false) (hC : sC p s m args c cL_stack 5 RL E J) {n q : Nat} (hn : n ≤ 5) (hcA : ∀ k, k < n → f_X6_containerAt v u (nI k) M = some (.inr (ids k), M))
    (kv : ∀ (f : Nat → Int32) (H : Heap) (locs : List Loc) (ls : Array Slot), (∀ k, k < n → f k = ids k) → eI E s M [(q, .inl (E.2.2.1 0, n, .inl f))] H locs → lv_has ls 5 [(3, .ref q)] → W p l e (gRX 12 230 40 200) s m args below meth c H locs (5 + 4 * n) (60 + 24 * n) Q (F0 m 49 ls [])) :
    ∀ (d k : Nat) (f : Nat → Int32) (H : Heap) (locs : List Loc) (ls : Array Slot), k + d = n → (∀ j, j < k → f j = ids j) → eI E s M [(q, .inl (E.2.2.1 0, n, .inl f))] H locs → lv_has ls 5 [(4, .int (nI k)), (0, .ref (E.2.1 132)), (1, .int v), (2, .int u), (3, .ref q)] → W p l e (gRX 12 230 40 200) s m args below meth c H locs (5 + 4 * k) (60 + 24 * k) Q (F0 m 24 ls []) := by
  intro d
  induction d with
  | zero =>
    intro k f H locs ls hk hf hI hl
    have ek : k = n := by omega
    subst ek
    have hx := hC.1.1
    have hb := hC.1.2.1
    have hK := hC.2.1.2.2.2.2.2.1
    refine lv_iload hx hb dL_stack_24 (lv_at hl 0 rfl) ?_
    refine lv_aload_n hx hb dL_stack_26 rfl (lv_at hl 4 rfl) ?_
    refine va_alen hx hb hK hI.1 142 0 e_get0 rfl (v := nI k) rfl dL_stack_27 ?_
    refine lv_icmp_ge (tgt := 49) hx hb dL_stack_28 rfl (fun _ => ?_) (fun h => absurd (Int32.le_refl _) h)
    exact kv f H locs ls hf hI (lv_sub hl [4] rfl)
  | succ d ih =>
    intro k f H locs ls hk hf hI hl
    have hx := hC.1.1
    have hb := hC.1.2.1
    have hK := hC.2.1.2.2.2.2.2.1
    have hlt : k < n := by omega
    refine lv_iload hx hb dL_stack_24 (lv_at hl 0 rfl) ?_
    refine lv_aload_n hx hb dL_stack_26 rfl (lv_at hl 4 rfl) ?_
    refine va_alen hx hb hK hI.1 142 0 e_get0 rfl (v := nI n) rfl dL_stack_27 ?_
    refine lv_icmp_ge (tgt := 49) hx hb dL_stack_28 rfl (fun h => absurd h (nI_ge hlt (by omega))) (fun _ => ?_)
    refine lv_aload_n hx hb dL_stack_31 rfl (lv_at hl 4 rfl) ?_
    refine lv_iload hx hb dL_stack_32 (lv_at hl 0 rfl) ?_
    refine lv_aload_n hx hb dL_stack_34 rfl (lv_at hl 1 rfl) ?_
    refine lv_iload_n hx hb dL_stack_35 rfl (lv_at hl 2 rfl) ?_
    refine lv_iload_n hx hb dL_stack_36 rfl (lv_at hl 3 rfl) ?_
    refine lv_iload hx hb dL_stack_37 (lv_at hl 0 rfl) ?_
    refine e_callX (rest := [.int (nI k), .ref q]) hC.1 hI (C_X6_containerAt l hst E () (hcA k hlt)) Y_X6_containerAt V_X6_containerAt w1159 (e_recv6 hC.1 hI) ⟨rfl, rfl⟩ ⟨Nat.le_of_ble_eq_true rfl, Nat.le_of_ble_eq_true rfl⟩ rfl hl.1 rfl (Nat.le_of_ble_eq_true rfl) dL_stack_39 ⟨show 5 + 4 * k + 4 ≤ 40 by omega, show 60 + 24 * k + 24 ≤ 200 by omega⟩ (fun H locs hI => ?_)
    refine va_iast hx hb hK hI.1 hI.2.1 hI.2.2 142 0 e_get0 rfl (vp_in_nI hlt (by omega)) dL_stack_42 (fun H locs hP hD hS => ?_)
    rw [nI_clamp (by omega), e_set0] at hP hD
    replace hI : eI E s M [(q, .inl (E.2.2.1 0, n, .inl (upd f k (ids k))))] H locs := ⟨hP, hD, hS⟩
    refine lv_iinc (k := 0) (v := nI (k + 1)) (lv' := [(4, .int (nI (k + 1))), (0, .ref (E.2.1 132)), (1, .int v), (2, .int u), (3, .ref q)]) hx hb dL_stack_43 hl rfl (by rw [nI_succ]; rfl) (by decide) rfl (fun ls hl => ?_)
    refine lv_goto (tgt := 24) hx hb dL_stack_46 (by decide) ?_
    refine ih (k + 1) (upd f k (ids k)) H locs ls (by omega) (fun j hj => ?_) hI hl
    by_cases e9 : j = k
    · rw [e9]; exact if_pos rfl
    · rw [show upd f k (ids k) j = f j from if_neg e9]; exact hf j (by omega)
end GSK
set_option maxRecDepth 100000 in
set_option maxHeartbeats 4000000 in
theorem C_stack (l : Launch) (hst : l.stackTraces = false) (E : gE) (J : jA) {M : gM} {v u : Int32} {n : Nat} {ids : Nat → Int32} (h : stkH v u n ids M) (sz : Nat) : Met l yL_stack (gWs (.code yL_stack cL_stack 5 (some (.array .int)))) (gRX 12 230 40 200) (va_Pc [.ref (E.2.1 132), .int v, .int u] (sPre E M J sz)) (stkQ E M n ids) 40 200 (eA E sz) := by
  refine sMet (by decide +kernel) (Nat.le_of_ble_eq_true rfl) ?_
  intro p e s m args below meth c H locs ls hsz hC hr hlocks hl hI
  subst hsz
  replace hC : sC p s m args c cL_stack 5 RL E J := hC
  replace hl : lv_has ls 5 [(0, .ref (E.2.1 132)), (1, .int v), (2, .int u)] := hl
  have hx := hC.1.1
  have hb := hC.1.2.1
  have hts := hC.1.2.2.2.2.1
  have hK := hC.2.1.2.2.2.2.2.1
  have hAn := hC.2.2.2.1
  obtain ⟨hn, hm, hcA⟩ := h
  have key : ∀ (H : Heap) (locs : List Loc) (cells slots : Nat), cells ≤ 4 → slots ≤ 55 → eI E s M [] H locs → W p l e (gRX 12 230 40 200) s m args below meth c H locs cells slots (MQ below (stkQ E M n ids) args s 40 200 (eA E s.heap.size)) (F0 m 18 ls [.int (nI n)]) := fun H locs cells slots hc1 hs1 hI => by
    replace hI : jI E.1 s (eA E s.heap.size) (gwl E M ()) H locs := by rw [← gwl_nil E M]; exact hI
    refine va_newa (atype := .int) (ty := .int) hx hb (hts _ w76) rfl hK hI.1 hI.2.1 hI.2.2 hAn (N' := n) (a0 := (n, .inl (fun _ => 0))) (fun _ => rfl) (nI_pos (by omega)) (nI_clamp (by omega)) (by show n * 4 ≤ _; omega) (show cells + 1 ≤ 40 by omega) (show slots + n ≤ 200 by omega) dL_stack_18 (fun q cA H hK1 hP hD hS => ?_)
    have ec := iid_int hC.2.1.2.2.2.2.2 cA (hK1.2 5 _ rfl).2
    subst ec
    have hI1 : eI E s M [(q, .inl (E.2.2.1 0, n, .inl (fun _ => 0)))] H locs := ⟨hP, hD, hS⟩
    have hq : s.heap.size ≤ q := by
      rcases hD.2 142 _ e_get0 with h | h
      · exfalso
        obtain ⟨i, hi, e9⟩ := h
        have h2 := hD.1 142 (gdn i) _ _ e_get0 (by rw [List.getElem?_append_left (by rw [gwl_len]; exact gdn_lt hi)]; exact gwl_get hi) e9
        have := gdn_lt hi
        omega
      · exact h
    refine lv_astore_n (lv' := [(3, .ref q), (0, .ref (E.2.1 132)), (1, .int v), (2, .int u)]) hx hb dL_stack_20 rfl hl (by decide) rfl (fun ls hl => ?_)
    refine lv_iconst (v := 0) hx hb dL_stack_21 (by decide) ?_
    refine lv_istore (lv' := [(4, .int (nI 0)), (3, .ref q), (0, .ref (E.2.1 132)), (1, .int v), (2, .int u)]) hx hb dL_stack_22 hl (by decide) rfl (fun ls hl => ?_)
    refine W.widen (show _ ≤ 5 + 4 * 0 by omega) (show _ ≤ 60 + 24 * 0 by omega) ?_
    refine stack_loop hst hC hn hcA (fun f H locs ls hf hI hl => ?_) n 0 _ H locs ls (by omega) (fun j hj => absurd hj (Nat.not_lt_zero _)) hI1 (lv_sub hl [0, 2, 3, 4, 1] rfl)
    refine lv_aload_n hx hb dL_stack_49 rfl (lv_at hl 0 rfl) ?_
    refine W.widen (show _ ≤ 40 by omega) (show _ ≤ 200 by omega) ?_
    exact W.aret hx hb hr (Or.inr ⟨_, rfl⟩) (Or.inr ⟨_, rfl⟩) (fun t ht hWm => ⟨⟨q, f, rfl, hf, eW_at hC.1.2.2.2.2.2 hI ht hWm, by rw [ht]; exact hI.1 142 _ e_get0, hq⟩, e_F hI ht⟩) hI.2.2.2.2 dL_stack_50
  refine lv_aload_n hx hb dL_stack_0 rfl (lv_at hl 0 rfl) ?_
  refine lv_iload_n hx hb dL_stack_1 rfl (lv_at hl 1 rfl) ?_
  rcases hm with ⟨hm, h0⟩ | ⟨hm, hh⟩
  · refine e_callX (rest := []) hC.1 hI (C_X6_isMoored l hst E () hm) Y_X6_isMoored V_X6_isMoored w562 (e_recv6 hC.1 hI) ⟨rfl, rfl⟩ ⟨Nat.le_of_ble_eq_true rfl, Nat.le_of_ble_eq_true rfl⟩ rfl hl.1 rfl (Nat.le_of_ble_eq_true rfl) dL_stack_2 ⟨Nat.le_of_ble_eq_true rfl, Nat.le_of_ble_eq_true rfl⟩ (fun H locs hI => ?_)
    refine lv_if_eq (tgt := 17) hx hb dL_stack_5 rfl (fun _ => ?_) (fun h => absurd rfl h)
    refine lv_iconst (v := 0) hx hb dL_stack_17 (by decide) ?_
    refine g_top (v := nI n) (by rw [h0]; rfl) ?_
    exact key _ _ _ _ (by omega) (by omega) hI
  · refine e_callX (rest := []) hC.1 hI (C_X6_isMoored l hst E () hm) Y_X6_isMoored V_X6_isMoored w562 (e_recv6 hC.1 hI) ⟨rfl, rfl⟩ ⟨Nat.le_of_ble_eq_true rfl, Nat.le_of_ble_eq_true rfl⟩ rfl hl.1 rfl (Nat.le_of_ble_eq_true rfl) dL_stack_2 ⟨Nat.le_of_ble_eq_true rfl, Nat.le_of_ble_eq_true rfl⟩ (fun H locs hI => ?_)
    refine lv_if_eq (tgt := 17) hx hb dL_stack_5 rfl (fun h => absurd h (by decide)) (fun _ => ?_)
    refine lv_aload_n hx hb dL_stack_8 rfl (lv_at hl 0 rfl) ?_
    refine lv_iload_n hx hb dL_stack_9 rfl (lv_at hl 1 rfl) ?_
    refine lv_iload_n hx hb dL_stack_10 rfl (lv_at hl 2 rfl) ?_
    refine e_callX (rest := []) hC.1 hI (C_X6_stackHeight l hst E () hh) Y_X6_stackHeight V_X6_stackHeight w1137 (e_recv6 hC.1 hI) ⟨rfl, rfl⟩ ⟨Nat.le_of_ble_eq_true rfl, Nat.le_of_ble_eq_true rfl⟩ rfl hl.1 rfl (Nat.le_of_ble_eq_true rfl) dL_stack_11 ⟨Nat.le_of_ble_eq_true rfl, Nat.le_of_ble_eq_true rfl⟩ (fun H locs hI => ?_)
    refine lv_goto (tgt := 18) hx hb dL_stack_14 rfl ?_
    exact key _ _ _ _ (by omega) (by omega) hI
