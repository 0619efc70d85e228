/-! deliver: the class's remove, the reference's three rows -/
def lowT (l : Nat) (t : tC) : tC := if t.2.2.2.1 = nI 12 ∧ nI l < t.2.2.2.2 then (t.1, t.2.1, t.2.2.1, t.2.2.2.1, t.2.2.2.2 - nI 1) else t
theorem lowT_1 (l : Nat) (t : tC) : (lowT l t).1 = t.1 := by unfold lowT; split <;> rfl
theorem lowT_2 (l : Nat) (t : tC) : (lowT l t).2.1 = t.2.1 := by unfold lowT; split <;> rfl
theorem lowT_3 (l : Nat) (t : tC) : (lowT l t).2.2.1 = t.2.2.1 := by unfold lowT; split <;> rfl
theorem lowT_ok {l x : Nat} {t : tC} (h : tOK x t) : tOK x (lowT l t) := by
  unfold tOK
  rw [lowT_1, lowT_2, lowT_3]
  exact h
section TD
variable {r : Nat → Int32} {β : Nat}
/-- the reference's row without the yard's place l -/
def dlY (r : Nat → Int32) (l : Nat) (j : Nat) : Int32 := if (214 + l ≤ j ∧ j < 228) ∨ (229 + l ≤ j ∧ j < 243) ∨ (244 + l ≤ j ∧ j < 258) then r (j + 1) else r j
def dlR (r : Nat → Int32) (l : Nat) : Nat → Int32 := upd (upd (dlY r l) 6 (nI (yN r - 1))) 4 (r 4 + nI 1)
theorem dlR_o {l j : Nat} (h4 : j ≠ 4) (h6 : j ≠ 6) (h : j < 214) : dlR r l j = r j := by
  unfold dlR dlY
  rw [q_upn h4, q_upn h6, if_neg (by omega)]
theorem dlR_6 {l : Nat} : dlR r l 6 = nI (yN r - 1) := by
  unfold dlR
  rw [q_upn (by omega), q_ups rfl]
theorem dlR_4 {l : Nat} : dlR r l 4 = r 4 + nI 1 := q_ups rfl
theorem dlR_y {l j : Nat} (h : 214 ≤ j) : dlR r l j = dlY r l j := by
  unfold dlR
  rw [q_upn (by omega), q_upn (by omega)]
theorem dlR_tYd (w : gRow β r) {l i : Nat} (hl : l < yN r) (hi : i < yN r - 1) : tYd (dlR r l) i = lowT l (tYd r (if i < l then i else i + 1)) := by
  have h15 := w.y.2
  have c1 : 214 + (if i < l then i else i + 1) = if i < l then 214 + i else 214 + i + 1 := by split <;> omega
  by_cases hil : i < l
  · rw [if_pos hil]
    unfold lowT
    rw [if_neg (fun q => by
      have q2 : nI l < nI i := q.2
      have := (nI_ltI (by omega) (by omega)).mp q2
      omega)]
    unfold tYd
    rw [dlR_y (by omega), dlR_y (by omega), dlR_y (by omega)]
    unfold dlY
    rw [if_neg (by omega), if_neg (by omega), if_neg (by omega)]
  · rw [if_neg hil]
    unfold lowT
    rw [if_pos ⟨rfl, (nI_ltI (by omega) (by omega)).mpr (by omega)⟩]
    unfold tYd
    rw [dlR_y (by omega), dlR_y (by omega), dlR_y (by omega)]
    unfold dlY
    rw [if_pos (by omega), if_pos (by omega), if_pos (by omega)]
    show (_, _, _, nI 12, nI i) = (_, _, _, nI 12, nI (i + 1) - nI 1)
    rw [q_sub (by omega), Nat.add_sub_cancel]
    rfl
theorem dlR_yard (w : gRow β r) {l : Nat} (hl : l < yN r) : tYard (dlR r l) = ((tYard r).eraseIdx l).map (lowT l) := by
  have h15 := w.y.2
  have ey : yN (dlR r l) = yN r - 1 := by
    unfold yN
    rw [dlR_6]
    exact nI_clamp (by omega)
  have len : (tYard r).length = yN r := by simp [tYard]
  have g : ∀ i (h : i < (tYard r).length), (tYard r)[i] = tYd r i := fun i h => by simp [tYard]
  apply List.ext_getElem
  · rw [List.length_map, List.length_eraseIdx, if_pos (by omega), len]
    simp [tYard, ey]
  · intro i h1 h2
    have h1' : i < yN r - 1 := by simpa [tYard, ey] using h1
    have e1 : (tYard (dlR r l))[i] = tYd (dlR r l) i := by simp [tYard]
    rw [e1, dlR_tYd w hl h1', List.getElem_map, List.getElem_eraseIdx]
    by_cases hil : i < l
    · rw [dif_pos hil, if_pos hil, g]
    · rw [dif_neg hil, if_neg hil, g]
theorem dlR_ship {l : Nat} : tShip (dlR r l) = (tShip r).map (lowT l) := by
  have e1 : tShip (dlR r l) = tShip r := by
    unfold tShip
    have f : (List.range 60).filter (fullB (dlR r l)) = (List.range 60).filter (fullB r) := List.filter_congr (fun c hc => by
      have hc := List.mem_range.mp hc
      unfold fullB
      rw [hN_eq (dlR_o (by omega) (by omega) (by omega))])
    rw [f]
    apply List.map_congr_left
    intro c hc
    have hc := List.mem_range.mp (List.mem_filter.mp hc).1
    unfold tCell
    rw [dlR_o (by omega) (by omega) (by omega), dlR_o (by omega) (by omega) (by omega), dlR_o (by omega) (by omega) (by omega)]
  have e2 : (tShip r).map (lowT l) = (tShip r).map id := List.map_congr_left (fun t ht => by
    obtain ⟨c, hc, rfl⟩ := List.mem_map.mp ht
    have hc := List.mem_range.mp (List.mem_filter.mp hc).1
    unfold lowT
    rw [if_neg (fun q => by
      have q1 : nI (c / 5) = nI 12 := q.1
      have := (nI_eq (by omega) (by omega)).mp q1
      omega)]
    rfl)
  rw [e1, e2, List.map_id]
theorem dlR_all (w : gRow β r) {l : Nat} (hl : l < yN r) : (tAll r).Perm (tYd r l :: (tShip r ++ (tYard r).eraseIdx l)) ∧ tAll (dlR r l) = (tShip r ++ (tYard r).eraseIdx l).map (lowT l) := by
  constructor
  · have e := q_permGet (tYard r) l (tYd r l) (by simp [tYard, hl])
    exact (e.append_left (tShip r)).trans List.perm_middle
  · rw [List.map_append, ← dlR_yard w hl, ← dlR_ship]
    rfl
theorem dlR_row (w : gRow β r) (hβ : β ≤ 600) {l : Nat} (hl : l < yN r) : gRow (β + 1) (dlR r l) := by
  obtain ⟨hP, hA⟩ := dlR_all w hl
  have hn := w.nx
  obtain ⟨d, hd1, hd2⟩ := w.dl
  have h15 := w.y.2
  refine gRow_mk w (fun j hj => dlR_o (by omega) (by omega) (by omega)) (fun p hp => ?_) ⟨yN r - 1, dlR_6, by omega⟩ (x := nxN r) (by rw [dlR_o (by omega) (by omega) (by omega)]; exact hn.1) (by omega) hβ (fun t ht => ?_) ⟨d + 1, by rw [dlR_4, hd1, nI_add], ?_⟩
  · rw [dlR_o (by omega) (by omega) (by omega)]
    exact ⟨_, w.h hp⟩
  · rw [hA] at ht
    obtain ⟨t', ht', rfl⟩ := List.mem_map.mp ht
    exact lowT_ok (w.ok (hP.mem_iff.mpr (List.mem_cons_of_mem _ ht')))
  · have := hP.length_eq
    rw [List.length_cons] at this
    rw [hA, List.length_map]
    omega
/-! the class's rows: those above come down, those behind come up -/
def lwM (M : gM) (o l k : Nat) : gM := gw M (o + 6) (fun i => if i < k ∧ M (o + 5) i = nI 12 ∧ nI l < M (o + 6) i then M (o + 6) i - nI 1 else M (o + 6) i)
theorem lwM_fr {M : gM} {o l k a : Nat} (h : a ≠ o + 6) : lwM M o l k a = M a := by unfold lwM; rw [gw_ne h]
theorem lwM_s {M : gM} {o l k i : Nat} : lwM M o l k (o + 6) i = if i < k ∧ M (o + 5) i = nI 12 ∧ nI l < M (o + 6) i then M (o + 6) i - nI 1 else M (o + 6) i := by unfold lwM; rw [gw_same]
theorem lwM_row {M : gM} {o l c i : Nat} (hi : i < c) : tRow (lwM M o l c) o i = lowT l (tRow M o i) := by
  unfold tRow lowT
  rw [lwM_fr (by omega), lwM_fr (by omega), lwM_fr (by omega), lwM_fr (by omega), lwM_s]
  by_cases h : M (o + 5) i = nI 12 ∧ nI l < M (o + 6) i
  · rw [if_pos ⟨hi, h⟩]
    exact (if_pos h).symm
  · rw [if_neg (fun q => h q.2)]
    exact (if_neg h).symm
def shM (A : gM) (o j k : Nat) : gM := fun a => if o + 2 ≤ a ∧ a ≤ o + 6 then (fun i => if j ≤ i ∧ i + 1 < k then A a (i + 1) else A a i) else A a
theorem shM_fr {A : gM} {o j k a : Nat} (h : ¬ (o + 2 ≤ a ∧ a ≤ o + 6)) : shM A o j k a = A a := if_neg h
theorem shM_s {A : gM} {o j k a i : Nat} (h : o + 2 ≤ a ∧ a ≤ o + 6) : shM A o j k a i = if j ≤ i ∧ i + 1 < k then A a (i + 1) else A a i := by unfold shM; rw [if_pos h]
theorem c_copyRow {A : gM} {o c j k : Nat} (hc : A (o + 1) 6 = nI c) (h75 : c ≤ 75) (hj : j < k) (hk : k < c) : f_X0_copyRow o (nI k) (nI (k - 1)) (shM A o j k) = some (shM A o j (k + 1)) := by
  have hc' : shM A o j k (o + 1) 6 = nI c := by rw [shM_fr (by omega)]; exact hc
  have e : gs (gs (gs (gs (gs (shM A o j k) (o + 2) (k - 1) (A (o + 2) k)) (o + 3) (k - 1) (A (o + 3) k)) (o + 4) (k - 1) (A (o + 4) k)) (o + 5) (k - 1) (A (o + 5) k)) (o + 6) (k - 1) (A (o + 6) k) = shM A o j (k + 1) := by
    funext a i
    by_cases ha : o + 2 ≤ a ∧ a ≤ o + 6
    · have ea : a = o + 2 ∨ a = o + 3 ∨ a = o + 4 ∨ a = o + 5 ∨ a = o + 6 := by omega
      by_cases hi : i = k - 1
      · have ek : i + 1 = k := by omega
        rw [shM_s ha, if_pos (by omega), ek]
        rcases ea with rfl | rfl | rfl | rfl | rfl
        · simp (disch := omega) only [q_gsn, q_gss]
        · simp (disch := omega) only [q_gsn, q_gss]
        · simp (disch := omega) only [q_gsn, q_gss]
        · simp (disch := omega) only [q_gsn, q_gss]
        · simp (disch := omega) only [q_gsn, q_gss]
      · have e1 : gs (gs (gs (gs (gs (shM A o j k) (o + 2) (k - 1) (A (o + 2) k)) (o + 3) (k - 1) (A (o + 3) k)) (o + 4) (k - 1) (A (o + 4) k)) (o + 5) (k - 1) (A (o + 5) k)) (o + 6) (k - 1) (A (o + 6) k) a i = shM A o j k a i := by
          rcases ea with rfl | rfl | rfl | rfl | rfl
          · simp (disch := omega) only [q_gsn, q_gsk]
          · simp (disch := omega) only [q_gsn, q_gsk]
          · simp (disch := omega) only [q_gsn, q_gsk]
          · simp (disch := omega) only [q_gsn, q_gsk]
          · simp (disch := omega) only [q_gsn, q_gsk]
        rw [e1, shM_s ha, shM_s ha]
        by_cases h : j ≤ i ∧ i + 1 < k
        · rw [if_pos h, if_pos (by omega)]
        · rw [if_neg h, if_neg (by omega)]
    · rw [q_gsn (by omega), q_gsn (by omega), q_gsn (by omega), q_gsn (by omega), q_gsn (by omega), shM_fr ha, shM_fr ha]
  have s : ∀ a, o + 2 ≤ a ∧ a ≤ o + 6 → shM A o j k a k = A a k := fun a ha => by rw [shM_s ha, if_neg (by omega)]
  have s2 := s (o + 2) (by omega)
  have s3 := s (o + 3) (by omega)
  have s4 := s (o + 4) (by omega)
  have s5 := s (o + 5) (by omega)
  have s6 := s (o + 6) (by omega)
  unfold f_X0_copyRow
  simp (disch := omega) only [↓reduceIte, eq_self, Bool.true_eq_false, Bool.false_eq_true, q_seqr, q_seql, v_ig, v_ni, v_le, v_nle, v_lt, v_nlt, v_eq, v_ne, v_gbt, v_gbf, v_gbd, v_m1lt, v_m1ge, v_m1ne, v_m1e, ↓q_bindD, ↓q_gLet, Option.isSome_some, Option.getD_some, nI_add, pk_mul, q_sub, q_m1, q_div, q_modN, nI_clamp, if_true, if_false, q_l0, q_l1, q_l2, q_l3, q_l4, q_l5, q_l6, q_l7, q_l8, q_l9, q_l10, q_l11, q_l12, q_l13, q_l14, q_l15, q_l16, q_l19, q_l20, q_l22, q_l24, q_l30, q_l32, q_l34, q_l36, q_l45, q_l47, q_l48, q_l57, q_l58, q_l59, q_l60, q_l61, q_l66, q_l75, q_l76, q_l94, q_l97, q_l99, q_l100, q_l101, q_l104, q_l105, q_l108, q_l109, q_l111, q_l114, q_l115, q_l116, q_l117, q_l118, q_l119, q_l120, q_l126, q_l132, q_l133, q_l135, q_l136, q_l138, q_l146, q_l147, q_l148, q_l149, q_l150, q_l151, q_l152, q_l153, q_l154, q_l155, q_l156, q_l157, q_l158, q_l214, q_l229, q_l244, q_l259, q_l300, q_l999, q_l1813, q_l2072, q_l10000, q_l65536, q_l1000000000, s_hasRow hc' h75 hk, s_hasRow hc' h75 (show k - 1 < c by omega), q_gsn, s2, s3, s4, s5, s6, e]
theorem c_remove {M : gM} {o c j l : Nat} (hc : M (o + 1) 6 = nI c) (h75 : c ≤ 75) (hj : j < c) (h5 : M (o + 5) j = nI 12) (h6 : M (o + 6) j = nI l) (hl : l < 100) :
    f_X0_remove o (nI j) M = some (gs (shM (lwM M o l c) o j c) (o + 1) 6 (nI (c - 1))) := by
  have cS : ∀ k, lwM M o l k (o + 1) 6 = nI c := fun k => by rw [lwM_fr (by omega)]; exact hc
  have key2 : ∀ d n k, k + d = c → d < n → j < k → f_X0_remove_L43 o (nI j) n (nI k) (shM (lwM M o l c) o j k) = some (gs (shM (lwM M o l c) o j c) (o + 1) 6 (nI (c - 1))) := by
    intro d
    induction d with
    | zero =>
      intro n k hk hn hjk
      obtain ⟨m, rfl⟩ : ∃ m, n = m + 1 := ⟨n - 1, by omega⟩
      have hk : k = c := by omega
      subst hk
      have e1 : shM (lwM M o l k) o j k (o + 1) 6 = nI k := by rw [shM_fr (by omega)]; exact cS k
      rw [f_X0_remove_L43]
      simp (disch := omega) only [↓reduceIte, eq_self, Bool.true_eq_false, Bool.false_eq_true, q_seqr, q_seql, v_ig, v_ni, v_le, v_nle, v_lt, v_nlt, v_eq, v_ne, v_gbt, v_gbf, v_gbd, v_m1lt, v_m1ge, v_m1ne, v_m1e, ↓q_bindD, ↓q_gLet, Option.isSome_some, Option.getD_some, nI_add, pk_mul, q_sub, q_m1, q_div, q_modN, nI_clamp, if_true, if_false, q_l0, q_l1, q_l2, q_l3, q_l4, q_l5, q_l6, q_l7, q_l8, q_l9, q_l10, q_l11, q_l12, q_l13, q_l14, q_l15, q_l16, q_l19, q_l20, q_l22, q_l24, q_l30, q_l32, q_l34, q_l36, q_l45, q_l47, q_l48, q_l57, q_l58, q_l59, q_l60, q_l61, q_l66, q_l75, q_l76, q_l94, q_l97, q_l99, q_l100, q_l101, q_l104, q_l105, q_l108, q_l109, q_l111, q_l114, q_l115, q_l116, q_l117, q_l118, q_l119, q_l120, q_l126, q_l132, q_l133, q_l135, q_l136, q_l138, q_l146, q_l147, q_l148, q_l149, q_l150, q_l151, q_l152, q_l153, q_l154, q_l155, q_l156, q_l157, q_l158, q_l214, q_l229, q_l244, q_l259, q_l300, q_l999, q_l1813, q_l2072, q_l10000, q_l65536, q_l1000000000, e1]
    | succ d ih =>
      intro n k hk hn hjk
      obtain ⟨m, rfl⟩ : ∃ m, n = m + 1 := ⟨n - 1, by omega⟩
      have e1 : shM (lwM M o l c) o j k (o + 1) 6 = nI c := by rw [shM_fr (by omega)]; exact cS c
      have cp := c_copyRow (cS c) h75 hjk (show k < c by omega)
      rw [f_X0_remove_L43]
      simp (disch := omega) only [↓reduceIte, eq_self, Bool.true_eq_false, Bool.false_eq_true, q_seqr, q_seql, v_ig, v_ni, v_le, v_nle, v_lt, v_nlt, v_eq, v_ne, v_gbt, v_gbf, v_gbd, v_m1lt, v_m1ge, v_m1ne, v_m1e, ↓q_bindD, ↓q_gLet, Option.isSome_some, Option.getD_some, nI_add, pk_mul, q_sub, q_m1, q_div, q_modN, nI_clamp, if_true, if_false, q_l0, q_l1, q_l2, q_l3, q_l4, q_l5, q_l6, q_l7, q_l8, q_l9, q_l10, q_l11, q_l12, q_l13, q_l14, q_l15, q_l16, q_l19, q_l20, q_l22, q_l24, q_l30, q_l32, q_l34, q_l36, q_l45, q_l47, q_l48, q_l57, q_l58, q_l59, q_l60, q_l61, q_l66, q_l75, q_l76, q_l94, q_l97, q_l99, q_l100, q_l101, q_l104, q_l105, q_l108, q_l109, q_l111, q_l114, q_l115, q_l116, q_l117, q_l118, q_l119, q_l120, q_l126, q_l132, q_l133, q_l135, q_l136, q_l138, q_l146, q_l147, q_l148, q_l149, q_l150, q_l151, q_l152, q_l153, q_l154, q_l155, q_l156, q_l157, q_l158, q_l214, q_l229, q_l244, q_l259, q_l300, q_l999, q_l1813, q_l2072, q_l10000, q_l65536, q_l1000000000, e1, cp]
      exact ih m (k + 1) (by omega) (by omega) (by omega)
  have e0 : shM (lwM M o l c) o j (j + 1) = lwM M o l c := by
    funext a i
    by_cases ha : o + 2 ≤ a ∧ a ≤ o + 6
    · rw [shM_s ha, if_neg (by omega)]
    · rw [shM_fr ha]
  have key : ∀ d n k, k + d = c → d < n → f_X0_remove_L11 o (nI j) n (nI k) (lwM M o l k) = some (gs (shM (lwM M o l c) o j c) (o + 1) 6 (nI (c - 1))) := by
    intro d
    induction d with
    | zero =>
      intro n k hk hn
      obtain ⟨m, rfl⟩ : ∃ m, n = m + 1 := ⟨n - 1, by omega⟩
      have hk : k = c := by omega
      subst hk
      have k2 := key2 (k - (j + 1)) gF (j + 1) (by omega) (by unfold gF; omega) (by omega)
      rw [e0] at k2
      rw [f_X0_remove_L11, cS, if_pos (nI_le (by omega) (by omega)), q_gLet, show nI j + 1 = nI (j + 1) from nI_add _ 1]
      exact k2
    | succ d ih =>
      intro n k hk hn
      obtain ⟨m, rfl⟩ : ∃ m, n = m + 1 := ⟨n - 1, by omega⟩
      have hk' : k < c := by omega
      have ia := c_isAbove (cS k) h75 hk' hj
      rw [lwM_fr (show o + 5 ≠ o + 6 by omega), lwM_s, lwM_s, if_neg (fun q => by rw [h6] at q; exact Int32.lt_irrefl q.2.2), if_neg (fun q => absurd q.1 (Nat.lt_irrefl _)), h5, h6] at ia
      have ih := ih m (k + 1) (by omega) (by omega)
      by_cases ab : M (o + 5) k = nI 12 ∧ nI l < M (o + 6) k
      · rw [decide_eq_true ab] at ia
        have es : gs (lwM M o l k) (o + 6) k (M (o + 6) k - nI 1) = lwM M o l (k + 1) := by
          funext a i
          by_cases ha : a = o + 6
          · subst ha
            by_cases hi : i = k
            · subst hi
              rw [q_gss rfl, lwM_s, if_pos ⟨by omega, ab⟩]
            · rw [q_gsk hi, lwM_s, lwM_s]
              have : (i < k ∧ M (o + 5) i = nI 12 ∧ nI l < M (o + 6) i) ↔ (i < k + 1 ∧ M (o + 5) i = nI 12 ∧ nI l < M (o + 6) i) := ⟨fun q => ⟨by omega, q.2⟩, fun q => ⟨by omega, q.2⟩⟩
              simp only [this]
          · rw [q_gsn ha, lwM_fr ha, lwM_fr ha]
        have el : lwM M o l k (o + 6) k = M (o + 6) k := by rw [lwM_s, if_neg (fun q => absurd q.1 (Nat.lt_irrefl _))]
        have lo : f_X0_lower o (nI k) (lwM M o l k) = some (lwM M o l (k + 1)) := by
          unfold f_X0_lower
          simp (disch := omega) only [↓reduceIte, eq_self, Bool.true_eq_false, Bool.false_eq_true, q_seqr, q_seql, v_ig, v_ni, v_le, v_nle, v_lt, v_nlt, v_eq, v_ne, v_gbt, v_gbf, v_gbd, v_m1lt, v_m1ge, v_m1ne, v_m1e, ↓q_bindD, ↓q_gLet, Option.isSome_some, Option.getD_some, nI_add, pk_mul, q_sub, q_m1, q_div, q_modN, nI_clamp, if_true, if_false, q_l0, q_l1, q_l2, q_l3, q_l4, q_l5, q_l6, q_l7, q_l8, q_l9, q_l10, q_l11, q_l12, q_l13, q_l14, q_l15, q_l16, q_l19, q_l20, q_l22, q_l24, q_l30, q_l32, q_l34, q_l36, q_l45, q_l47, q_l48, q_l57, q_l58, q_l59, q_l60, q_l61, q_l66, q_l75, q_l76, q_l94, q_l97, q_l99, q_l100, q_l101, q_l104, q_l105, q_l108, q_l109, q_l111, q_l114, q_l115, q_l116, q_l117, q_l118, q_l119, q_l120, q_l126, q_l132, q_l133, q_l135, q_l136, q_l138, q_l146, q_l147, q_l148, q_l149, q_l150, q_l151, q_l152, q_l153, q_l154, q_l155, q_l156, q_l157, q_l158, q_l214, q_l229, q_l244, q_l259, q_l300, q_l999, q_l1813, q_l2072, q_l10000, q_l65536, q_l1000000000, s_hasRow (cS k) h75 hk', el, es]
        rw [f_X0_remove_L11]
        simp (disch := omega) only [↓reduceIte, eq_self, Bool.true_eq_false, Bool.false_eq_true, q_seqr, q_seql, v_ig, v_ni, v_le, v_nle, v_lt, v_nlt, v_eq, v_ne, v_gbt, v_gbf, v_gbd, v_m1lt, v_m1ge, v_m1ne, v_m1e, ↓q_bindD, ↓q_gLet, Option.isSome_some, Option.getD_some, nI_add, pk_mul, q_sub, q_m1, q_div, q_modN, nI_clamp, if_true, if_false, q_l0, q_l1, q_l2, q_l3, q_l4, q_l5, q_l6, q_l7, q_l8, q_l9, q_l10, q_l11, q_l12, q_l13, q_l14, q_l15, q_l16, q_l19, q_l20, q_l22, q_l24, q_l30, q_l32, q_l34, q_l36, q_l45, q_l47, q_l48, q_l57, q_l58, q_l59, q_l60, q_l61, q_l66, q_l75, q_l76, q_l94, q_l97, q_l99, q_l100, q_l101, q_l104, q_l105, q_l108, q_l109, q_l111, q_l114, q_l115, q_l116, q_l117, q_l118, q_l119, q_l120, q_l126, q_l132, q_l133, q_l135, q_l136, q_l138, q_l146, q_l147, q_l148, q_l149, q_l150, q_l151, q_l152, q_l153, q_l154, q_l155, q_l156, q_l157, q_l158, q_l214, q_l229, q_l244, q_l259, q_l300, q_l999, q_l1813, q_l2072, q_l10000, q_l65536, q_l1000000000, cS, ia, lo]
        exact ih
      · rw [decide_eq_false ab] at ia
        have es : lwM M o l k = lwM M o l (k + 1) := by
          funext a i
          by_cases ha : a = o + 6
          · subst ha
            rw [lwM_s, lwM_s]
            by_cases hi : i = k
            · subst hi
              rw [if_neg (fun q => ab q.2), if_neg (fun q => ab q.2)]
            · have : (i < k ∧ M (o + 5) i = nI 12 ∧ nI l < M (o + 6) i) ↔ (i < k + 1 ∧ M (o + 5) i = nI 12 ∧ nI l < M (o + 6) i) := ⟨fun q => ⟨by omega, q.2⟩, fun q => ⟨by omega, q.2⟩⟩
              simp only [this]
          · rw [lwM_fr ha, lwM_fr ha]
        rw [← es] at ih
        rw [f_X0_remove_L11]
        simp (disch := omega) only [↓reduceIte, eq_self, Bool.true_eq_false, Bool.false_eq_true, q_seqr, q_seql, v_ig, v_ni, v_le, v_nle, v_lt, v_nlt, v_eq, v_ne, v_gbt, v_gbf, v_gbd, v_m1lt, v_m1ge, v_m1ne, v_m1e, ↓q_bindD, ↓q_gLet, Option.isSome_some, Option.getD_some, nI_add, pk_mul, q_sub, q_m1, q_div, q_modN, nI_clamp, if_true, if_false, q_l0, q_l1, q_l2, q_l3, q_l4, q_l5, q_l6, q_l7, q_l8, q_l9, q_l10, q_l11, q_l12, q_l13, q_l14, q_l15, q_l16, q_l19, q_l20, q_l22, q_l24, q_l30, q_l32, q_l34, q_l36, q_l45, q_l47, q_l48, q_l57, q_l58, q_l59, q_l60, q_l61, q_l66, q_l75, q_l76, q_l94, q_l97, q_l99, q_l100, q_l101, q_l104, q_l105, q_l108, q_l109, q_l111, q_l114, q_l115, q_l116, q_l117, q_l118, q_l119, q_l120, q_l126, q_l132, q_l133, q_l135, q_l136, q_l138, q_l146, q_l147, q_l148, q_l149, q_l150, q_l151, q_l152, q_l153, q_l154, q_l155, q_l156, q_l157, q_l158, q_l214, q_l229, q_l244, q_l259, q_l300, q_l999, q_l1813, q_l2072, q_l10000, q_l65536, q_l1000000000, cS, ia]
        exact ih
  have k0 := key c gF 0 (by omega) (by unfold gF; omega)
  have e00 : lwM M o l 0 = M := by
    funext a i
    by_cases ha : a = o + 6
    · subst ha
      rw [lwM_s, if_neg (fun q => absurd q.1 (Nat.not_lt_zero _))]
    · rw [lwM_fr ha]
  rw [e00] at k0
  unfold f_X0_remove
  rw [s_hasRow hc h75 hj, Option.bind_some, if_neg (show ¬ gb true = 0 by decide)]
  exact k0
theorem rm_rows {M : gM} {o c j l : Nat} (hj : j < c) : tRows (shM (lwM M o l c) o j c) o (c - 1) = ((tRows M o c).eraseIdx j).map (lowT l) := by
  have g : ∀ i (h : i < (tRows M o c).length), (tRows M o c)[i] = tRow M o i := fun i h => by simp [tRows]
  apply List.ext_getElem
  · rw [List.length_map, List.length_eraseIdx, if_pos (by rw [tRows_len]; exact hj), tRows_len, tRows_len]
  · intro i h1 h2
    rw [tRows_len] at h1
    have e1 : (tRows (shM (lwM M o l c) o j c) o (c - 1))[i] = tRow (shM (lwM M o l c) o j c) o i := by simp [tRows]
    rw [e1, List.getElem_map, List.getElem_eraseIdx]
    by_cases hij : i < j
    · rw [dif_pos hij, g, ← lwM_row (show i < c by omega)]
      unfold tRow
      rw [shM_s (by omega), shM_s (by omega), shM_s (by omega), shM_s (by omega), shM_s (by omega), if_neg (by omega), if_neg (by omega), if_neg (by omega), if_neg (by omega), if_neg (by omega)]
    · rw [dif_neg hij, g, ← lwM_row (show i + 1 < c by omega)]
      unfold tRow
      rw [shM_s (by omega), shM_s (by omega), shM_s (by omega), shM_s (by omega), shM_s (by omega), if_pos (by omega), if_pos (by omega), if_pos (by omega), if_pos (by omega), if_pos (by omega)]
/-! the reference's three rows -/
def rgN (b l k j : Nat) : Prop := b + l ≤ j ∧ j < b + k
theorem m_shift {M : gM} {b l : Nat} {v : Int32} (hb : b + 15 ≤ 259) (h2 : 200 < b) (hl : l < 15) : ∃ n, f_X7_delivers_L31 (nI b) (nI l) v gF (nI l) M = some (n, gw M 151 (fun j => if b + l ≤ j ∧ j < b + 14 then M 151 (j + 1) else M 151 j)) := by
  have key : ∀ d n k, l ≤ k → k + d = max l 14 → d < n → ∃ q, f_X7_delivers_L31 (nI b) (nI l) v n (nI k) (gw M 151 (fun j => if b + l ≤ j ∧ j < b + k then M 151 (j + 1) else M 151 j)) = some (q, gw M 151 (fun j => if b + l ≤ j ∧ j < b + 14 then M 151 (j + 1) else M 151 j)) := by
    intro d
    induction d with
    | zero =>
      intro n k hlk hk hn
      obtain ⟨m, rfl⟩ : ∃ m, n = m + 1 := ⟨n - 1, by omega⟩
      have hk : k = 14 := by omega
      subst hk
      refine ⟨nI 14, ?_⟩
      rw [f_X7_delivers_L31]
      simp (disch := omega) only [↓reduceIte, eq_self, Bool.true_eq_false, Bool.false_eq_true, q_seqr, q_seql, v_ig, v_ni, v_le, v_nle, v_lt, v_nlt, v_eq, v_ne, v_gbt, v_gbf, v_gbd, v_m1lt, v_m1ge, v_m1ne, v_m1e, ↓q_bindD, ↓q_gLet, Option.isSome_some, Option.getD_some, nI_add, pk_mul, q_sub, q_m1, q_div, q_modN, nI_clamp, if_true, if_false, q_l0, q_l1, q_l2, q_l3, q_l4, q_l5, q_l6, q_l7, q_l8, q_l9, q_l10, q_l11, q_l12, q_l13, q_l14, q_l15, q_l16, q_l19, q_l20, q_l22, q_l24, q_l30, q_l32, q_l34, q_l36, q_l45, q_l47, q_l48, q_l57, q_l58, q_l59, q_l60, q_l61, q_l66, q_l75, q_l76, q_l94, q_l97, q_l99, q_l100, q_l101, q_l104, q_l105, q_l108, q_l109, q_l111, q_l114, q_l115, q_l116, q_l117, q_l118, q_l119, q_l120, q_l126, q_l132, q_l133, q_l135, q_l136, q_l138, q_l146, q_l147, q_l148, q_l149, q_l150, q_l151, q_l152, q_l153, q_l154, q_l155, q_l156, q_l157, q_l158, q_l214, q_l229, q_l244, q_l259, q_l300, q_l999, q_l1813, q_l2072, q_l10000, q_l65536, q_l1000000000]
    | succ d ih =>
      intro n k hlk hk hn
      obtain ⟨m, rfl⟩ : ∃ m, n = m + 1 := ⟨n - 1, by omega⟩
      obtain ⟨q, ih⟩ := ih m (k + 1) (by omega) (by omega) (by omega)
      refine ⟨q, ?_⟩
      have es : upd (fun j => if b + l ≤ j ∧ j < b + k then M 151 (j + 1) else M 151 j) (b + k) (if b + l ≤ b + k + 1 ∧ b + k + 1 < b + k then M 151 (b + k + 1 + 1) else M 151 (b + k + 1)) = (fun j => if b + l ≤ j ∧ j < b + (k + 1) then M 151 (j + 1) else M 151 j) := by
        funext j
        by_cases hj : j = b + k
        · subst hj
          rw [q_ups rfl, if_neg (by omega), if_pos (by omega)]
        · rw [q_upn hj]
          by_cases h : b + l ≤ j ∧ j < b + k
          · rw [if_pos h, if_pos (by omega)]
          · rw [if_neg h, if_neg (by omega)]
      rw [← es] at ih
      rw [f_X7_delivers_L31, q_l14, if_neg (nI_ge (show k < 14 by omega) (by omega))]
      simp (disch := omega) only [↓reduceIte, eq_self, Bool.true_eq_false, Bool.false_eq_true, q_seqr, q_seql, v_ig, v_ni, v_le, v_nle, v_lt, v_nlt, v_eq, v_ne, v_gbt, v_gbf, v_gbd, v_m1lt, v_m1ge, v_m1ne, v_m1e, ↓q_bindD, ↓q_gLet, Option.isSome_some, Option.getD_some, nI_add, pk_mul, q_sub, q_m1, q_div, q_modN, nI_clamp, if_true, if_false, q_l0, q_l1, q_l2, q_l3, q_l4, q_l5, q_l6, q_l7, q_l8, q_l9, q_l10, q_l11, q_l12, q_l13, q_l14, q_l15, q_l16, q_l19, q_l20, q_l22, q_l24, q_l30, q_l32, q_l34, q_l36, q_l45, q_l47, q_l48, q_l57, q_l58, q_l59, q_l60, q_l61, q_l66, q_l75, q_l76, q_l94, q_l97, q_l99, q_l100, q_l101, q_l104, q_l105, q_l108, q_l109, q_l111, q_l114, q_l115, q_l116, q_l117, q_l118, q_l119, q_l120, q_l126, q_l132, q_l133, q_l135, q_l136, q_l138, q_l146, q_l147, q_l148, q_l149, q_l150, q_l151, q_l152, q_l153, q_l154, q_l155, q_l156, q_l157, q_l158, q_l214, q_l229, q_l244, q_l259, q_l300, q_l999, q_l1813, q_l2072, q_l10000, q_l65536, q_l1000000000, q_gs151, gw_same, gw_gw]
      exact ih
  obtain ⟨q, h⟩ := key (max l 14 - l) gF l (Nat.le_refl _) (by omega) (by unfold gF; omega)
  have e0 : (fun j => if b + l ≤ j ∧ j < b + l then M 151 (j + 1) else M 151 j) = M 151 := by
    funext j
    rw [if_neg (by omega)]
  rw [e0, gw_id] at h
  exact ⟨q, h⟩
theorem m_deliver1 {M : gM} (w : gRow β r) (hM : M 151 = r) {l : Nat} {v : Int32} (hl : l < yN r) (hp : f_X7_placeOf v M = some (nI l)) : f_X7_delivers v M = some (nI (yN r - 1), gs (gw M 151 (dlR r l)) 150 13 (nI 0)) := by
  have hy := w.y
  obtain ⟨A1, hA1⟩ : ∃ A1 : Nat → Int32, A1 = fun j => if 214 + l ≤ j ∧ j < 214 + 14 then r (j + 1) else r j := ⟨_, rfl⟩
  obtain ⟨A2, hA2⟩ : ∃ A2 : Nat → Int32, A2 = fun j => if 229 + l ≤ j ∧ j < 229 + 14 then A1 (j + 1) else A1 j := ⟨_, rfl⟩
  obtain ⟨A3, hA3⟩ : ∃ A3 : Nat → Int32, A3 = fun j => if 244 + l ≤ j ∧ j < 244 + 14 then A2 (j + 1) else A2 j := ⟨_, rfl⟩
  obtain ⟨n1, s1⟩ := m_shift (M := M) (b := 214) (l := l) (v := v) (by omega) (by omega) (by omega)
  rw [hM, ← hA1] at s1
  obtain ⟨n2, s2⟩ := m_shift (M := gw M 151 A1) (b := 229) (l := l) (v := v) (by omega) (by omega) (by omega)
  rw [gw_same, gw_gw, ← hA2] at s2
  obtain ⟨n3, s3⟩ := m_shift (M := gw M 151 A2) (b := 244) (l := l) (v := v) (by omega) (by omega) (by omega)
  rw [gw_same, gw_gw, ← hA3] at s3
  have eD : A3 = dlY r l := by
    rw [hA3]
    funext j
    unfold dlY
    by_cases h3 : 244 + l ≤ j ∧ j < 258
    · rw [if_pos (by omega), if_pos (by omega), hA2]
      show (if _ then _ else _) = _
      rw [if_neg (by omega), hA1]
      show (if _ then _ else _) = _
      rw [if_neg (by omega)]
    · rw [if_neg (by omega), hA2]
      show (if _ then _ else _) = _
      by_cases h2 : 229 + l ≤ j ∧ j < 243
      · rw [if_pos (by omega), if_pos (by omega), hA1]
        show (if _ then _ else _) = _
        rw [if_neg (by omega)]
      · rw [if_neg (by omega), hA1]
        show (if _ then _ else _) = _
        by_cases h1 : 214 + l ≤ j ∧ j < 228
        · rw [if_pos (by omega), if_pos (by omega)]
        · rw [if_neg (by omega), if_neg (by omega)]
  have e6 : A3 6 = nI (yN r) := by
    rw [eD]
    unfold dlY
    rw [if_neg (by omega)]
    exact hy.1
  have e4 : A3 4 = r 4 := by
    rw [eD]
    unfold dlY
    rw [if_neg (by omega)]
  obtain ⟨F, hF⟩ : ∃ F, gF = F + 4 := ⟨3996, rfl⟩
  have L4 : f_X7_delivers_L21 (nI l) v (F + 1) (nI 259) (gw M 151 A3) = some (nI (yN r - 1), gs (gw M 151 (dlR r l)) 150 13 (nI 0)) := by
    rw [f_X7_delivers_L21]
    simp (disch := omega) only [↓reduceIte, eq_self, Bool.true_eq_false, Bool.false_eq_true, q_seqr, q_seql, v_ig, v_ni, v_le, v_nle, v_lt, v_nlt, v_eq, v_ne, v_gbt, v_gbf, v_gbd, v_m1lt, v_m1ge, v_m1ne, v_m1e, ↓q_bindD, ↓q_gLet, Option.isSome_some, Option.getD_some, nI_add, pk_mul, q_sub, q_m1, q_div, q_modN, nI_clamp, if_true, if_false, q_l0, q_l1, q_l2, q_l3, q_l4, q_l5, q_l6, q_l7, q_l8, q_l9, q_l10, q_l11, q_l12, q_l13, q_l14, q_l15, q_l16, q_l19, q_l20, q_l22, q_l24, q_l30, q_l32, q_l34, q_l36, q_l45, q_l47, q_l48, q_l57, q_l58, q_l59, q_l60, q_l61, q_l66, q_l75, q_l76, q_l94, q_l97, q_l99, q_l100, q_l101, q_l104, q_l105, q_l108, q_l109, q_l111, q_l114, q_l115, q_l116, q_l117, q_l118, q_l119, q_l120, q_l126, q_l132, q_l133, q_l135, q_l136, q_l138, q_l146, q_l147, q_l148, q_l149, q_l150, q_l151, q_l152, q_l153, q_l154, q_l155, q_l156, q_l157, q_l158, q_l214, q_l229, q_l244, q_l259, q_l300, q_l999, q_l1813, q_l2072, q_l10000, q_l65536, q_l1000000000, m_done, m_fails, m_thrown, m_th, gs_same, q_gsgs, c_raise0, c_raise1, c_raise2, c_raise3, c_raise4, q_gs151, gw_same, gw_gw, q_ups, q_upn, e6, e4]
    rw [eD]
    rfl
  have L3 : f_X7_delivers_L21 (nI l) v (F + 2) (nI 244) (gw M 151 A2) = some (nI (yN r - 1), gs (gw M 151 (dlR r l)) 150 13 (nI 0)) := by
    rw [f_X7_delivers_L21, q_l259, if_neg (nI_ge (by omega) (by omega)), s3, Option.bind_some, q_l15, nI_add]
    exact L4
  have L2 : f_X7_delivers_L21 (nI l) v (F + 3) (nI 229) (gw M 151 A1) = some (nI (yN r - 1), gs (gw M 151 (dlR r l)) 150 13 (nI 0)) := by
    rw [f_X7_delivers_L21, q_l259, if_neg (nI_ge (by omega) (by omega)), s2, Option.bind_some, q_l15, nI_add]
    exact L3
  have L1 : f_X7_delivers_L21 (nI l) v gF (nI 214) M = some (nI (yN r - 1), gs (gw M 151 (dlR r l)) 150 13 (nI 0)) := by
    rw [hF, f_X7_delivers_L21, q_l259, if_neg (nI_ge (by omega) (by omega)), s1, Option.bind_some, q_l15, nI_add]
    exact L2
  have hne : ¬ nI l = -1 := fun q => by
    rw [show (-1 : Int32) = -nI 1 from rfl, v_m1ne (by omega)] at q
    exact q
  unfold f_X7_delivers
  rw [hp, Option.bind_some, if_neg hne, q_l214]
  exact L1
theorem pl_congr {M M' : gM} (h : M 151 = M' 151) (v : Int32) : f_X7_placeOf v M = f_X7_placeOf v M' := by
  have key : ∀ n k, f_X7_placeOf_L2 M v n k = f_X7_placeOf_L2 M' v n k := by
    intro n
    induction n with
    | zero => intro k; rfl
    | succ n ih =>
      intro k
      rw [f_X7_placeOf_L2, f_X7_placeOf_L2, h, ih]
  unfold f_X7_placeOf
  exact key gF 0
theorem m_place (w : gRow β r) (v : Int32) : (∃ l, l < yN r ∧ ∀ M, M 151 = r → f_X7_placeOf v M = some (nI l)) ∨ (∀ M, M 151 = r → f_X7_placeOf v M = some (-nI 1)) := by
  have hy := w.y
  obtain ⟨M0, h0⟩ : ∃ M0 : gM, M0 151 = r := ⟨fun _ => r, rfl⟩
  have h := lp_find (fun n k => f_X7_placeOf_L2 M0 v n k) (fun k => decide (r (214 + k) = v)) (fun k => nI k) (-nI 1) (yN r) (fun n k hk => by
    show f_X7_placeOf_L2 M0 v (n + 1) (nI k) = _
    rw [f_X7_placeOf_L2, h0]
    simp (disch := omega) only [↓reduceIte, eq_self, Bool.true_eq_false, Bool.false_eq_true, q_seqr, q_seql, v_ig, v_ni, v_le, v_nle, v_lt, v_nlt, v_eq, v_ne, v_gbt, v_gbf, v_gbd, v_m1lt, v_m1ge, v_m1ne, v_m1e, ↓q_bindD, ↓q_gLet, Option.isSome_some, Option.getD_some, nI_add, pk_mul, q_sub, q_m1, q_div, q_modN, nI_clamp, if_true, if_false, q_l0, q_l1, q_l2, q_l3, q_l4, q_l5, q_l6, q_l7, q_l8, q_l9, q_l10, q_l11, q_l12, q_l13, q_l14, q_l15, q_l16, q_l19, q_l20, q_l22, q_l24, q_l30, q_l32, q_l34, q_l36, q_l45, q_l47, q_l48, q_l57, q_l58, q_l59, q_l60, q_l61, q_l66, q_l75, q_l76, q_l94, q_l97, q_l99, q_l100, q_l101, q_l104, q_l105, q_l108, q_l109, q_l111, q_l114, q_l115, q_l116, q_l117, q_l118, q_l119, q_l120, q_l126, q_l132, q_l133, q_l135, q_l136, q_l138, q_l146, q_l147, q_l148, q_l149, q_l150, q_l151, q_l152, q_l153, q_l154, q_l155, q_l156, q_l157, q_l158, q_l214, q_l229, q_l244, q_l259, q_l300, q_l999, q_l1813, q_l2072, q_l10000, q_l65536, q_l1000000000, hy.1]
    by_cases e : r (214 + k) = v
    · simp [e]
    · simp [e]) (fun n => by
    show f_X7_placeOf_L2 M0 v (n + 1) (nI (yN r)) = _
    rw [f_X7_placeOf_L2, h0]
    simp (disch := omega) only [↓reduceIte, eq_self, Bool.true_eq_false, Bool.false_eq_true, q_seqr, q_seql, v_ig, v_ni, v_le, v_nle, v_lt, v_nlt, v_eq, v_ne, v_gbt, v_gbf, v_gbd, v_m1lt, v_m1ge, v_m1ne, v_m1e, ↓q_bindD, ↓q_gLet, Option.isSome_some, Option.getD_some, nI_add, pk_mul, q_sub, q_m1, q_div, q_modN, nI_clamp, if_true, if_false, q_l0, q_l1, q_l2, q_l3, q_l4, q_l5, q_l6, q_l7, q_l8, q_l9, q_l10, q_l11, q_l12, q_l13, q_l14, q_l15, q_l16, q_l19, q_l20, q_l22, q_l24, q_l30, q_l32, q_l34, q_l36, q_l45, q_l47, q_l48, q_l57, q_l58, q_l59, q_l60, q_l61, q_l66, q_l75, q_l76, q_l94, q_l97, q_l99, q_l100, q_l101, q_l104, q_l105, q_l108, q_l109, q_l111, q_l114, q_l115, q_l116, q_l117, q_l118, q_l119, q_l120, q_l126, q_l132, q_l133, q_l135, q_l136, q_l138, q_l146, q_l147, q_l148, q_l149, q_l150, q_l151, q_l152, q_l153, q_l154, q_l155, q_l156, q_l157, q_l158, q_l214, q_l229, q_l244, q_l259, q_l300, q_l999, q_l1813, q_l2072, q_l10000, q_l65536, q_l1000000000, hy.1]) (by omega)
  rcases h with ⟨l, hl, hp, hb, h⟩ | ⟨hb, h⟩
  · refine Or.inl ⟨l, hl, fun M hM => ?_⟩
    rw [pl_congr (M' := M0) (by rw [hM, h0])]
    unfold f_X7_placeOf
    rw [show (0 : Int32) = nI 0 from rfl]
    exact h
  · refine Or.inr (fun M hM => ?_)
    rw [pl_congr (M' := M0) (by rw [hM, h0])]
    unfold f_X7_placeOf
    rw [show (0 : Int32) = nI 0 from rfl]
    exact h
theorem T_deliver (w : gRow β r) (hβ : β ≤ 590) (v : Int32) : gCmd β r (fun o M => f_X5_deliveringFault o v M) (fun o M => (f_X5_handOver o v M).bind fun M1 => (f_X0_height o (nI 12) M1).bind fun h => some (h, M1)) (fun o M => f_X5_handOver o v M) (fun M => f_X7_delivers v M) (fun _ => 1) kN := by
  have nn : ∀ {k : Nat}, k < 2 ^ 31 → nI k ≠ -nI 1 := fun hk q => by
    rw [v_m1ne hk] at q
    exact q
  rcases m_place w v with ⟨l, hl, pl⟩ | pl
  · have w' := dlR_row w (by omega) hl
    have h15 := w.y.2
    have cs : ∀ M o, gSim M o r → ∃ c j, M (o + 1) 6 = nI c ∧ c ≤ 75 ∧ (tRows M o c).Perm (tAll r) ∧ (tRows M o c).Pairwise (fun x y => x.1 < y.1) ∧ j < c ∧ tRow M o j = tYd r l ∧ f_X0_yardRowOf o v M = some (nI j) ∧ ∀ M', M' 151 = r → f_X7_placeOf v M' = some (nI l) := fun M o g => by
      obtain ⟨c, hc, h75, hP, hpw, hcs⟩ := idCases g w v
      have pq := pl (gw M 151 r) (gw_same _ _ _)
      rcases hcs with ⟨q, j, -, -, -, -, -, -, -, -, hm⟩ | ⟨l', j, hl', hj, ht, -, -, -, hyr, hm⟩ | ⟨-, -, -, -, hm⟩
      · rw [(hm (gw M 151 r) (gw_same _ _ _)).2] at pq
        exact absurd (Option.some.inj pq).symm (nn (by omega))
      · rw [(hm (gw M 151 r) (gw_same _ _ _)).2] at pq
        have := (nI_eq (by omega) (by omega)).mp (Option.some.inj pq)
        subst this
        exact ⟨c, j, hc, h75, hP, hpw, hj, ht, hyr, pl⟩
      · rw [(hm (gw M 151 r) (gw_same _ _ _)).2] at pq
        exact absurd (Option.some.inj pq).symm (nn (by omega))
    refine Or.inr ⟨dlR r l, nI (yN r - 1), w', fun M o g => ?_, fun M hM => ?_⟩
    · obtain ⟨c, j, hc, h75, hP, hpw, hj, ht, hyr, -⟩ := cs M o g
      obtain ⟨hP', hA⟩ := dlR_all w hl
      have e5 : M (o + 5) j = nI 12 := congrArg (fun t => t.2.2.2.1) ht
      have e6 : M (o + 6) j = nI l := congrArg (fun t => t.2.2.2.2) ht
      have rm := c_remove hc h75 hj e5 e6 (by omega)
      obtain ⟨M1, hM1⟩ : ∃ M1, M1 = gs (gs (shM (lwM M o l c) o j c) (o + 1) 6 (nI (c - 1))) o 9 (r 4 + nI 1) := ⟨_, rfl⟩
      have fr : ∀ a, a < o ∨ o + 7 ≤ a → M1 a = M a := fun a ha => by
        rw [hM1, q_gsn (by omega), q_gsn (by omega), shM_fr (by omega), lwM_fr (by omega)]
      have f0 : ∀ i, i ≠ 9 → M1 o i = M o i := fun i hi => by
        rw [hM1, q_gsk hi, q_gsn (by omega), shM_fr (by omega), lwM_fr (by omega)]
      have e9 : M o 9 = r 4 := g.1.2.2.2.2.1
      have e9' : shM (lwM M o l c) o j c o 9 = r 4 := by rw [shM_fr (by omega), lwM_fr (by omega), e9]
      have hd : f_X5_handOver o v M = some M1 := by
        rw [hM1]
        unfold f_X5_handOver
        simp (disch := omega) only [↓reduceIte, eq_self, Bool.true_eq_false, Bool.false_eq_true, q_seqr, q_seql, v_ig, v_ni, v_le, v_nle, v_lt, v_nlt, v_eq, v_ne, v_gbt, v_gbf, v_gbd, v_m1lt, v_m1ge, v_m1ne, v_m1e, ↓q_bindD, ↓q_gLet, Option.isSome_some, Option.getD_some, nI_add, pk_mul, q_sub, q_m1, q_div, q_modN, nI_clamp, if_true, if_false, q_l0, q_l1, q_l2, q_l3, q_l4, q_l5, q_l6, q_l7, q_l8, q_l9, q_l10, q_l11, q_l12, q_l13, q_l14, q_l15, q_l16, q_l19, q_l20, q_l22, q_l24, q_l30, q_l32, q_l34, q_l36, q_l45, q_l47, q_l48, q_l57, q_l58, q_l59, q_l60, q_l61, q_l66, q_l75, q_l76, q_l94, q_l97, q_l99, q_l100, q_l101, q_l104, q_l105, q_l108, q_l109, q_l111, q_l114, q_l115, q_l116, q_l117, q_l118, q_l119, q_l120, q_l126, q_l132, q_l133, q_l135, q_l136, q_l138, q_l146, q_l147, q_l148, q_l149, q_l150, q_l151, q_l152, q_l153, q_l154, q_l155, q_l156, q_l157, q_l158, q_l214, q_l229, q_l244, q_l259, q_l300, q_l999, q_l1813, q_l2072, q_l10000, q_l65536, q_l1000000000, hyr, rm, q_gsn, e9']
      have g' : gSim M1 o (dlR r l) := by
        refine gSim_list (c := c - 1) g (fun a h1 h2 => fr a (by omega)) (fun i hi => dlR_o (by omega) (by omega) (by omega)) ?_ ?_ (by omega) ?_ ?_
        · rw [f0 5 (by omega), f0 6 (by omega), f0 7 (by omega), f0 8 (by omega), f0 10 (by omega), dlR_o (j := 0) (by omega) (by omega) (by omega), dlR_o (j := 1) (by omega) (by omega) (by omega), dlR_o (j := 2) (by omega) (by omega) (by omega), dlR_o (j := 3) (by omega) (by omega) (by omega), dlR_o (j := 5) (by omega) (by omega) (by omega), dlR_4, hM1, q_gss rfl]
          exact ⟨g.1.1, g.1.2.1, g.1.2.2.1, g.1.2.2.2.1, rfl, g.1.2.2.2.2.2⟩
        · rw [hM1, q_gsn (by omega), q_gss rfl]
        · have er : tRows M1 o (c - 1) = ((tRows M o c).eraseIdx j).map (lowT l) := by
            rw [← rm_rows hj, hM1, tRows_frame (fun a h1 h2 => q_gsn (by omega)), tRows_frame (fun a h1 h2 => q_gsn (by omega))]
          rw [er, hA]
          have e1 := q_permGet (tRows M o c) j (tYd r l) (by rw [tRows_get hj, ht])
          exact ((e1.symm.trans (hP.trans hP')).cons_inv).map _
        · have er : tRows M1 o (c - 1) = ((tRows M o c).eraseIdx j).map (lowT l) := by
            rw [← rm_rows hj, hM1, tRows_frame (fun a h1 h2 => q_gsn (by omega)), tRows_frame (fun a h1 h2 => q_gsn (by omega))]
          rw [er, List.pairwise_map]
          refine (hpw.sublist (List.eraseIdx_sublist _ _)).imp (fun {a b} hab => ?_)
          rw [lowT_1, lowT_1]
          exact hab
      have hh := sim_yard g' w'
      rw [dlR_6] at hh
      refine ⟨?_, M1, ?_, hd, fun a ha => fr a (by omega), g'⟩
      · unfold f_X5_deliveringFault
        simp (disch := omega) only [↓reduceIte, eq_self, Bool.true_eq_false, Bool.false_eq_true, q_seqr, q_seql, v_ig, v_ni, v_le, v_nle, v_lt, v_nlt, v_eq, v_ne, v_gbt, v_gbf, v_gbd, v_m1lt, v_m1ge, v_m1ne, v_m1e, ↓q_bindD, ↓q_gLet, Option.isSome_some, Option.getD_some, nI_add, pk_mul, q_sub, q_m1, q_div, q_modN, nI_clamp, if_true, if_false, q_l0, q_l1, q_l2, q_l3, q_l4, q_l5, q_l6, q_l7, q_l8, q_l9, q_l10, q_l11, q_l12, q_l13, q_l14, q_l15, q_l16, q_l19, q_l20, q_l22, q_l24, q_l30, q_l32, q_l34, q_l36, q_l45, q_l47, q_l48, q_l57, q_l58, q_l59, q_l60, q_l61, q_l66, q_l75, q_l76, q_l94, q_l97, q_l99, q_l100, q_l101, q_l104, q_l105, q_l108, q_l109, q_l111, q_l114, q_l115, q_l116, q_l117, q_l118, q_l119, q_l120, q_l126, q_l132, q_l133, q_l135, q_l136, q_l138, q_l146, q_l147, q_l148, q_l149, q_l150, q_l151, q_l152, q_l153, q_l154, q_l155, q_l156, q_l157, q_l158, q_l214, q_l229, q_l244, q_l259, q_l300, q_l999, q_l1813, q_l2072, q_l10000, q_l65536, q_l1000000000, hyr]
      · show (f_X5_handOver o v M).bind (fun M1 => (f_X0_height o (nI 12) M1).bind fun h => some (h, M1)) = _
        rw [hd, Option.bind_some, hh, Option.bind_some]
    · exact m_deliver1 w hM hl (pl M hM)
  · refine Or.inl ⟨4, by omega, ⟨rfl, by decide⟩, fun M o g => ?_, fun M hM => ?_⟩
    · have pq := pl (gw M 151 r) (gw_same _ _ _)
      obtain ⟨c, hc, h75, hP, hpw, hcs⟩ := idCases g w v
      have hyr : f_X0_yardRowOf o v M = some (-nI 1) := by
        rcases hcs with ⟨q, j, -, -, -, -, -, -, -, hyr, -⟩ | ⟨l', j, hl', hj, ht, -, -, -, hyr, hm⟩ | ⟨-, -, hyr, -, -⟩
        · exact hyr
        · rw [(hm (gw M 151 r) (gw_same _ _ _)).2] at pq
          have h15 := w.y.2
          exact absurd (Option.some.inj pq) (nn (by omega))
        · exact hyr
      unfold f_X5_deliveringFault
      simp (disch := omega) only [↓reduceIte, eq_self, Bool.true_eq_false, Bool.false_eq_true, q_seqr, q_seql, v_ig, v_ni, v_le, v_nle, v_lt, v_nlt, v_eq, v_ne, v_gbt, v_gbf, v_gbd, v_m1lt, v_m1ge, v_m1ne, v_m1e, ↓q_bindD, ↓q_gLet, Option.isSome_some, Option.getD_some, nI_add, pk_mul, q_sub, q_m1, q_div, q_modN, nI_clamp, if_true, if_false, q_l0, q_l1, q_l2, q_l3, q_l4, q_l5, q_l6, q_l7, q_l8, q_l9, q_l10, q_l11, q_l12, q_l13, q_l14, q_l15, q_l16, q_l19, q_l20, q_l22, q_l24, q_l30, q_l32, q_l34, q_l36, q_l45, q_l47, q_l48, q_l57, q_l58, q_l59, q_l60, q_l61, q_l66, q_l75, q_l76, q_l94, q_l97, q_l99, q_l100, q_l101, q_l104, q_l105, q_l108, q_l109, q_l111, q_l114, q_l115, q_l116, q_l117, q_l118, q_l119, q_l120, q_l126, q_l132, q_l133, q_l135, q_l136, q_l138, q_l146, q_l147, q_l148, q_l149, q_l150, q_l151, q_l152, q_l153, q_l154, q_l155, q_l156, q_l157, q_l158, q_l214, q_l229, q_l244, q_l259, q_l300, q_l999, q_l1813, q_l2072, q_l10000, q_l65536, q_l1000000000, hyr]
    · unfold f_X7_delivers
      have := pl M hM
      simp (disch := omega) only [↓reduceIte, eq_self, Bool.true_eq_false, Bool.false_eq_true, q_seqr, q_seql, v_ig, v_ni, v_le, v_nle, v_lt, v_nlt, v_eq, v_ne, v_gbt, v_gbf, v_gbd, v_m1lt, v_m1ge, v_m1ne, v_m1e, ↓q_bindD, ↓q_gLet, Option.isSome_some, Option.getD_some, nI_add, pk_mul, q_sub, q_m1, q_div, q_modN, nI_clamp, if_true, if_false, q_l0, q_l1, q_l2, q_l3, q_l4, q_l5, q_l6, q_l7, q_l8, q_l9, q_l10, q_l11, q_l12, q_l13, q_l14, q_l15, q_l16, q_l19, q_l20, q_l22, q_l24, q_l30, q_l32, q_l34, q_l36, q_l45, q_l47, q_l48, q_l57, q_l58, q_l59, q_l60, q_l61, q_l66, q_l75, q_l76, q_l94, q_l97, q_l99, q_l100, q_l101, q_l104, q_l105, q_l108, q_l109, q_l111, q_l114, q_l115, q_l116, q_l117, q_l118, q_l119, q_l120, q_l126, q_l132, q_l133, q_l135, q_l136, q_l138, q_l146, q_l147, q_l148, q_l149, q_l150, q_l151, q_l152, q_l153, q_l154, q_l155, q_l156, q_l157, q_l158, q_l214, q_l229, q_l244, q_l259, q_l300, q_l999, q_l1813, q_l2072, q_l10000, q_l65536, q_l1000000000, m_done, m_fails, m_thrown, m_th, gs_same, q_gsgs, c_raise0, c_raise1, c_raise2, c_raise3, c_raise4, this]
end TD
