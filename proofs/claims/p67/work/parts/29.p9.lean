/-! What a state's tie looks at; digging on a copy. -/
theorem tRows_frame {M M' : gM} {o c : Nat} (h : ∀ a, o + 2 ≤ a → a ≤ o + 6 → M' a = M a) : tRows M' o c = tRows M o c := by
  unfold tRows
  apply List.map_congr_left
  intro j _
  unfold tRow
  rw [h (o + 2) (by omega) (by omega), h (o + 3) (by omega) (by omega), h (o + 4) (by omega) (by omega), h (o + 5) (by omega) (by omega), h (o + 6) (by omega) (by omega)]
theorem gSim.frame {M M' : gM} {o : Nat} {r : Nat → Int32} (h : ∀ a, o ≤ a → a < o + 12 → a ≠ o + 7 → M' a = M a) (g : gSim M o r) : gSim M' o r := by
  obtain ⟨g1, g2, g3, c, g4, g5, g6, g7⟩ := g
  have e : tRows M' o c = tRows M o c := tRows_frame (fun a h1 h2 => h a (by omega) (by omega) (by omega))
  refine ⟨?_, fun b hb => ?_, fun b hb => ?_, c, ?_, g5, ?_, ?_⟩
  · rw [h o (by omega) (by omega) (by omega)]; exact g1
  · rw [h (o + 8) (by omega) (by omega) (by omega), h (o + 9) (by omega) (by omega) (by omega)]; exact g2 b hb
  · rw [h (o + 10) (by omega) (by omega) (by omega), h (o + 11) (by omega) (by omega) (by omega)]; exact g3 b hb
  · rw [h (o + 1) (by omega) (by omega) (by omega)]; exact g4
  · rw [e]; exact g6
  · rw [e]; exact g7
section PD
variable {M : gM} {o : Nat} {r : Nat → Int32} {β : Nat}
theorem c_copyStack (g : gSim M o r) (w : gRow β r) {p : Nat} (hp : p < 12) : ∃ M', (∀ a, a ≠ o + 7 → M' a = M a) ∧ (∀ i, i < hN r p → M' (o + 7) i = r (34 + (5 * p + i))) ∧ f_X0_copyStack o (nI p) M = some (nI (hN r p), M') := by
  obtain ⟨c, hc, h75, hP, -⟩ := g.rows
  have hh := sim_height g w hp
  rw [(w.h hp).1] at hh
  have h5 := (w.h hp).2
  obtain ⟨M', ⟨hI1, hI2⟩, -, h⟩ := lp_fold (fun n k a => f_X0_copyStack_L8 o (nI (hN r p)) (nI p) n k a) (fun a => (nI (hN r p), a)) (fun k a => gs a (o + 7) k (r (34 + (5 * p + k)))) (fun k a => (∀ b, b ≠ o + 7 → a b = M b) ∧ (∀ i, i < k → a (o + 7) i = r (34 + (5 * p + i)))) (hN r p) (fun n k a hk hI => by
    obtain ⟨i1, i2⟩ := hI
    have ga : gSim a o r := g.frame (fun b _ _ hb => i1 b hb)
    have hca : a (o + 1) 6 = nI c := by rw [i1 (o + 1) (by omega)]; exact hc
    have hPa : (tRows a o c).Perm (tAll r) := by rw [tRows_frame (fun b h1 h2 => i1 b (by omega))]; exact hP
    obtain ⟨j, hj, ht, hr⟩ := sim_cell ga w hca h75 hPa hp hk
    have e : a (o + 2) j = r (34 + (5 * p + k)) := congrArg Prod.fst ht
    refine ⟨?_, fun b hb => by rw [gs_nea hb]; exact i1 b hb, fun i hi => ?_⟩
    · show f_X0_copyStack_L8 o (nI (hN r p)) (nI p) (n + 1) (nI k) a = _
      rw [f_X0_copyStack_L8]
      simp (disch := omega) only [q_seqr, q_seql, q_ig, q_ni, q_le, q_nle, q_lt, q_nlt, q_eq, q_ne, q_eqr, q_gbt, q_gbf, q_gbd, q_m1lt, q_m1ge, q_m1ne, q_m1eq, q_m1e, Option.bind_some, gLet, nI_add, pk_mul, q_sub, q_m1, q_div, q_modN, nI_clamp, if_true, if_false, Bool.false_eq_true, q_l0, q_l1, q_l2, q_l3, q_l4, q_l5, q_l6, q_l7, q_l8, q_l9, q_l10, q_l11, q_l12, q_l13, q_l14, q_l15, q_l16, q_l19, q_l20, q_l22, q_l24, q_l30, q_l32, q_l34, q_l36, q_l45, q_l47, q_l48, q_l57, q_l58, q_l59, q_l60, q_l61, q_l66, q_l75, q_l76, q_l94, q_l97, q_l99, q_l100, q_l101, q_l104, q_l105, q_l108, q_l109, q_l111, q_l114, q_l115, q_l116, q_l117, q_l118, q_l119, q_l120, q_l126, q_l132, q_l133, q_l135, q_l136, q_l138, q_l146, q_l147, q_l148, q_l149, q_l150, q_l151, q_l152, q_l153, q_l154, q_l155, q_l156, q_l157, q_l158, q_l214, q_l229, q_l244, q_l259, q_l300, q_l999, q_l1813, q_l2072, q_l10000, q_l65536, q_l1000000000, hr, s_id hca h75 hj, e]
    · by_cases hik : i = k
      · subst hik
        exact gs_same _ _ _ _
      · rw [gs_nek hik]
        exact i2 i (by omega)) (fun n a hI => by
    show f_X0_copyStack_L8 o (nI (hN r p)) (nI p) (n + 1) (nI (hN r p)) a = _
    rw [f_X0_copyStack_L8]
    simp (disch := omega) only [q_seqr, q_seql, q_ig, q_ni, q_le, q_nle, q_lt, q_nlt, q_eq, q_ne, q_eqr, q_gbt, q_gbf, q_gbd, q_m1lt, q_m1ge, q_m1ne, q_m1eq, q_m1e, Option.bind_some, gLet, nI_add, pk_mul, q_sub, q_m1, q_div, q_modN, nI_clamp, if_true, if_false, Bool.false_eq_true, q_l0, q_l1, q_l2, q_l3, q_l4, q_l5, q_l6, q_l7, q_l8, q_l9, q_l10, q_l11, q_l12, q_l13, q_l14, q_l15, q_l16, q_l19, q_l20, q_l22, q_l24, q_l30, q_l32, q_l34, q_l36, q_l45, q_l47, q_l48, q_l57, q_l58, q_l59, q_l60, q_l61, q_l66, q_l75, q_l76, q_l94, q_l97, q_l99, q_l100, q_l101, q_l104, q_l105, q_l108, q_l109, q_l111, q_l114, q_l115, q_l116, q_l117, q_l118, q_l119, q_l120, q_l126, q_l132, q_l133, q_l135, q_l136, q_l138, q_l146, q_l147, q_l148, q_l149, q_l150, q_l151, q_l152, q_l153, q_l154, q_l155, q_l156, q_l157, q_l158, q_l214, q_l229, q_l244, q_l259, q_l300, q_l999, q_l1813, q_l2072, q_l10000, q_l65536, q_l1000000000]) (hN r p) gF 0 M (by omega) (by unfold gF; omega) ⟨fun _ _ => rfl, fun i hi => by omega⟩
  refine ⟨M', hI1, hI2, ?_⟩
  unfold f_X0_copyStack
  simp (disch := omega) only [q_seqr, q_seql, q_ig, q_ni, q_le, q_nle, q_lt, q_nlt, q_eq, q_ne, q_eqr, q_gbt, q_gbf, q_gbd, q_m1lt, q_m1ge, q_m1ne, q_m1eq, q_m1e, Option.bind_some, gLet, nI_add, pk_mul, q_sub, q_m1, q_div, q_modN, nI_clamp, if_true, if_false, Bool.false_eq_true, q_l0, q_l1, q_l2, q_l3, q_l4, q_l5, q_l6, q_l7, q_l8, q_l9, q_l10, q_l11, q_l12, q_l13, q_l14, q_l15, q_l16, q_l19, q_l20, q_l22, q_l24, q_l30, q_l32, q_l34, q_l36, q_l45, q_l47, q_l48, q_l57, q_l58, q_l59, q_l60, q_l61, q_l66, q_l75, q_l76, q_l94, q_l97, q_l99, q_l100, q_l101, q_l104, q_l105, q_l108, q_l109, q_l111, q_l114, q_l115, q_l116, q_l117, q_l118, q_l119, q_l120, q_l126, q_l132, q_l133, q_l135, q_l136, q_l138, q_l146, q_l147, q_l148, q_l149, q_l150, q_l151, q_l152, q_l153, q_l154, q_l155, q_l156, q_l157, q_l158, q_l214, q_l229, q_l244, q_l259, q_l300, q_l999, q_l1813, q_l2072, q_l10000, q_l65536, q_l1000000000, hh]
  exact h
theorem c_digL {M' : gM} {j q h : Nat} {x : Int32} (f : Nat → Int32) (hid : f_X0_id o (nI j) M' = some x) (i2 : ∀ i, i < h → M' (o + 7) i = f i) (h5 : h ≤ 5) (hq : q < h) (hfq : f q = x) (uniq : ∀ i, i < h → f i = x → i = q) :
    ∀ d n k, k + d = h - 1 - q → d < n → f_X0_digOnCopy_L12 o (nI j) n (nI k) (nI (h - k)) M' = some (nI (h - 1 - q), M') := by
  intro d
  induction d with
  | zero =>
    intro n k hk hn
    obtain ⟨m, rfl⟩ : ∃ m, n = m + 1 := ⟨n - 1, by omega⟩
    rw [f_X0_digOnCopy_L12]
    have e : h - k - 1 = q := by omega
    simp (disch := omega) only [q_seqr, q_seql, q_ig, q_ni, q_le, q_nle, q_lt, q_nlt, q_eq, q_ne, q_eqr, q_gbt, q_gbf, q_gbd, q_m1lt, q_m1ge, q_m1ne, q_m1eq, q_m1e, Option.bind_some, gLet, nI_add, pk_mul, q_sub, q_m1, q_div, q_modN, nI_clamp, if_true, if_false, Bool.false_eq_true, q_l0, q_l1, q_l2, q_l3, q_l4, q_l5, q_l6, q_l7, q_l8, q_l9, q_l10, q_l11, q_l12, q_l13, q_l14, q_l15, q_l16, q_l19, q_l20, q_l22, q_l24, q_l30, q_l32, q_l34, q_l36, q_l45, q_l47, q_l48, q_l57, q_l58, q_l59, q_l60, q_l61, q_l66, q_l75, q_l76, q_l94, q_l97, q_l99, q_l100, q_l101, q_l104, q_l105, q_l108, q_l109, q_l111, q_l114, q_l115, q_l116, q_l117, q_l118, q_l119, q_l120, q_l126, q_l132, q_l133, q_l135, q_l136, q_l138, q_l146, q_l147, q_l148, q_l149, q_l150, q_l151, q_l152, q_l153, q_l154, q_l155, q_l156, q_l157, q_l158, q_l214, q_l229, q_l244, q_l259, q_l300, q_l999, q_l1813, q_l2072, q_l10000, q_l65536, q_l1000000000, hid, i2 (h - k - 1) (by omega)]
    rw [e, hfq, if_pos rfl, show k = h - 1 - q by omega]
  | succ d ih =>
    intro n k hk hn
    obtain ⟨m, rfl⟩ : ∃ m, n = m + 1 := ⟨n - 1, by omega⟩
    rw [f_X0_digOnCopy_L12]
    simp (disch := omega) only [q_seqr, q_seql, q_ig, q_ni, q_le, q_nle, q_lt, q_nlt, q_eq, q_ne, q_eqr, q_gbt, q_gbf, q_gbd, q_m1lt, q_m1ge, q_m1ne, q_m1eq, q_m1e, Option.bind_some, gLet, nI_add, pk_mul, q_sub, q_m1, q_div, q_modN, nI_clamp, if_true, if_false, Bool.false_eq_true, q_l0, q_l1, q_l2, q_l3, q_l4, q_l5, q_l6, q_l7, q_l8, q_l9, q_l10, q_l11, q_l12, q_l13, q_l14, q_l15, q_l16, q_l19, q_l20, q_l22, q_l24, q_l30, q_l32, q_l34, q_l36, q_l45, q_l47, q_l48, q_l57, q_l58, q_l59, q_l60, q_l61, q_l66, q_l75, q_l76, q_l94, q_l97, q_l99, q_l100, q_l101, q_l104, q_l105, q_l108, q_l109, q_l111, q_l114, q_l115, q_l116, q_l117, q_l118, q_l119, q_l120, q_l126, q_l132, q_l133, q_l135, q_l136, q_l138, q_l146, q_l147, q_l148, q_l149, q_l150, q_l151, q_l152, q_l153, q_l154, q_l155, q_l156, q_l157, q_l158, q_l214, q_l229, q_l244, q_l259, q_l300, q_l999, q_l1813, q_l2072, q_l10000, q_l65536, q_l1000000000, hid, i2 (h - k - 1) (by omega)]
    rw [if_neg (fun q9 => by have := uniq _ (by omega) q9; omega), show h - k - 1 = h - (k + 1) by omega]
    exact ih m (k + 1) (by omega) (by omega)
theorem c_dig (g : gSim M o r) (w : gRow β r) {c : Nat} (hc : M (o + 1) 6 = nI c) (h75 : c ≤ 75) (hP : (tRows M o c).Perm (tAll r)) (hp : (tRows M o c).Pairwise (fun x y => x.1 < y.1)) {j q : Nat} (hj : j < c) (hq : q < 60) (hf : fullB r q = true) (ht : tRow M o j = tCell r q) :
    ∃ M', (∀ a, a ≠ o + 7 → M' a = M a) ∧ f_X0_digOnCopy o (nI j) M = some (nI (hN r (q / 5) - 1 - q % 5), M') := by
  have e1 : M (o + 5) j = nI (q / 5) := congrArg (fun t => t.2.2.2.1) ht
  have e0 : M (o + 2) j = r (34 + q) := congrArg (fun t => t.1) ht
  have hf' : q % 5 < hN r (q / 5) := of_decide_eq_true hf
  have h5 := (w.h (p := q / 5) (by omega)).2
  obtain ⟨M', i1, i2, h⟩ := c_copyStack g w (p := q / 5) (by omega)
  have hca : M' (o + 1) 6 = nI c := by rw [i1 (o + 1) (by omega)]; exact hc
  have hid : f_X0_id o (nI j) M' = some (r (34 + q)) := by rw [s_id hca h75 hj, i1 (o + 2) (by omega), e0]
  have uniq : ∀ i, i < hN r (q / 5) → r (34 + (5 * (q / 5) + i)) = r (34 + q) → i = q % 5 := fun i hi e => by
    obtain ⟨f1, f2, f3⟩ := cell_full hi h5
    obtain ⟨j', hj', ht'⟩ := rows_of hP (cell_mem (r := r) (q := 5 * (q / 5) + i) (by omega) f1)
    have e0' : M (o + 2) j' = r (34 + (5 * (q / 5) + i)) := congrArg (fun t => t.1) ht'
    have := rows_inj hp hj' hj (by rw [e0', e0, e])
    subst this
    have := tCell_inj (r := r) (r' := r) (by omega) hq (congrArg (fun t => t.2.2.2) (ht'.symm.trans ht))
    omega
  refine ⟨M', i1, ?_⟩
  have hL : f_X0_digOnCopy_L12 o (nI j) gF (nI 0) (nI (hN r (q / 5))) M' = some (nI (hN r (q / 5) - 1 - q % 5), M') := by
    have := c_digL (o := o) (M' := M') (j := j) (h := hN r (q / 5)) (fun i => r (34 + (5 * (q / 5) + i))) hid i2 h5 hf' (by rw [show 5 * (q / 5) + q % 5 = q by omega]) uniq (hN r (q / 5) - 1 - q % 5) gF 0 (by omega) (by unfold gF; omega)
    rw [Nat.sub_zero] at this
    exact this
  unfold f_X0_digOnCopy
  rw [s_pile hc h75 hj, e1, Option.bind_some, h, Option.bind_some]
  exact hL
/-- every dig on a copy says what the counting says -/
theorem c_digs (g : gSim M o r) (w : gRow β r) : ∃ M', (∀ a, a ≠ o + 7 → M' a = M a) ∧ f_X0_digsAgree o M = some (true, M') := by
  obtain ⟨c, hc, h75, hP, hp⟩ := g.rows
  unfold f_X0_digsAgree
  have key : ∀ d n k M1, k + d = c → d < n → (∀ b, b ≠ o + 7 → M1 b = M b) → ∃ M', (∀ a, a ≠ o + 7 → M' a = M a) ∧ f_X0_digsAgree_L2 o n (nI k) M1 = some (true, M') := by
    intro d
    induction d with
    | zero =>
      intro n k M1 hk hn h1
      obtain ⟨m, rfl⟩ : ∃ m, n = m + 1 := ⟨n - 1, by omega⟩
      have hca : M1 (o + 1) 6 = nI c := by rw [h1 (o + 1) (by omega)]; exact hc
      refine ⟨M1, h1, ?_⟩
      rw [f_X0_digsAgree_L2]
      simp (disch := omega) only [q_seqr, q_seql, q_ig, q_ni, q_le, q_nle, q_lt, q_nlt, q_eq, q_ne, q_eqr, q_gbt, q_gbf, q_gbd, q_m1lt, q_m1ge, q_m1ne, q_m1eq, q_m1e, Option.bind_some, gLet, nI_add, pk_mul, q_sub, q_m1, q_div, q_modN, nI_clamp, if_true, if_false, Bool.false_eq_true, q_l0, q_l1, q_l2, q_l3, q_l4, q_l5, q_l6, q_l7, q_l8, q_l9, q_l10, q_l11, q_l12, q_l13, q_l14, q_l15, q_l16, q_l19, q_l20, q_l22, q_l24, q_l30, q_l32, q_l34, q_l36, q_l45, q_l47, q_l48, q_l57, q_l58, q_l59, q_l60, q_l61, q_l66, q_l75, q_l76, q_l94, q_l97, q_l99, q_l100, q_l101, q_l104, q_l105, q_l108, q_l109, q_l111, q_l114, q_l115, q_l116, q_l117, q_l118, q_l119, q_l120, q_l126, q_l132, q_l133, q_l135, q_l136, q_l138, q_l146, q_l147, q_l148, q_l149, q_l150, q_l151, q_l152, q_l153, q_l154, q_l155, q_l156, q_l157, q_l158, q_l214, q_l229, q_l244, q_l259, q_l300, q_l999, q_l1813, q_l2072, q_l10000, q_l65536, q_l1000000000, hca]
    | succ d ih =>
      intro n k M1 hk hn h1
      obtain ⟨m, rfl⟩ : ∃ m, n = m + 1 := ⟨n - 1, by omega⟩
      have hkc : k < c := by omega
      have ga : gSim M1 o r := g.frame (fun b _ _ hb => h1 b hb)
      have hca : M1 (o + 1) 6 = nI c := by rw [h1 (o + 1) (by omega)]; exact hc
      have er : tRows M1 o c = tRows M o c := tRows_frame (fun b h2 h3 => h1 b (by omega))
      have hPa : (tRows M1 o c).Perm (tAll r) := by rw [er]; exact hP
      have hpa : (tRows M1 o c).Pairwise (fun x y => x.1 < y.1) := by rw [er]; exact hp
      rcases tAll_mem.mp (of_rows hPa hkc) with ⟨q, hq, hf, hqt⟩ | ⟨l, hl, hlt⟩
      · have e1 : M1 (o + 5) k = nI (q / 5) := congrArg (fun t => t.2.2.2.1) hqt.symm
        have hf' : q % 5 < hN r (q / 5) := of_decide_eq_true hf
        have h5 := (w.h (p := q / 5) (by omega)).2
        obtain ⟨M2, h2, hd⟩ := c_dig ga w hca h75 hPa hpa hkc hq hf hqt.symm
        obtain ⟨M3, h3, hF⟩ := ih m (k + 1) M2 (by omega) (by omega) (fun b hb => by rw [h2 b hb, h1 b hb])
        refine ⟨M3, h3, ?_⟩
        rw [f_X0_digsAgree_L2]
        simp (disch := omega) only [q_seqr, q_seql, q_ig, q_ni, q_le, q_nle, q_lt, q_nlt, q_eq, q_ne, q_eqr, q_gbt, q_gbf, q_gbd, q_m1lt, q_m1ge, q_m1ne, q_m1eq, q_m1e, Option.bind_some, gLet, nI_add, pk_mul, q_sub, q_m1, q_div, q_modN, nI_clamp, if_true, if_false, Bool.false_eq_true, q_l0, q_l1, q_l2, q_l3, q_l4, q_l5, q_l6, q_l7, q_l8, q_l9, q_l10, q_l11, q_l12, q_l13, q_l14, q_l15, q_l16, q_l19, q_l20, q_l22, q_l24, q_l30, q_l32, q_l34, q_l36, q_l45, q_l47, q_l48, q_l57, q_l58, q_l59, q_l60, q_l61, q_l66, q_l75, q_l76, q_l94, q_l97, q_l99, q_l100, q_l101, q_l104, q_l105, q_l108, q_l109, q_l111, q_l114, q_l115, q_l116, q_l117, q_l118, q_l119, q_l120, q_l126, q_l132, q_l133, q_l135, q_l136, q_l138, q_l146, q_l147, q_l148, q_l149, q_l150, q_l151, q_l152, q_l153, q_l154, q_l155, q_l156, q_l157, q_l158, q_l214, q_l229, q_l244, q_l259, q_l300, q_l999, q_l1813, q_l2072, q_l10000, q_l65536, q_l1000000000, hca, s_pile hca h75 hkc, e1, c_countAbove ga w hca h75 hPa hkc hq hf hqt.symm, hd]
        exact hF
      · have e1 : M1 (o + 5) k = nI 12 := congrArg (fun t => t.2.2.2.1) hlt.symm
        obtain ⟨M3, h3, hF⟩ := ih m (k + 1) M1 (by omega) (by omega) h1
        refine ⟨M3, h3, ?_⟩
        rw [f_X0_digsAgree_L2]
        simp (disch := omega) only [q_seqr, q_seql, q_ig, q_ni, q_le, q_nle, q_lt, q_nlt, q_eq, q_ne, q_eqr, q_gbt, q_gbf, q_gbd, q_m1lt, q_m1ge, q_m1ne, q_m1eq, q_m1e, Option.bind_some, gLet, nI_add, pk_mul, q_sub, q_m1, q_div, q_modN, nI_clamp, if_true, if_false, Bool.false_eq_true, q_l0, q_l1, q_l2, q_l3, q_l4, q_l5, q_l6, q_l7, q_l8, q_l9, q_l10, q_l11, q_l12, q_l13, q_l14, q_l15, q_l16, q_l19, q_l20, q_l22, q_l24, q_l30, q_l32, q_l34, q_l36, q_l45, q_l47, q_l48, q_l57, q_l58, q_l59, q_l60, q_l61, q_l66, q_l75, q_l76, q_l94, q_l97, q_l99, q_l100, q_l101, q_l104, q_l105, q_l108, q_l109, q_l111, q_l114, q_l115, q_l116, q_l117, q_l118, q_l119, q_l120, q_l126, q_l132, q_l133, q_l135, q_l136, q_l138, q_l146, q_l147, q_l148, q_l149, q_l150, q_l151, q_l152, q_l153, q_l154, q_l155, q_l156, q_l157, q_l158, q_l214, q_l229, q_l244, q_l259, q_l300, q_l999, q_l1813, q_l2072, q_l10000, q_l65536, q_l1000000000, hca, s_pile hca h75 hkc, e1]
        exact hF
  exact key c gF 0 M (by omega) (by unfold gF; omega) (fun _ _ => rfl)
/-- a question that may write on the copied stack -/
def gQ7 {α : Type} (codes : List String) (M : gM) (f : Option ((String ⊕ α) × gM)) (m : gM → Option (α × gM)) : Prop := ∃ M1 oc z b, (∀ a, a ≠ 7 → M1 a = M a) ∧ f = some (oc, M1) ∧ m M1 = some (b, gs M1 150 13 z) ∧ gAns codes oc z b
theorem Q_movesToReachByCopy {M : gM} (g : gSim M 0 (M 151)) (w : gRow β (M 151)) (v : Int32) : gQ7 kN M (f_X6_movesToReachByCopy v M) (f_X7_movesToReachByCopy v) := by
  obtain ⟨c, hc, h75, hP, hp, h⟩ := idCases g w v
  rcases h with ⟨q, j, hq, hf, hj, ht, hv, h1, h2, h3, h4⟩ | ⟨l, j, hl, hj, ht, hv, h1, h2, h3, h4⟩ | ⟨h1, h2, h3, hn, h4⟩
  · obtain ⟨M1, i1, hd⟩ := c_dig g w hc h75 hP hp hj hq hf ht
    have i1 : ∀ a, a ≠ 7 → M1 a = M a := fun a ha => i1 a (by omega)
    have e151 : M1 151 = M 151 := i1 151 (by omega)
    refine ⟨M1, _, _, _, i1, ?_, ?_, gAns_r (b := nI (hN (M 151) (q / 5) - 1 - q % 5))⟩
    · unfold f_X6_movesToReachByCopy; simp (disch := omega) only [q_seqr, q_seql, q_ig, q_ni, q_le, q_nle, q_lt, q_nlt, q_eq, q_ne, q_eqr, q_gbt, q_gbf, q_gbd, q_m1lt, q_m1ge, q_m1ne, q_m1eq, q_m1e, Option.bind_some, gLet, nI_add, pk_mul, q_sub, q_m1, q_div, q_modN, nI_clamp, if_true, if_false, Bool.false_eq_true, q_l0, q_l1, q_l2, q_l3, q_l4, q_l5, q_l6, q_l7, q_l8, q_l9, q_l10, q_l11, q_l12, q_l13, q_l14, q_l15, q_l16, q_l19, q_l20, q_l22, q_l24, q_l30, q_l32, q_l34, q_l36, q_l45, q_l47, q_l48, q_l57, q_l58, q_l59, q_l60, q_l61, q_l66, q_l75, q_l76, q_l94, q_l97, q_l99, q_l100, q_l101, q_l104, q_l105, q_l108, q_l109, q_l111, q_l114, q_l115, q_l116, q_l117, q_l118, q_l119, q_l120, q_l126, q_l132, q_l133, q_l135, q_l136, q_l138, q_l146, q_l147, q_l148, q_l149, q_l150, q_l151, q_l152, q_l153, q_l154, q_l155, q_l156, q_l157, q_l158, q_l214, q_l229, q_l244, q_l259, q_l300, q_l999, q_l1813, q_l2072, q_l10000, q_l65536, q_l1000000000, m_done, m_fails, m_thrown, m_th, gs_same, q_gsgs, c_raise0, c_raise1, c_raise2, c_raise3, c_raise4, h2, c_found, hd]
    · unfold f_X7_movesToReachByCopy f_X7_movesToReach; simp (disch := omega) only [q_seqr, q_seql, q_ig, q_ni, q_le, q_nle, q_lt, q_nlt, q_eq, q_ne, q_eqr, q_gbt, q_gbf, q_gbd, q_m1lt, q_m1ge, q_m1ne, q_m1eq, q_m1e, Option.bind_some, gLet, nI_add, pk_mul, q_sub, q_m1, q_div, q_modN, nI_clamp, if_true, if_false, Bool.false_eq_true, q_l0, q_l1, q_l2, q_l3, q_l4, q_l5, q_l6, q_l7, q_l8, q_l9, q_l10, q_l11, q_l12, q_l13, q_l14, q_l15, q_l16, q_l19, q_l20, q_l22, q_l24, q_l30, q_l32, q_l34, q_l36, q_l45, q_l47, q_l48, q_l57, q_l58, q_l59, q_l60, q_l61, q_l66, q_l75, q_l76, q_l94, q_l97, q_l99, q_l100, q_l101, q_l104, q_l105, q_l108, q_l109, q_l111, q_l114, q_l115, q_l116, q_l117, q_l118, q_l119, q_l120, q_l126, q_l132, q_l133, q_l135, q_l136, q_l138, q_l146, q_l147, q_l148, q_l149, q_l150, q_l151, q_l152, q_l153, q_l154, q_l155, q_l156, q_l157, q_l158, q_l214, q_l229, q_l244, q_l259, q_l300, q_l999, q_l1813, q_l2072, q_l10000, q_l65536, q_l1000000000, m_done, m_fails, m_thrown, m_th, gs_same, q_gsgs, c_raise0, c_raise1, c_raise2, c_raise3, c_raise4, (h4 M1 e151).1, m_above e151 w hq hf]
  · refine ⟨M, _, _, _, fun _ _ => rfl, ?_, ?_, gAns_l 0 (b := nI 0) rfl⟩
    · unfold f_X6_movesToReachByCopy; simp (disch := omega) only [q_seqr, q_seql, q_ig, q_ni, q_le, q_nle, q_lt, q_nlt, q_eq, q_ne, q_eqr, q_gbt, q_gbf, q_gbd, q_m1lt, q_m1ge, q_m1ne, q_m1eq, q_m1e, Option.bind_some, gLet, nI_add, pk_mul, q_sub, q_m1, q_div, q_modN, nI_clamp, if_true, if_false, Bool.false_eq_true, q_l0, q_l1, q_l2, q_l3, q_l4, q_l5, q_l6, q_l7, q_l8, q_l9, q_l10, q_l11, q_l12, q_l13, q_l14, q_l15, q_l16, q_l19, q_l20, q_l22, q_l24, q_l30, q_l32, q_l34, q_l36, q_l45, q_l47, q_l48, q_l57, q_l58, q_l59, q_l60, q_l61, q_l66, q_l75, q_l76, q_l94, q_l97, q_l99, q_l100, q_l101, q_l104, q_l105, q_l108, q_l109, q_l111, q_l114, q_l115, q_l116, q_l117, q_l118, q_l119, q_l120, q_l126, q_l132, q_l133, q_l135, q_l136, q_l138, q_l146, q_l147, q_l148, q_l149, q_l150, q_l151, q_l152, q_l153, q_l154, q_l155, q_l156, q_l157, q_l158, q_l214, q_l229, q_l244, q_l259, q_l300, q_l999, q_l1813, q_l2072, q_l10000, q_l65536, q_l1000000000, m_done, m_fails, m_thrown, m_th, gs_same, q_gsgs, c_raise0, c_raise1, c_raise2, c_raise3, c_raise4, h2, c_found_m]
    · unfold f_X7_movesToReachByCopy f_X7_movesToReach; simp (disch := omega) only [q_seqr, q_seql, q_ig, q_ni, q_le, q_nle, q_lt, q_nlt, q_eq, q_ne, q_eqr, q_gbt, q_gbf, q_gbd, q_m1lt, q_m1ge, q_m1ne, q_m1eq, q_m1e, Option.bind_some, gLet, nI_add, pk_mul, q_sub, q_m1, q_div, q_modN, nI_clamp, if_true, if_false, Bool.false_eq_true, q_l0, q_l1, q_l2, q_l3, q_l4, q_l5, q_l6, q_l7, q_l8, q_l9, q_l10, q_l11, q_l12, q_l13, q_l14, q_l15, q_l16, q_l19, q_l20, q_l22, q_l24, q_l30, q_l32, q_l34, q_l36, q_l45, q_l47, q_l48, q_l57, q_l58, q_l59, q_l60, q_l61, q_l66, q_l75, q_l76, q_l94, q_l97, q_l99, q_l100, q_l101, q_l104, q_l105, q_l108, q_l109, q_l111, q_l114, q_l115, q_l116, q_l117, q_l118, q_l119, q_l120, q_l126, q_l132, q_l133, q_l135, q_l136, q_l138, q_l146, q_l147, q_l148, q_l149, q_l150, q_l151, q_l152, q_l153, q_l154, q_l155, q_l156, q_l157, q_l158, q_l214, q_l229, q_l244, q_l259, q_l300, q_l999, q_l1813, q_l2072, q_l10000, q_l65536, q_l1000000000, m_done, m_fails, m_thrown, m_th, gs_same, q_gsgs, c_raise0, c_raise1, c_raise2, c_raise3, c_raise4, (h4 M rfl).1]
  · refine ⟨M, _, _, _, fun _ _ => rfl, ?_, ?_, gAns_l 0 (b := nI 0) rfl⟩
    · unfold f_X6_movesToReachByCopy; simp (disch := omega) only [q_seqr, q_seql, q_ig, q_ni, q_le, q_nle, q_lt, q_nlt, q_eq, q_ne, q_eqr, q_gbt, q_gbf, q_gbd, q_m1lt, q_m1ge, q_m1ne, q_m1eq, q_m1e, Option.bind_some, gLet, nI_add, pk_mul, q_sub, q_m1, q_div, q_modN, nI_clamp, if_true, if_false, Bool.false_eq_true, q_l0, q_l1, q_l2, q_l3, q_l4, q_l5, q_l6, q_l7, q_l8, q_l9, q_l10, q_l11, q_l12, q_l13, q_l14, q_l15, q_l16, q_l19, q_l20, q_l22, q_l24, q_l30, q_l32, q_l34, q_l36, q_l45, q_l47, q_l48, q_l57, q_l58, q_l59, q_l60, q_l61, q_l66, q_l75, q_l76, q_l94, q_l97, q_l99, q_l100, q_l101, q_l104, q_l105, q_l108, q_l109, q_l111, q_l114, q_l115, q_l116, q_l117, q_l118, q_l119, q_l120, q_l126, q_l132, q_l133, q_l135, q_l136, q_l138, q_l146, q_l147, q_l148, q_l149, q_l150, q_l151, q_l152, q_l153, q_l154, q_l155, q_l156, q_l157, q_l158, q_l214, q_l229, q_l244, q_l259, q_l300, q_l999, q_l1813, q_l2072, q_l10000, q_l65536, q_l1000000000, m_done, m_fails, m_thrown, m_th, gs_same, q_gsgs, c_raise0, c_raise1, c_raise2, c_raise3, c_raise4, h2, c_found_m]
    · unfold f_X7_movesToReachByCopy f_X7_movesToReach; simp (disch := omega) only [q_seqr, q_seql, q_ig, q_ni, q_le, q_nle, q_lt, q_nlt, q_eq, q_ne, q_eqr, q_gbt, q_gbf, q_gbd, q_m1lt, q_m1ge, q_m1ne, q_m1eq, q_m1e, Option.bind_some, gLet, nI_add, pk_mul, q_sub, q_m1, q_div, q_modN, nI_clamp, if_true, if_false, Bool.false_eq_true, q_l0, q_l1, q_l2, q_l3, q_l4, q_l5, q_l6, q_l7, q_l8, q_l9, q_l10, q_l11, q_l12, q_l13, q_l14, q_l15, q_l16, q_l19, q_l20, q_l22, q_l24, q_l30, q_l32, q_l34, q_l36, q_l45, q_l47, q_l48, q_l57, q_l58, q_l59, q_l60, q_l61, q_l66, q_l75, q_l76, q_l94, q_l97, q_l99, q_l100, q_l101, q_l104, q_l105, q_l108, q_l109, q_l111, q_l114, q_l115, q_l116, q_l117, q_l118, q_l119, q_l120, q_l126, q_l132, q_l133, q_l135, q_l136, q_l138, q_l146, q_l147, q_l148, q_l149, q_l150, q_l151, q_l152, q_l153, q_l154, q_l155, q_l156, q_l157, q_l158, q_l214, q_l229, q_l244, q_l259, q_l300, q_l999, q_l1813, q_l2072, q_l10000, q_l65536, q_l1000000000, m_done, m_fails, m_thrown, m_th, gs_same, q_gsgs, c_raise0, c_raise1, c_raise2, c_raise3, c_raise4, (h4 M rfl).1]
end PD
