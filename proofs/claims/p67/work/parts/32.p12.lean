/-! The containers by their ranks. -/
section PR
variable {M : gM} {o : Nat} {r : Nat → Int32} {β : Nat}
def rkT (r : Nat → Int32) (t : tC) : Nat := (tShip r).countP (fun t' => hvT t' t)
theorem ship_pile {t : tC} : t ∈ tShip r → ¬ t.2.2.2.1 = nI 12 := by
  intro ht e
  obtain ⟨c, hc, rfl⟩ := List.mem_map.mp ht
  have hc := List.mem_range.mp (List.mem_filter.mp hc).1
  have := (nI_eq (by omega) (by omega)).mp (show nI (c / 5) = nI 12 from e)
  omega
theorem cnt_shipOnly (f : tC → Bool) : (tAll r).countP (fun t => f t && decide (¬ t.2.2.2.1 = nI 12)) = (tShip r).countP f := by
  rw [tAll, List.countP_append]
  have h2 : (tYard r).countP (fun t => f t && decide (¬ t.2.2.2.1 = nI 12)) = 0 := by
    rw [List.countP_eq_zero]
    intro t ht
    obtain ⟨l, -, rfl⟩ := List.mem_map.mp ht
    simp [tYd]
  have h1 : (tShip r).countP (fun t => f t && decide (¬ t.2.2.2.1 = nI 12)) = (tShip r).countP f := by
    apply List.countP_congr
    intro t ht
    have := ship_pile ht
    simp [this]
  omega
theorem c_rankOf (g : gSim M o r) (w : gRow β r) (hβ : β ≤ 600) {c : Nat} (hc : M (o + 1) 6 = nI c) (h75 : c ≤ 75) (hP : (tRows M o c).Perm (tAll r)) (hp : (tRows M o c).Pairwise (fun x y => x.1 < y.1)) {j : Nat} (hj : j < c) : f_X0_rankOf o (nI j) M = some (nI (rkT r (tRow M o j))) := by
  have wt : ∀ k, k < c → M (o + 3) k = nI (wN (tRow M o k)) ∧ wN (tRow M o k) ≤ 30 := fun k hk => by
    have a := idwt w hβ (of_rows hP hk)
    exact ⟨a.2.2.1, a.2.2.2.2⟩
  have wj := wt j hj
  have h := lp_count (fun n k a => f_X0_rankOf_L4 o M (nI j) n k a) (fun k => hvT (tRow M o k) (tRow M o j) && decide (¬ M (o + 5) k = nI 12)) c (fun n k a hk ha => by
    show f_X0_rankOf_L4 o M (nI j) (n + 1) (nI k) (nI a) = _
    have wk := wt k hk
    have hid := row_id w hβ hP hp hk hj
    rw [f_X0_rankOf_L4]
    by_cases e1 : wN (tRow M o j) < wN (tRow M o k)
    · have eh : hvT (tRow M o k) (tRow M o j) = true := decide_eq_true (Or.inl e1)
      simp (disch := omega) only [q_seqr, q_seql, q_ig, q_ni, q_le, q_nle, q_lt, q_nlt, q_eq, q_ne, q_eqr, q_gbt, q_gbf, q_gbd, q_m1lt, q_m1ge, q_m1ne, q_m1eq, q_m1e, Option.bind_some, gLet, nI_add, pk_mul, q_sub, q_m1, q_div, q_modN, nI_clamp, if_true, if_false, Bool.false_eq_true, q_l0, q_l1, q_l2, q_l3, q_l4, q_l5, q_l6, q_l7, q_l8, q_l9, q_l10, q_l11, q_l12, q_l13, q_l14, q_l15, q_l16, q_l19, q_l20, q_l22, q_l24, q_l30, q_l32, q_l34, q_l36, q_l45, q_l47, q_l48, q_l57, q_l58, q_l59, q_l60, q_l61, q_l66, q_l75, q_l76, q_l94, q_l97, q_l99, q_l100, q_l101, q_l104, q_l105, q_l108, q_l109, q_l111, q_l114, q_l115, q_l116, q_l117, q_l118, q_l119, q_l120, q_l126, q_l132, q_l133, q_l135, q_l136, q_l138, q_l146, q_l147, q_l148, q_l149, q_l150, q_l151, q_l152, q_l153, q_l154, q_l155, q_l156, q_l157, q_l158, q_l214, q_l229, q_l244, q_l259, q_l300, q_l999, q_l1813, q_l2072, q_l10000, q_l65536, q_l1000000000, hc, s_weight hc h75 hk, s_weight hc h75 hj, wk.1, wj.1, s_pile hc h75 hk, eh, Bool.true_and]
      by_cases e : M (o + 5) k = nI 12
      · simp [e]
      · simp [e]
    · by_cases e2 : wN (tRow M o k) = wN (tRow M o j)
      · by_cases e3 : k < j
        · have eh : hvT (tRow M o k) (tRow M o j) = true := decide_eq_true (Or.inr ⟨e2, hid.mp e3⟩)
          simp (disch := omega) only [q_seqr, q_seql, q_ig, q_ni, q_le, q_nle, q_lt, q_nlt, q_eq, q_ne, q_eqr, q_gbt, q_gbf, q_gbd, q_m1lt, q_m1ge, q_m1ne, q_m1eq, q_m1e, Option.bind_some, gLet, nI_add, pk_mul, q_sub, q_m1, q_div, q_modN, nI_clamp, if_true, if_false, Bool.false_eq_true, q_l0, q_l1, q_l2, q_l3, q_l4, q_l5, q_l6, q_l7, q_l8, q_l9, q_l10, q_l11, q_l12, q_l13, q_l14, q_l15, q_l16, q_l19, q_l20, q_l22, q_l24, q_l30, q_l32, q_l34, q_l36, q_l45, q_l47, q_l48, q_l57, q_l58, q_l59, q_l60, q_l61, q_l66, q_l75, q_l76, q_l94, q_l97, q_l99, q_l100, q_l101, q_l104, q_l105, q_l108, q_l109, q_l111, q_l114, q_l115, q_l116, q_l117, q_l118, q_l119, q_l120, q_l126, q_l132, q_l133, q_l135, q_l136, q_l138, q_l146, q_l147, q_l148, q_l149, q_l150, q_l151, q_l152, q_l153, q_l154, q_l155, q_l156, q_l157, q_l158, q_l214, q_l229, q_l244, q_l259, q_l300, q_l999, q_l1813, q_l2072, q_l10000, q_l65536, q_l1000000000, hc, s_weight hc h75 hk, s_weight hc h75 hj, wk.1, wj.1, s_pile hc h75 hk, eh, Bool.true_and]
          by_cases e : M (o + 5) k = nI 12
          · simp [e]
          · simp [e]
        · have eh : hvT (tRow M o k) (tRow M o j) = false := decide_eq_false (fun h => by
            rcases h with h | ⟨-, h⟩
            · exact e1 h
            · exact e3 (hid.mpr h))
          simp (disch := omega) only [q_seqr, q_seql, q_ig, q_ni, q_le, q_nle, q_lt, q_nlt, q_eq, q_ne, q_eqr, q_gbt, q_gbf, q_gbd, q_m1lt, q_m1ge, q_m1ne, q_m1eq, q_m1e, Option.bind_some, gLet, nI_add, pk_mul, q_sub, q_m1, q_div, q_modN, nI_clamp, if_true, if_false, Bool.false_eq_true, q_l0, q_l1, q_l2, q_l3, q_l4, q_l5, q_l6, q_l7, q_l8, q_l9, q_l10, q_l11, q_l12, q_l13, q_l14, q_l15, q_l16, q_l19, q_l20, q_l22, q_l24, q_l30, q_l32, q_l34, q_l36, q_l45, q_l47, q_l48, q_l57, q_l58, q_l59, q_l60, q_l61, q_l66, q_l75, q_l76, q_l94, q_l97, q_l99, q_l100, q_l101, q_l104, q_l105, q_l108, q_l109, q_l111, q_l114, q_l115, q_l116, q_l117, q_l118, q_l119, q_l120, q_l126, q_l132, q_l133, q_l135, q_l136, q_l138, q_l146, q_l147, q_l148, q_l149, q_l150, q_l151, q_l152, q_l153, q_l154, q_l155, q_l156, q_l157, q_l158, q_l214, q_l229, q_l244, q_l259, q_l300, q_l999, q_l1813, q_l2072, q_l10000, q_l65536, q_l1000000000, hc, s_weight hc h75 hk, s_weight hc h75 hj, wk.1, wj.1, s_pile hc h75 hk, eh, Bool.false_and, Nat.add_zero]
      · have eh : hvT (tRow M o k) (tRow M o j) = false := decide_eq_false (fun h => by omega)
        simp (disch := omega) only [q_seqr, q_seql, q_ig, q_ni, q_le, q_nle, q_lt, q_nlt, q_eq, q_ne, q_eqr, q_gbt, q_gbf, q_gbd, q_m1lt, q_m1ge, q_m1ne, q_m1eq, q_m1e, Option.bind_some, gLet, nI_add, pk_mul, q_sub, q_m1, q_div, q_modN, nI_clamp, if_true, if_false, Bool.false_eq_true, q_l0, q_l1, q_l2, q_l3, q_l4, q_l5, q_l6, q_l7, q_l8, q_l9, q_l10, q_l11, q_l12, q_l13, q_l14, q_l15, q_l16, q_l19, q_l20, q_l22, q_l24, q_l30, q_l32, q_l34, q_l36, q_l45, q_l47, q_l48, q_l57, q_l58, q_l59, q_l60, q_l61, q_l66, q_l75, q_l76, q_l94, q_l97, q_l99, q_l100, q_l101, q_l104, q_l105, q_l108, q_l109, q_l111, q_l114, q_l115, q_l116, q_l117, q_l118, q_l119, q_l120, q_l126, q_l132, q_l133, q_l135, q_l136, q_l138, q_l146, q_l147, q_l148, q_l149, q_l150, q_l151, q_l152, q_l153, q_l154, q_l155, q_l156, q_l157, q_l158, q_l214, q_l229, q_l244, q_l259, q_l300, q_l999, q_l1813, q_l2072, q_l10000, q_l65536, q_l1000000000, hc, s_weight hc h75 hk, s_weight hc h75 hj, wk.1, wj.1, s_pile hc h75 hk, eh, Bool.false_and, Nat.add_zero]) (fun n a ha => by
    show f_X0_rankOf_L4 o M (nI j) (n + 1) (nI c) (nI a) = _
    rw [f_X0_rankOf_L4]
    simp (disch := omega) only [q_seqr, q_seql, q_ig, q_ni, q_le, q_nle, q_lt, q_nlt, q_eq, q_ne, q_eqr, q_gbt, q_gbf, q_gbd, q_m1lt, q_m1ge, q_m1ne, q_m1eq, q_m1e, Option.bind_some, gLet, nI_add, pk_mul, q_sub, q_m1, q_div, q_modN, nI_clamp, if_true, if_false, Bool.false_eq_true, q_l0, q_l1, q_l2, q_l3, q_l4, q_l5, q_l6, q_l7, q_l8, q_l9, q_l10, q_l11, q_l12, q_l13, q_l14, q_l15, q_l16, q_l19, q_l20, q_l22, q_l24, q_l30, q_l32, q_l34, q_l36, q_l45, q_l47, q_l48, q_l57, q_l58, q_l59, q_l60, q_l61, q_l66, q_l75, q_l76, q_l94, q_l97, q_l99, q_l100, q_l101, q_l104, q_l105, q_l108, q_l109, q_l111, q_l114, q_l115, q_l116, q_l117, q_l118, q_l119, q_l120, q_l126, q_l132, q_l133, q_l135, q_l136, q_l138, q_l146, q_l147, q_l148, q_l149, q_l150, q_l151, q_l152, q_l153, q_l154, q_l155, q_l156, q_l157, q_l158, q_l214, q_l229, q_l244, q_l259, q_l300, q_l999, q_l1813, q_l2072, q_l10000, q_l65536, q_l1000000000, hc]) (by omega)
  unfold f_X0_rankOf
  rw [show (0 : Int32) = nI 0 from rfl]
  refine h.trans ?_
  have e := cnt_shipOnly (r := r) (fun t => hvT t (tRow M o j))
  rw [← hP.countP_eq, tRows, List.countP_map] at e
  unfold rkT
  rw [← e]
  rfl
theorem rk_lt (g : gSim M o r) (w : gRow β r) (hβ : β ≤ 600) {t t' : tC} (ht : t ∈ tShip r) (h : hvT t t' = true) : rkT r t < rkT r t' :=
  countP_lt (fun x _ hx => hv_trans hx h) ht h (hv_irr t)
theorem rk_inj (g : gSim M o r) (w : gRow β r) (hβ : β ≤ 600) {t t' : tC} (ht : t ∈ tShip r) (ht' : t' ∈ tShip r) (h : rkT r t = rkT r t') : t = t' := by
  rcases hv_tri g w hβ (List.mem_append_left _ ht) (List.mem_append_left _ ht') with h1 | h1 | h1
  · have := rk_lt g w hβ ht h1; omega
  · exact h1
  · have := rk_lt g w hβ ht' h1; omega
theorem ship_le (f : tC → Bool) : (tShip r).countP f ≤ 60 := by
  have h1 := List.countP_le_length (p := f) (l := tShip r)
  have h2 : (tShip r).length ≤ 60 := by
    rw [tShip, List.length_map]
    have := List.length_filter_le (fullB r) (List.range 60)
    simpa using this
  omega
theorem c_rowByWeight (g : gSim M o r) (w : gRow β r) (hβ : β ≤ 600) {c : Nat} (hc : M (o + 1) 6 = nI c) (h75 : c ≤ 75) (hP : (tRows M o c).Perm (tAll r)) (hp : (tRows M o c).Pairwise (fun x y => x.1 < y.1)) (v : Int32) :
    (∃ j, j < c ∧ ¬ M (o + 5) j = nI 12 ∧ nI (rkT r (tRow M o j)) = v ∧ f_X0_rowByWeight o v M = some (nI j)) ∨ ((∀ j, j < c → ¬ M (o + 5) j = nI 12 → nI (rkT r (tRow M o j)) ≠ v) ∧ f_X0_rowByWeight o v M = some (-nI 1)) := by
  have h := lp_find (fun n k => f_X0_rowByWeight_L2 o M v n k) (fun k => decide (¬ M (o + 5) k = nI 12 ∧ nI (rkT r (tRow M o k)) = v)) (fun k => nI k) (-nI 1) c (fun n k hk => by
    show f_X0_rowByWeight_L2 o M v (n + 1) (nI k) = _
    rw [f_X0_rowByWeight_L2]
    simp (disch := omega) only [q_seqr, q_seql, q_ig, q_ni, q_le, q_nle, q_lt, q_nlt, q_eq, q_ne, q_eqr, q_gbt, q_gbf, q_gbd, q_m1lt, q_m1ge, q_m1ne, q_m1eq, q_m1e, Option.bind_some, gLet, nI_add, pk_mul, q_sub, q_m1, q_div, q_modN, nI_clamp, if_true, if_false, Bool.false_eq_true, q_l0, q_l1, q_l2, q_l3, q_l4, q_l5, q_l6, q_l7, q_l8, q_l9, q_l10, q_l11, q_l12, q_l13, q_l14, q_l15, q_l16, q_l19, q_l20, q_l22, q_l24, q_l30, q_l32, q_l34, q_l36, q_l45, q_l47, q_l48, q_l57, q_l58, q_l59, q_l60, q_l61, q_l66, q_l75, q_l76, q_l94, q_l97, q_l99, q_l100, q_l101, q_l104, q_l105, q_l108, q_l109, q_l111, q_l114, q_l115, q_l116, q_l117, q_l118, q_l119, q_l120, q_l126, q_l132, q_l133, q_l135, q_l136, q_l138, q_l146, q_l147, q_l148, q_l149, q_l150, q_l151, q_l152, q_l153, q_l154, q_l155, q_l156, q_l157, q_l158, q_l214, q_l229, q_l244, q_l259, q_l300, q_l999, q_l1813, q_l2072, q_l10000, q_l65536, q_l1000000000, hc, s_pile hc h75 hk, c_rankOf g w hβ hc h75 hP hp hk]
    by_cases e : M (o + 5) k = nI 12
    · simp [e]
    · by_cases e2 : nI (rkT r (tRow M o k)) = v
      · simp [e, e2]
      · simp [e, e2]) (fun n => by
    show f_X0_rowByWeight_L2 o M v (n + 1) (nI c) = _
    rw [f_X0_rowByWeight_L2]
    simp (disch := omega) only [q_seqr, q_seql, q_ig, q_ni, q_le, q_nle, q_lt, q_nlt, q_eq, q_ne, q_eqr, q_gbt, q_gbf, q_gbd, q_m1lt, q_m1ge, q_m1ne, q_m1eq, q_m1e, Option.bind_some, gLet, nI_add, pk_mul, q_sub, q_m1, q_div, q_modN, nI_clamp, if_true, if_false, Bool.false_eq_true, q_l0, q_l1, q_l2, q_l3, q_l4, q_l5, q_l6, q_l7, q_l8, q_l9, q_l10, q_l11, q_l12, q_l13, q_l14, q_l15, q_l16, q_l19, q_l20, q_l22, q_l24, q_l30, q_l32, q_l34, q_l36, q_l45, q_l47, q_l48, q_l57, q_l58, q_l59, q_l60, q_l61, q_l66, q_l75, q_l76, q_l94, q_l97, q_l99, q_l100, q_l101, q_l104, q_l105, q_l108, q_l109, q_l111, q_l114, q_l115, q_l116, q_l117, q_l118, q_l119, q_l120, q_l126, q_l132, q_l133, q_l135, q_l136, q_l138, q_l146, q_l147, q_l148, q_l149, q_l150, q_l151, q_l152, q_l153, q_l154, q_l155, q_l156, q_l157, q_l158, q_l214, q_l229, q_l244, q_l259, q_l300, q_l999, q_l1813, q_l2072, q_l10000, q_l65536, q_l1000000000, hc]) (by omega)
  unfold f_X0_rowByWeight
  rw [show (0 : Int32) = nI 0 from rfl]
  rcases h with ⟨j, hj, hq, hb, h⟩ | ⟨hb, h⟩
  · have hq := of_decide_eq_true hq
    exact Or.inl ⟨j, hj, hq.1, hq.2, h⟩
  · exact Or.inr ⟨fun i hi h1 h2 => of_decide_eq_false (hb i hi) ⟨h1, h2⟩, h⟩
theorem m_count (hr : M 151 = r) (w : gRow β r) (hβ : β ≤ 600) {q : Nat} (hq : q < 60) (v : Int32) : ∃ n, f_X7_containerByWeight_L13 (nI q) v gF (nI 0) (nI 0) M = some (nI 60, nI n, M) ∧ (fullB r q = true → n = rkT r (tCell r q)) := by
  obtain ⟨P, hP⟩ : ∃ P : Nat → Bool, ∀ k, k < 60 → f_X7_isHeavier (nI k) (nI q) M = some (P k) := by
    refine ⟨fun k => (f_X7_isHeavier (nI k) (nI q) M).getD false, fun k hk => ?_⟩
    obtain ⟨b, hb⟩ := m_isHeavier_s hr hk hq
    show _ = some (Option.getD _ false)
    rw [hb]
    rfl
  have key : ∀ d n k a, k + d = 60 → d < n → f_X7_containerByWeight_L13 (nI q) v n (nI k) (nI a) M = some (nI 60, nI (a + (List.range' k d).countP (fun k => fullB r k && P k)), M) := by
    intro d
    induction d with
    | zero =>
      intro n k a hk hn
      obtain ⟨m, rfl⟩ : ∃ m, n = m + 1 := ⟨n - 1, by omega⟩
      have hk : k = 60 := by omega
      subst hk
      rw [f_X7_containerByWeight_L13]
      simp (disch := omega) only [q_seqr, q_seql, q_ig, q_ni, q_le, q_nle, q_lt, q_nlt, q_eq, q_ne, q_eqr, q_gbt, q_gbf, q_gbd, q_m1lt, q_m1ge, q_m1ne, q_m1eq, q_m1e, Option.bind_some, gLet, nI_add, pk_mul, q_sub, q_m1, q_div, q_modN, nI_clamp, if_true, if_false, Bool.false_eq_true, q_l0, q_l1, q_l2, q_l3, q_l4, q_l5, q_l6, q_l7, q_l8, q_l9, q_l10, q_l11, q_l12, q_l13, q_l14, q_l15, q_l16, q_l19, q_l20, q_l22, q_l24, q_l30, q_l32, q_l34, q_l36, q_l45, q_l47, q_l48, q_l57, q_l58, q_l59, q_l60, q_l61, q_l66, q_l75, q_l76, q_l94, q_l97, q_l99, q_l100, q_l101, q_l104, q_l105, q_l108, q_l109, q_l111, q_l114, q_l115, q_l116, q_l117, q_l118, q_l119, q_l120, q_l126, q_l132, q_l133, q_l135, q_l136, q_l138, q_l146, q_l147, q_l148, q_l149, q_l150, q_l151, q_l152, q_l153, q_l154, q_l155, q_l156, q_l157, q_l158, q_l214, q_l229, q_l244, q_l259, q_l300, q_l999, q_l1813, q_l2072, q_l10000, q_l65536, q_l1000000000]
      rfl
    | succ d ih =>
      intro n k a hk hn
      obtain ⟨m, rfl⟩ : ∃ m, n = m + 1 := ⟨n - 1, by omega⟩
      have hk60 : k < 60 := by omega
      rw [f_X7_containerByWeight_L13, List.range'_succ, List.countP_cons]
      cases hf : fullB r k with
      | false =>
        simp (disch := omega) only [q_seqr, q_seql, q_ig, q_ni, q_le, q_nle, q_lt, q_nlt, q_eq, q_ne, q_eqr, q_gbt, q_gbf, q_gbd, q_m1lt, q_m1ge, q_m1ne, q_m1eq, q_m1e, Option.bind_some, gLet, nI_add, pk_mul, q_sub, q_m1, q_div, q_modN, nI_clamp, if_true, if_false, Bool.false_eq_true, q_l0, q_l1, q_l2, q_l3, q_l4, q_l5, q_l6, q_l7, q_l8, q_l9, q_l10, q_l11, q_l12, q_l13, q_l14, q_l15, q_l16, q_l19, q_l20, q_l22, q_l24, q_l30, q_l32, q_l34, q_l36, q_l45, q_l47, q_l48, q_l57, q_l58, q_l59, q_l60, q_l61, q_l66, q_l75, q_l76, q_l94, q_l97, q_l99, q_l100, q_l101, q_l104, q_l105, q_l108, q_l109, q_l111, q_l114, q_l115, q_l116, q_l117, q_l118, q_l119, q_l120, q_l126, q_l132, q_l133, q_l135, q_l136, q_l138, q_l146, q_l147, q_l148, q_l149, q_l150, q_l151, q_l152, q_l153, q_l154, q_l155, q_l156, q_l157, q_l158, q_l214, q_l229, q_l244, q_l259, q_l300, q_l999, q_l1813, q_l2072, q_l10000, q_l65536, q_l1000000000, m_isFull hr w hk60, hf, Nat.add_zero, Bool.false_and]
        exact ih m (k + 1) a (by omega) (by omega)
      | true =>
        cases hp : P k with
        | false =>
          simp (disch := omega) only [q_seqr, q_seql, q_ig, q_ni, q_le, q_nle, q_lt, q_nlt, q_eq, q_ne, q_eqr, q_gbt, q_gbf, q_gbd, q_m1lt, q_m1ge, q_m1ne, q_m1eq, q_m1e, Option.bind_some, gLet, nI_add, pk_mul, q_sub, q_m1, q_div, q_modN, nI_clamp, if_true, if_false, Bool.false_eq_true, q_l0, q_l1, q_l2, q_l3, q_l4, q_l5, q_l6, q_l7, q_l8, q_l9, q_l10, q_l11, q_l12, q_l13, q_l14, q_l15, q_l16, q_l19, q_l20, q_l22, q_l24, q_l30, q_l32, q_l34, q_l36, q_l45, q_l47, q_l48, q_l57, q_l58, q_l59, q_l60, q_l61, q_l66, q_l75, q_l76, q_l94, q_l97, q_l99, q_l100, q_l101, q_l104, q_l105, q_l108, q_l109, q_l111, q_l114, q_l115, q_l116, q_l117, q_l118, q_l119, q_l120, q_l126, q_l132, q_l133, q_l135, q_l136, q_l138, q_l146, q_l147, q_l148, q_l149, q_l150, q_l151, q_l152, q_l153, q_l154, q_l155, q_l156, q_l157, q_l158, q_l214, q_l229, q_l244, q_l259, q_l300, q_l999, q_l1813, q_l2072, q_l10000, q_l65536, q_l1000000000, m_isFull hr w hk60, hf, hP k hk60, hp, Nat.add_zero, Bool.and_false]
          exact ih m (k + 1) a (by omega) (by omega)
        | true =>
          simp (disch := omega) only [q_seqr, q_seql, q_ig, q_ni, q_le, q_nle, q_lt, q_nlt, q_eq, q_ne, q_eqr, q_gbt, q_gbf, q_gbd, q_m1lt, q_m1ge, q_m1ne, q_m1eq, q_m1e, Option.bind_some, gLet, nI_add, pk_mul, q_sub, q_m1, q_div, q_modN, nI_clamp, if_true, if_false, Bool.false_eq_true, q_l0, q_l1, q_l2, q_l3, q_l4, q_l5, q_l6, q_l7, q_l8, q_l9, q_l10, q_l11, q_l12, q_l13, q_l14, q_l15, q_l16, q_l19, q_l20, q_l22, q_l24, q_l30, q_l32, q_l34, q_l36, q_l45, q_l47, q_l48, q_l57, q_l58, q_l59, q_l60, q_l61, q_l66, q_l75, q_l76, q_l94, q_l97, q_l99, q_l100, q_l101, q_l104, q_l105, q_l108, q_l109, q_l111, q_l114, q_l115, q_l116, q_l117, q_l118, q_l119, q_l120, q_l126, q_l132, q_l133, q_l135, q_l136, q_l138, q_l146, q_l147, q_l148, q_l149, q_l150, q_l151, q_l152, q_l153, q_l154, q_l155, q_l156, q_l157, q_l158, q_l214, q_l229, q_l244, q_l259, q_l300, q_l999, q_l1813, q_l2072, q_l10000, q_l65536, q_l1000000000, m_isFull hr w hk60, hf, hP k hk60, hp, Bool.and_true]
          rw [ih m (k + 1) (a + 1) (by omega) (by omega), show a + 1 + (List.range' (k + 1) d).countP (fun k => fullB r k && P k) = a + ((List.range' (k + 1) d).countP (fun k => fullB r k && P k) + 1) by omega]
  refine ⟨_, key 60 gF 0 0 rfl (by unfold gF; omega), fun hf => ?_⟩
  unfold rkT
  rw [tShip, List.countP_map, List.countP_filter, Nat.zero_add, List.range_eq_range']
  apply List.countP_congr
  intro k hk
  have hk : k < 60 := by simpa using hk
  have : ∀ b, fullB r k = b → (fullB r k && P k) = (((fun t' => hvT t' (tCell r q)) ∘ tCell r) k && fullB r k) := fun b hb => by
    cases b with
    | false => rw [hb]; simp
    | true =>
      have h1 := m_isHeavier hr w hβ hk hq hb hf
      rw [hP k hk] at h1
      rw [hb, Option.some.inj h1]
      simp
  rw [this _ rfl]
theorem m_byWeight (hr : M 151 = r) (w : gRow β r) (hβ : β ≤ 600) (v : Int32) :
    (∃ q, q < 60 ∧ fullB r q = true ∧ nI (rkT r (tCell r q)) = v ∧ f_X7_containerByWeight v M = some (r (34 + q), gs M 150 13 (nI 0))) ∨ ((∀ q, q < 60 → fullB r q = true → nI (rkT r (tCell r q)) ≠ v) ∧ f_X7_containerByWeight v M = some (nI 0, gs M 150 13 (nI 1))) := by
  have h := lp_find (fun n k => f_X7_containerByWeight_L2 v n k M) (fun k => decide (fullB r k = true ∧ nI (rkT r (tCell r k)) = v)) (fun k => (r (34 + k), gs M 150 13 (nI 0))) (nI 0, gs M 150 13 (nI 1)) 60 (fun n k hk => by
    show f_X7_containerByWeight_L2 v (n + 1) (nI k) M = _
    obtain ⟨x, hx, hx2⟩ := m_count hr w hβ hk v
    rw [f_X7_containerByWeight_L2]
    cases hf : fullB r k with
    | false =>
      simp (disch := omega) only [q_seqr, q_seql, q_ig, q_ni, q_le, q_nle, q_lt, q_nlt, q_eq, q_ne, q_eqr, q_gbt, q_gbf, q_gbd, q_m1lt, q_m1ge, q_m1ne, q_m1eq, q_m1e, Option.bind_some, gLet, nI_add, pk_mul, q_sub, q_m1, q_div, q_modN, nI_clamp, if_true, if_false, Bool.false_eq_true, q_l0, q_l1, q_l2, q_l3, q_l4, q_l5, q_l6, q_l7, q_l8, q_l9, q_l10, q_l11, q_l12, q_l13, q_l14, q_l15, q_l16, q_l19, q_l20, q_l22, q_l24, q_l30, q_l32, q_l34, q_l36, q_l45, q_l47, q_l48, q_l57, q_l58, q_l59, q_l60, q_l61, q_l66, q_l75, q_l76, q_l94, q_l97, q_l99, q_l100, q_l101, q_l104, q_l105, q_l108, q_l109, q_l111, q_l114, q_l115, q_l116, q_l117, q_l118, q_l119, q_l120, q_l126, q_l132, q_l133, q_l135, q_l136, q_l138, q_l146, q_l147, q_l148, q_l149, q_l150, q_l151, q_l152, q_l153, q_l154, q_l155, q_l156, q_l157, q_l158, q_l214, q_l229, q_l244, q_l259, q_l300, q_l999, q_l1813, q_l2072, q_l10000, q_l65536, q_l1000000000, m_done, m_fails, m_thrown, m_th, gs_same, q_gsgs, c_raise0, c_raise1, c_raise2, c_raise3, c_raise4, hx, m_isFull hr w hk, hf]
      simp
    | true =>
      have hx2 := hx2 hf
      subst hx2
      by_cases e : nI (rkT r (tCell r k)) = v
      · simp (disch := omega) only [q_seqr, q_seql, q_ig, q_ni, q_le, q_nle, q_lt, q_nlt, q_eq, q_ne, q_eqr, q_gbt, q_gbf, q_gbd, q_m1lt, q_m1ge, q_m1ne, q_m1eq, q_m1e, Option.bind_some, gLet, nI_add, pk_mul, q_sub, q_m1, q_div, q_modN, nI_clamp, if_true, if_false, Bool.false_eq_true, q_l0, q_l1, q_l2, q_l3, q_l4, q_l5, q_l6, q_l7, q_l8, q_l9, q_l10, q_l11, q_l12, q_l13, q_l14, q_l15, q_l16, q_l19, q_l20, q_l22, q_l24, q_l30, q_l32, q_l34, q_l36, q_l45, q_l47, q_l48, q_l57, q_l58, q_l59, q_l60, q_l61, q_l66, q_l75, q_l76, q_l94, q_l97, q_l99, q_l100, q_l101, q_l104, q_l105, q_l108, q_l109, q_l111, q_l114, q_l115, q_l116, q_l117, q_l118, q_l119, q_l120, q_l126, q_l132, q_l133, q_l135, q_l136, q_l138, q_l146, q_l147, q_l148, q_l149, q_l150, q_l151, q_l152, q_l153, q_l154, q_l155, q_l156, q_l157, q_l158, q_l214, q_l229, q_l244, q_l259, q_l300, q_l999, q_l1813, q_l2072, q_l10000, q_l65536, q_l1000000000, m_done, m_fails, m_thrown, m_th, gs_same, q_gsgs, c_raise0, c_raise1, c_raise2, c_raise3, c_raise4, hx, m_isFull hr w hk, hf, hr]
        simp [e]
      · simp (disch := omega) only [q_seqr, q_seql, q_ig, q_ni, q_le, q_nle, q_lt, q_nlt, q_eq, q_ne, q_eqr, q_gbt, q_gbf, q_gbd, q_m1lt, q_m1ge, q_m1ne, q_m1eq, q_m1e, Option.bind_some, gLet, nI_add, pk_mul, q_sub, q_m1, q_div, q_modN, nI_clamp, if_true, if_false, Bool.false_eq_true, q_l0, q_l1, q_l2, q_l3, q_l4, q_l5, q_l6, q_l7, q_l8, q_l9, q_l10, q_l11, q_l12, q_l13, q_l14, q_l15, q_l16, q_l19, q_l20, q_l22, q_l24, q_l30, q_l32, q_l34, q_l36, q_l45, q_l47, q_l48, q_l57, q_l58, q_l59, q_l60, q_l61, q_l66, q_l75, q_l76, q_l94, q_l97, q_l99, q_l100, q_l101, q_l104, q_l105, q_l108, q_l109, q_l111, q_l114, q_l115, q_l116, q_l117, q_l118, q_l119, q_l120, q_l126, q_l132, q_l133, q_l135, q_l136, q_l138, q_l146, q_l147, q_l148, q_l149, q_l150, q_l151, q_l152, q_l153, q_l154, q_l155, q_l156, q_l157, q_l158, q_l214, q_l229, q_l244, q_l259, q_l300, q_l999, q_l1813, q_l2072, q_l10000, q_l65536, q_l1000000000, m_done, m_fails, m_thrown, m_th, gs_same, q_gsgs, c_raise0, c_raise1, c_raise2, c_raise3, c_raise4, hx, m_isFull hr w hk, hf, hr]
        simp [e]) (fun n => by
    show f_X7_containerByWeight_L2 v (n + 1) (nI 60) M = _
    rw [f_X7_containerByWeight_L2]
    simp (disch := omega) only [q_seqr, q_seql, q_ig, q_ni, q_le, q_nle, q_lt, q_nlt, q_eq, q_ne, q_eqr, q_gbt, q_gbf, q_gbd, q_m1lt, q_m1ge, q_m1ne, q_m1eq, q_m1e, Option.bind_some, gLet, nI_add, pk_mul, q_sub, q_m1, q_div, q_modN, nI_clamp, if_true, if_false, Bool.false_eq_true, q_l0, q_l1, q_l2, q_l3, q_l4, q_l5, q_l6, q_l7, q_l8, q_l9, q_l10, q_l11, q_l12, q_l13, q_l14, q_l15, q_l16, q_l19, q_l20, q_l22, q_l24, q_l30, q_l32, q_l34, q_l36, q_l45, q_l47, q_l48, q_l57, q_l58, q_l59, q_l60, q_l61, q_l66, q_l75, q_l76, q_l94, q_l97, q_l99, q_l100, q_l101, q_l104, q_l105, q_l108, q_l109, q_l111, q_l114, q_l115, q_l116, q_l117, q_l118, q_l119, q_l120, q_l126, q_l132, q_l133, q_l135, q_l136, q_l138, q_l146, q_l147, q_l148, q_l149, q_l150, q_l151, q_l152, q_l153, q_l154, q_l155, q_l156, q_l157, q_l158, q_l214, q_l229, q_l244, q_l259, q_l300, q_l999, q_l1813, q_l2072, q_l10000, q_l65536, q_l1000000000, m_done, m_fails, m_thrown, m_th, gs_same, q_gsgs, c_raise0, c_raise1, c_raise2, c_raise3, c_raise4]) (by omega)
  unfold f_X7_containerByWeight
  rw [show (0 : Int32) = nI 0 from rfl]
  rcases h with ⟨j, hj, hq, hb, h⟩ | ⟨hb, h⟩
  · have hq := of_decide_eq_true hq
    exact Or.inl ⟨j, hj, hq.1, hq.2, h⟩
  · exact Or.inr ⟨fun i hi h1 h2 => of_decide_eq_false (hb i hi) ⟨h1, h2⟩, h⟩
theorem Q_containerByWeight (g : gSim M 0 (M 151)) (w : gRow β (M 151)) (hβ : β ≤ 600) (v : Int32) : gQ kN M (f_X6_containerByWeight v M) (f_X7_containerByWeight v M) := by
  obtain ⟨c, hc, h75, hP, hp⟩ := g.rows
  have shipOf : ∀ j, j < c → ¬ M (0 + 5) j = nI 12 → ∃ q, q < 60 ∧ fullB (M 151) q = true ∧ tRow M 0 j = tCell (M 151) q := fun j hj h12 => by
    rcases tAll_mem.mp (of_rows hP hj) with ⟨q, hq, hf, hqt⟩ | ⟨l, hl, hlt⟩
    · exact ⟨q, hq, hf, hqt.symm⟩
    · exact absurd (congrArg (fun t => t.2.2.2.1) hlt).symm h12
  have memS : ∀ q, q < 60 → fullB (M 151) q = true → tCell (M 151) q ∈ tShip (M 151) := fun q hq hf => List.mem_map.mpr ⟨q, List.mem_filter.mpr ⟨List.mem_range.mpr hq, hf⟩, rfl⟩
  rcases c_rowByWeight g w hβ hc h75 hP hp v with ⟨j, hj, h12, hk, h1⟩ | ⟨hno, h1⟩ <;> rcases m_byWeight (M := M) rfl w hβ v with ⟨q, hq, hf, hk', h2⟩ | ⟨hno', h2⟩
  · obtain ⟨q2, hq2, hf2, ht⟩ := shipOf j hj h12
    have e : rkT (M 151) (tRow M 0 j) = rkT (M 151) (tCell (M 151) q) := (nI_eq (by have := ship_le (r := M 151) (fun t' => hvT t' (tRow M 0 j)); unfold rkT; omega) (by have := ship_le (r := M 151) (fun t' => hvT t' (tCell (M 151) q)); unfold rkT; omega)).mp (hk.trans hk'.symm)
    rw [ht] at e
    have e2 := rk_inj g w hβ (memS q2 hq2 hf2) (memS q hq hf) e
    have e3 : M 2 j = M 151 (34 + q) := congrArg (fun t => t.1) (ht.trans e2)
    refine gQ_r (M 151 (34 + q)) ?_ h2
    unfold f_X6_containerByWeight; simp (disch := omega) only [q_seqr, q_seql, q_ig, q_ni, q_le, q_nle, q_lt, q_nlt, q_eq, q_ne, q_eqr, q_gbt, q_gbf, q_gbd, q_m1lt, q_m1ge, q_m1ne, q_m1eq, q_m1e, Option.bind_some, gLet, nI_add, pk_mul, q_sub, q_m1, q_div, q_modN, nI_clamp, if_true, if_false, Bool.false_eq_true, q_l0, q_l1, q_l2, q_l3, q_l4, q_l5, q_l6, q_l7, q_l8, q_l9, q_l10, q_l11, q_l12, q_l13, q_l14, q_l15, q_l16, q_l19, q_l20, q_l22, q_l24, q_l30, q_l32, q_l34, q_l36, q_l45, q_l47, q_l48, q_l57, q_l58, q_l59, q_l60, q_l61, q_l66, q_l75, q_l76, q_l94, q_l97, q_l99, q_l100, q_l101, q_l104, q_l105, q_l108, q_l109, q_l111, q_l114, q_l115, q_l116, q_l117, q_l118, q_l119, q_l120, q_l126, q_l132, q_l133, q_l135, q_l136, q_l138, q_l146, q_l147, q_l148, q_l149, q_l150, q_l151, q_l152, q_l153, q_l154, q_l155, q_l156, q_l157, q_l158, q_l214, q_l229, q_l244, q_l259, q_l300, q_l999, q_l1813, q_l2072, q_l10000, q_l65536, q_l1000000000, m_done, m_fails, m_thrown, m_th, gs_same, q_gsgs, c_raise0, c_raise1, c_raise2, c_raise3, c_raise4, h1, c_found, s_id hc h75 hj, Nat.zero_add, e3]
  · obtain ⟨q2, hq2, hf2, ht⟩ := shipOf j hj h12
    rw [ht] at hk
    exact absurd hk (hno' q2 hq2 hf2)
  · obtain ⟨j, hj, ht⟩ := rows_of hP (cell_mem hq hf)
    have h12 : ¬ M (0 + 5) j = nI 12 := by
      have e1 : M (0 + 5) j = nI (q / 5) := congrArg (fun t => t.2.2.2.1) ht
      rw [e1]
      intro e
      have := (nI_eq (by omega) (by omega)).mp e
      omega
    rw [← ht] at hk'
    exact absurd hk' (hno j hj h12)
  · refine gQ_l 0 (nI 0) rfl ?_ h2
    unfold f_X6_containerByWeight; simp (disch := omega) only [q_seqr, q_seql, q_ig, q_ni, q_le, q_nle, q_lt, q_nlt, q_eq, q_ne, q_eqr, q_gbt, q_gbf, q_gbd, q_m1lt, q_m1ge, q_m1ne, q_m1eq, q_m1e, Option.bind_some, gLet, nI_add, pk_mul, q_sub, q_m1, q_div, q_modN, nI_clamp, if_true, if_false, Bool.false_eq_true, q_l0, q_l1, q_l2, q_l3, q_l4, q_l5, q_l6, q_l7, q_l8, q_l9, q_l10, q_l11, q_l12, q_l13, q_l14, q_l15, q_l16, q_l19, q_l20, q_l22, q_l24, q_l30, q_l32, q_l34, q_l36, q_l45, q_l47, q_l48, q_l57, q_l58, q_l59, q_l60, q_l61, q_l66, q_l75, q_l76, q_l94, q_l97, q_l99, q_l100, q_l101, q_l104, q_l105, q_l108, q_l109, q_l111, q_l114, q_l115, q_l116, q_l117, q_l118, q_l119, q_l120, q_l126, q_l132, q_l133, q_l135, q_l136, q_l138, q_l146, q_l147, q_l148, q_l149, q_l150, q_l151, q_l152, q_l153, q_l154, q_l155, q_l156, q_l157, q_l158, q_l214, q_l229, q_l244, q_l259, q_l300, q_l999, q_l1813, q_l2072, q_l10000, q_l65536, q_l1000000000, m_done, m_fails, m_thrown, m_th, gs_same, q_gsgs, c_raise0, c_raise1, c_raise2, c_raise3, c_raise4, h1, c_found_m]
end PR
