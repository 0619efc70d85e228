/-! Numbers with a point; the whole consistent. -/
theorem vf64 {a : UInt64} (h : FP.Core.dIsNaN a = false) : gn64 a = true := by
  refine decide_eq_true ?_
  have h1 := (FP.Core.ne_nan a).mp ((FP.Core.notNaN_iff a).mp h)
  rw [UInt64.le_iff_toNat_le, UInt64.toNat_and]
  have e : (0x7fffffffffffffff : UInt64).toNat = 2 ^ 63 - 1 := by decide
  rw [e, Nat.and_two_pow_sub_one_eq_mod]
  exact h1
theorem vf32 {a : UInt32} (h : FP.Core.fIsNaN a = false) : gn32 a = true := by
  refine decide_eq_true ?_
  have h1 := (FP.Core.ne_nan32 a).mp ((FP.Core.notNaN_iff32 a).mp h)
  rw [UInt32.le_iff_toNat_le, UInt32.toNat_and]
  have e : (0x7fffffff : UInt32).toNat = 2 ^ 31 - 1 := by decide
  rw [e, Nat.and_two_pow_sub_one_eq_mod]
  exact h1
theorem nn_ddiv {x y : Int32} (hy : y ≠ 0) : FP.Core.dIsNaN (FP.ddiv (FP.i2d x) (FP.i2d y)) = false := by
  refine FP.Core.ddiv_out ?_ (FP.Core.i2d_fin y) (fun hz => FP.Core.i2d_ne_zero hy ((FP.Core.zero_bits2 _).mp hz))
  obtain ⟨s, c, q, h⟩ := FP.Core.i2d_fin x
  rw [FP.Core.notNaN_iff]
  intro e
  have h : FP.Core.val64 (FP.i2d x) = .fin s c q := h
  rw [h] at e
  cases e
theorem nn_fdiv {x y : Int32} (hy : y ≠ 0) : FP.Core.fIsNaN (FP.fdiv (FP.i2f x) (FP.i2f y)) = false := by
  refine FP.Core.fdiv_out ?_ (FP.Core.i2f_fin y) (fun hz => FP.Core.i2f_ne_zero hy ((FP.Core.zero_bits232 _).mp hz))
  obtain ⟨s, c, q, h⟩ := FP.Core.i2f_fin x
  rw [FP.Core.notNaN_iff32]
  intro e
  have h : FP.Core.val32 (FP.i2f x) = .fin s c q := h
  rw [h] at e
  cases e
section PF
variable {M : gM} {o : Nat} {r : Nat → Int32} {β : Nat}
theorem cnt_full (r : Nat → Int32) (n : Nat) (h5 : ∀ p, p < n → hN r p ≤ 5) : (List.range (5 * n)).countP (fullB r) = ((List.range n).map (hN r)).sum := by
  induction n with
  | zero => rfl
  | succ n ih =>
    have e : List.range (5 * (n + 1)) = List.range (5 * n) ++ [5 * n, 5 * n + 1, 5 * n + 2, 5 * n + 3, 5 * n + 4] := by
      rw [show 5 * (n + 1) = 5 * n + 1 + 1 + 1 + 1 + 1 by omega]
      simp only [List.range_succ, List.append_assoc, List.singleton_append, List.nil_append, List.cons_append]
    have hn := h5 n (by omega)
    rw [e, List.countP_append, ih (fun p hp => h5 p (by omega)), List.range_succ, List.map_append, List.sum_append]
    have d0 : (5 * n) / 5 = n := by omega
    have d1 : (5 * n + 1) / 5 = n := by omega
    have d2 : (5 * n + 2) / 5 = n := by omega
    have d3 : (5 * n + 3) / 5 = n := by omega
    have d4 : (5 * n + 4) / 5 = n := by omega
    have m0 : (5 * n) % 5 = 0 := by omega
    have m1 : (5 * n + 1) % 5 = 1 := by omega
    have m2 : (5 * n + 2) % 5 = 2 := by omega
    have m3 : (5 * n + 3) % 5 = 3 := by omega
    have m4 : (5 * n + 4) % 5 = 4 := by omega
    simp only [List.countP_cons, List.countP_nil, fullB, d0, d1, d2, d3, d4, m0, m1, m2, m3, m4, decide_eq_true_eq, List.map_cons, List.map_nil, List.sum_cons, List.sum_nil]
    generalize hN r n = k at hn
    have : k = 0 ∨ k = 1 ∨ k = 2 ∨ k = 3 ∨ k = 4 ∨ k = 5 := by omega
    rcases this with e | e | e | e | e | e <;> subst e <;> simp
theorem ship_len (w : gRow β r) : (tShip r).length = ldN r 0 + ldN r 1 + ldN r 2 := by
  rw [tShip, List.length_map, ← List.countP_eq_length_filter]
  have := cnt_full r 12 (fun p hp => (w.h hp).2)
  rw [show 5 * 12 = 60 by decide] at this
  rw [this, range12]
  simp [ldN]
  omega
theorem all_len (w : gRow β r) : (tAll r).length = ldN r 0 + ldN r 1 + ldN r 2 + yN r := by
  rw [tAll, List.length_append, ship_len w, tYard, List.length_map, List.length_range]
theorem rows_len (w : gRow β r) {c : Nat} (hP : (tRows M o c).Perm (tAll r)) : c = ldN r 0 + ldN r 1 + ldN r 2 + yN r := by
  have := hP.length_eq
  rw [tRows_len, all_len w] at this
  exact this
theorem c_onShips (g : gSim M o r) (w : gRow β r) : f_X0_onShips o M = some (nI (ldN r 0 + ldN r 1 + ldN r 2)) := by
  obtain ⟨c, hc, h75, hP, -⟩ := g.rows
  have e := rows_len w hP
  have hy := sim_yard g w
  rw [w.y.1] at hy
  unfold f_X0_onShips
  simp (disch := omega) only [q_seqr, q_seql, q_ig, q_ni, q_le, q_nle, q_lt, q_nlt, q_eq, q_ne, q_eqr, q_gbt, q_gbf, q_gbd, q_m1lt, q_m1ge, q_m1ne, q_m1eq, q_m1e, Option.bind_some, gLet, nI_add, pk_mul, q_sub, q_m1, q_div, q_modN, nI_clamp, if_true, if_false, Bool.false_eq_true, q_l0, q_l1, q_l2, q_l3, q_l4, q_l5, q_l6, q_l7, q_l8, q_l9, q_l10, q_l11, q_l12, q_l13, q_l14, q_l15, q_l16, q_l19, q_l20, q_l22, q_l24, q_l30, q_l32, q_l34, q_l36, q_l45, q_l47, q_l48, q_l57, q_l58, q_l59, q_l60, q_l61, q_l66, q_l75, q_l76, q_l94, q_l97, q_l99, q_l100, q_l101, q_l104, q_l105, q_l108, q_l109, q_l111, q_l114, q_l115, q_l116, q_l117, q_l118, q_l119, q_l120, q_l126, q_l132, q_l133, q_l135, q_l136, q_l138, q_l146, q_l147, q_l148, q_l149, q_l150, q_l151, q_l152, q_l153, q_l154, q_l155, q_l156, q_l157, q_l158, q_l214, q_l229, q_l244, q_l259, q_l300, q_l999, q_l1813, q_l2072, q_l10000, q_l65536, q_l1000000000, hy, hc]
  rw [show c - yN r = ldN r 0 + ldN r 1 + ldN r 2 by omega]
theorem ships_n (w : gRow β r) : ∃ s, r 7 + r 8 + r 9 = nI s ∧ s ≤ 3 := by
  have e0 := w.b (b := 0) (by omega)
  have e1 := w.b (b := 1) (by omega)
  have e2 := w.b (b := 2) (by omega)
  simp only [Nat.add_zero, Nat.reduceAdd] at e0 e1 e2
  rcases e0 with e0 | ⟨e0, -⟩ <;> rcases e1 with e1 | ⟨e1, -⟩ <;> rcases e2 with e2 | ⟨e2, -⟩ <;> rw [e0, e1, e2, nI_add, nI_add] <;> exact ⟨_, rfl, by omega⟩
theorem mh_c0 (hc : f_X5_ships 0 M = some (nI 0)) : f_X6_meanHeight M = some (.inl "java/lang/ArithmeticException", M) := by
  unfold f_X6_meanHeight; simp (disch := omega) only [q_seqr, q_seql, q_ig, q_ni, q_le, q_nle, q_lt, q_nlt, q_eq, q_ne, q_eqr, q_gbt, q_gbf, q_gbd, q_m1lt, q_m1ge, q_m1ne, q_m1eq, q_m1e, Option.bind_some, gLet, nI_add, pk_mul, q_sub, q_m1, q_div, q_modN, nI_clamp, if_true, if_false, Bool.false_eq_true, q_l0, q_l1, q_l2, q_l3, q_l4, q_l5, q_l6, q_l7, q_l8, q_l9, q_l10, q_l11, q_l12, q_l13, q_l14, q_l15, q_l16, q_l19, q_l20, q_l22, q_l24, q_l30, q_l32, q_l34, q_l36, q_l45, q_l47, q_l48, q_l57, q_l58, q_l59, q_l60, q_l61, q_l66, q_l75, q_l76, q_l94, q_l97, q_l99, q_l100, q_l101, q_l104, q_l105, q_l108, q_l109, q_l111, q_l114, q_l115, q_l116, q_l117, q_l118, q_l119, q_l120, q_l126, q_l132, q_l133, q_l135, q_l136, q_l138, q_l146, q_l147, q_l148, q_l149, q_l150, q_l151, q_l152, q_l153, q_l154, q_l155, q_l156, q_l157, q_l158, q_l214, q_l229, q_l244, q_l259, q_l300, q_l999, q_l1813, q_l2072, q_l10000, q_l65536, q_l1000000000, m_done, m_fails, m_thrown, m_th, gs_same, q_gsgs, c_raise0, c_raise1, c_raise2, c_raise3, c_raise4, hc]
theorem mh_c1 {s a : Nat} (hc : f_X5_ships 0 M = some (nI s)) (h0 : s ≠ 0) (hs : s ≤ 3) (ho : f_X0_onShips 0 M = some (nI a)) (nn : gn64 (FP.ddiv (FP.i2d (nI a)) (FP.i2d (nI (4 * s)))) = true) : f_X6_meanHeight M = some (.inr (FP.ddiv (FP.i2d (nI a)) (FP.i2d (nI (4 * s)))), M) := by
  unfold f_X6_meanHeight; simp (disch := omega) only [q_seqr, q_seql, q_ig, q_ni, q_le, q_nle, q_lt, q_nlt, q_eq, q_ne, q_eqr, q_gbt, q_gbf, q_gbd, q_m1lt, q_m1ge, q_m1ne, q_m1eq, q_m1e, Option.bind_some, gLet, nI_add, pk_mul, q_sub, q_m1, q_div, q_modN, nI_clamp, if_true, if_false, Bool.false_eq_true, q_l0, q_l1, q_l2, q_l3, q_l4, q_l5, q_l6, q_l7, q_l8, q_l9, q_l10, q_l11, q_l12, q_l13, q_l14, q_l15, q_l16, q_l19, q_l20, q_l22, q_l24, q_l30, q_l32, q_l34, q_l36, q_l45, q_l47, q_l48, q_l57, q_l58, q_l59, q_l60, q_l61, q_l66, q_l75, q_l76, q_l94, q_l97, q_l99, q_l100, q_l101, q_l104, q_l105, q_l108, q_l109, q_l111, q_l114, q_l115, q_l116, q_l117, q_l118, q_l119, q_l120, q_l126, q_l132, q_l133, q_l135, q_l136, q_l138, q_l146, q_l147, q_l148, q_l149, q_l150, q_l151, q_l152, q_l153, q_l154, q_l155, q_l156, q_l157, q_l158, q_l214, q_l229, q_l244, q_l259, q_l300, q_l999, q_l1813, q_l2072, q_l10000, q_l65536, q_l1000000000, m_done, m_fails, m_thrown, m_th, gs_same, q_gsgs, c_raise0, c_raise1, c_raise2, c_raise3, c_raise4, hc, ho, nn]
theorem q_gLet {α β : Type} (v : α) (f : α → β) : gLet v f = f v := rfl
theorem mh_m0 (hm0 : f_X7_ships M = some (nI 0)) : f_X7_meanHeight M = some (FP.dconst0, gs M 150 13 1) := by
  unfold f_X7_meanHeight
  rw [hm0, Option.bind_some, if_pos (show nI 0 = 0 from rfl), q_gLet, if_neg (show ¬ gs M 150 13 1 150 13 = 0 by rw [gs_same]; decide)]
theorem mh_m1 {s a b c : Nat} (hm0 : f_X7_ships M = some (nI s)) (h0 : ¬ nI s = 0) (hm : f_X7_ships (gs M 150 13 0) = some (nI s)) (l0 : f_X7_load 0 (gs M 150 13 0) = some (nI a)) (l1 : f_X7_load 1 (gs M 150 13 0) = some (nI b)) (l2 : f_X7_load 2 (gs M 150 13 0) = some (nI c)) (nn : gn64 (FP.ddiv (FP.i2d (nI a + nI b + nI c)) (FP.i2d (4 * nI s))) = true) : f_X7_meanHeight M = some (FP.ddiv (FP.i2d (nI a + nI b + nI c)) (FP.i2d (4 * nI s)), gs M 150 13 0) := by
  unfold f_X7_meanHeight
  rw [hm0, Option.bind_some, if_neg h0, q_gLet, if_pos (gs_same _ _ _ _), l0, Option.bind_some, l1, Option.bind_some, l2, Option.bind_some, hm, Option.bind_some, if_pos nn]
theorem Q_meanHeight (g : gSim M 0 (M 151)) (w : gRow β (M 151)) : gQ kR M (f_X6_meanHeight M) (f_X7_meanHeight M) := by
  obtain ⟨s, hs, hs3⟩ := ships_n w
  have hc := c_ships g w
  rw [hs] at hc
  have hm : ∀ v, f_X7_ships (gs M 150 13 v) = some (nI s) := fun v => by rw [m_ships, m_thrown, hs]
  have hm0 : f_X7_ships M = some (nI s) := by rw [m_ships, hs]
  by_cases h0 : s = 0
  · subst h0
    exact gQ_l 0 FP.dconst0 rfl (mh_c0 hc) (mh_m0 hm0)
  · have hz : nI (4 * s) ≠ 0 := fun e => by
      have := (nI_eq (a := 4 * s) (b := 0) (by omega) (by omega)).mp e
      omega
    have nn := vf64 (nn_ddiv (x := nI (ldN (M 151) 0 + ldN (M 151) 1 + ldN (M 151) 2)) hz)
    have l0 := m_load (M := gs M 150 13 0) (w.thr 0) (b := 0) (by omega)
    have l1 := m_load (M := gs M 150 13 0) (w.thr 0) (b := 1) (by omega)
    have l2 := m_load (M := gs M 150 13 0) (w.thr 0) (b := 2) (by omega)
    rw [m_thrown] at l0 l1 l2
    have e4 : (4 : Int32) * nI s = nI (4 * s) := pk_mul 4 s
    have h0' : ¬ nI s = 0 := fun e => by
      have := (nI_eq (a := s) (b := 0) (by omega) (by omega)).mp e
      omega
    have hm1 := mh_m1 hm0 h0' (hm 0) l0 l1 l2 (by rw [nI_add, nI_add, e4]; exact nn)
    rw [nI_add, nI_add, e4] at hm1
    exact gQ_r _ (mh_c1 hc h0 hs3 (c_onShips g w) nn) hm1
theorem Q_rightShare (g : gSim M 0 (M 151)) : gQ kR M (f_X6_rightShare M) (f_X7_rightShare M) := by
  have e1 : M 0 8 = M 151 3 := g.1.2.2.2.1
  have e2 : M 0 10 = M 151 5 := g.1.2.2.2.2.2
  by_cases h0 : M 151 3 + M 151 5 = nI 0
  · refine gQ_l 0 FP.fconst0 rfl ?_ ?_
    · unfold f_X6_rightShare; simp (disch := omega) only [q_seqr, q_seql, q_ig, q_ni, q_le, q_nle, q_lt, q_nlt, q_eq, q_ne, q_eqr, q_gbt, q_gbf, q_gbd, q_m1lt, q_m1ge, q_m1ne, q_m1eq, q_m1e, Option.bind_some, gLet, nI_add, pk_mul, q_sub, q_m1, q_div, q_modN, nI_clamp, if_true, if_false, Bool.false_eq_true, q_l0, q_l1, q_l2, q_l3, q_l4, q_l5, q_l6, q_l7, q_l8, q_l9, q_l10, q_l11, q_l12, q_l13, q_l14, q_l15, q_l16, q_l19, q_l20, q_l22, q_l24, q_l30, q_l32, q_l34, q_l36, q_l45, q_l47, q_l48, q_l57, q_l58, q_l59, q_l60, q_l61, q_l66, q_l75, q_l76, q_l94, q_l97, q_l99, q_l100, q_l101, q_l104, q_l105, q_l108, q_l109, q_l111, q_l114, q_l115, q_l116, q_l117, q_l118, q_l119, q_l120, q_l126, q_l132, q_l133, q_l135, q_l136, q_l138, q_l146, q_l147, q_l148, q_l149, q_l150, q_l151, q_l152, q_l153, q_l154, q_l155, q_l156, q_l157, q_l158, q_l214, q_l229, q_l244, q_l259, q_l300, q_l999, q_l1813, q_l2072, q_l10000, q_l65536, q_l1000000000, m_done, m_fails, m_thrown, m_th, gs_same, q_gsgs, c_raise0, c_raise1, c_raise2, c_raise3, c_raise4, e1, e2, h0]
    · unfold f_X7_rightShare; simp (disch := omega) only [q_seqr, q_seql, q_ig, q_ni, q_le, q_nle, q_lt, q_nlt, q_eq, q_ne, q_eqr, q_gbt, q_gbf, q_gbd, q_m1lt, q_m1ge, q_m1ne, q_m1eq, q_m1e, Option.bind_some, gLet, nI_add, pk_mul, q_sub, q_m1, q_div, q_modN, nI_clamp, if_true, if_false, Bool.false_eq_true, q_l0, q_l1, q_l2, q_l3, q_l4, q_l5, q_l6, q_l7, q_l8, q_l9, q_l10, q_l11, q_l12, q_l13, q_l14, q_l15, q_l16, q_l19, q_l20, q_l22, q_l24, q_l30, q_l32, q_l34, q_l36, q_l45, q_l47, q_l48, q_l57, q_l58, q_l59, q_l60, q_l61, q_l66, q_l75, q_l76, q_l94, q_l97, q_l99, q_l100, q_l101, q_l104, q_l105, q_l108, q_l109, q_l111, q_l114, q_l115, q_l116, q_l117, q_l118, q_l119, q_l120, q_l126, q_l132, q_l133, q_l135, q_l136, q_l138, q_l146, q_l147, q_l148, q_l149, q_l150, q_l151, q_l152, q_l153, q_l154, q_l155, q_l156, q_l157, q_l158, q_l214, q_l229, q_l244, q_l259, q_l300, q_l999, q_l1813, q_l2072, q_l10000, q_l65536, q_l1000000000, m_done, m_fails, m_thrown, m_th, gs_same, q_gsgs, c_raise0, c_raise1, c_raise2, c_raise3, c_raise4, h0]
  · have nn := vf32 (nn_fdiv (x := M 151 3) h0)
    refine gQ_r (FP.fdiv (FP.i2f (M 151 3)) (FP.i2f (M 151 3 + M 151 5))) ?_ ?_
    · unfold f_X6_rightShare; simp (disch := omega) only [q_seqr, q_seql, q_ig, q_ni, q_le, q_nle, q_lt, q_nlt, q_eq, q_ne, q_eqr, q_gbt, q_gbf, q_gbd, q_m1lt, q_m1ge, q_m1ne, q_m1eq, q_m1e, Option.bind_some, gLet, nI_add, pk_mul, q_sub, q_m1, q_div, q_modN, nI_clamp, if_true, if_false, Bool.false_eq_true, q_l0, q_l1, q_l2, q_l3, q_l4, q_l5, q_l6, q_l7, q_l8, q_l9, q_l10, q_l11, q_l12, q_l13, q_l14, q_l15, q_l16, q_l19, q_l20, q_l22, q_l24, q_l30, q_l32, q_l34, q_l36, q_l45, q_l47, q_l48, q_l57, q_l58, q_l59, q_l60, q_l61, q_l66, q_l75, q_l76, q_l94, q_l97, q_l99, q_l100, q_l101, q_l104, q_l105, q_l108, q_l109, q_l111, q_l114, q_l115, q_l116, q_l117, q_l118, q_l119, q_l120, q_l126, q_l132, q_l133, q_l135, q_l136, q_l138, q_l146, q_l147, q_l148, q_l149, q_l150, q_l151, q_l152, q_l153, q_l154, q_l155, q_l156, q_l157, q_l158, q_l214, q_l229, q_l244, q_l259, q_l300, q_l999, q_l1813, q_l2072, q_l10000, q_l65536, q_l1000000000, m_done, m_fails, m_thrown, m_th, gs_same, q_gsgs, c_raise0, c_raise1, c_raise2, c_raise3, c_raise4, e1, e2, if_neg h0, nn]
    · unfold f_X7_rightShare; simp (disch := omega) only [q_seqr, q_seql, q_ig, q_ni, q_le, q_nle, q_lt, q_nlt, q_eq, q_ne, q_eqr, q_gbt, q_gbf, q_gbd, q_m1lt, q_m1ge, q_m1ne, q_m1eq, q_m1e, Option.bind_some, gLet, nI_add, pk_mul, q_sub, q_m1, q_div, q_modN, nI_clamp, if_true, if_false, Bool.false_eq_true, q_l0, q_l1, q_l2, q_l3, q_l4, q_l5, q_l6, q_l7, q_l8, q_l9, q_l10, q_l11, q_l12, q_l13, q_l14, q_l15, q_l16, q_l19, q_l20, q_l22, q_l24, q_l30, q_l32, q_l34, q_l36, q_l45, q_l47, q_l48, q_l57, q_l58, q_l59, q_l60, q_l61, q_l66, q_l75, q_l76, q_l94, q_l97, q_l99, q_l100, q_l101, q_l104, q_l105, q_l108, q_l109, q_l111, q_l114, q_l115, q_l116, q_l117, q_l118, q_l119, q_l120, q_l126, q_l132, q_l133, q_l135, q_l136, q_l138, q_l146, q_l147, q_l148, q_l149, q_l150, q_l151, q_l152, q_l153, q_l154, q_l155, q_l156, q_l157, q_l158, q_l214, q_l229, q_l244, q_l259, q_l300, q_l999, q_l1813, q_l2072, q_l10000, q_l65536, q_l1000000000, m_done, m_fails, m_thrown, m_th, gs_same, q_gsgs, c_raise0, c_raise1, c_raise2, c_raise3, c_raise4, if_neg h0, nn]
/-! consistency -/
theorem c_wait0 (g : gSim M o r) (w : gRow β r) {b : Nat} (hb : b < 3) (h : f_X5_hasShip o (nI b) M = some false) : f_X5_waitHourByHour o (nI b) M = some (nI 12) := by
  unfold f_X5_waitHourByHour
  rw [show (0 : Int32) = nI 0 from rfl]
  have fl : ∀ k, f_X5_floatsAfter o (nI b) (nI k) M = some false := fun k => by unfold f_X5_floatsAfter; simp (disch := omega) only [q_seqr, q_seql, q_ig, q_ni, q_le, q_nle, q_lt, q_nlt, q_eq, q_ne, q_eqr, q_gbt, q_gbf, q_gbd, q_m1lt, q_m1ge, q_m1ne, q_m1eq, q_m1e, Option.bind_some, gLet, nI_add, pk_mul, q_sub, q_m1, q_div, q_modN, nI_clamp, if_true, if_false, Bool.false_eq_true, q_l0, q_l1, q_l2, q_l3, q_l4, q_l5, q_l6, q_l7, q_l8, q_l9, q_l10, q_l11, q_l12, q_l13, q_l14, q_l15, q_l16, q_l19, q_l20, q_l22, q_l24, q_l30, q_l32, q_l34, q_l36, q_l45, q_l47, q_l48, q_l57, q_l58, q_l59, q_l60, q_l61, q_l66, q_l75, q_l76, q_l94, q_l97, q_l99, q_l100, q_l101, q_l104, q_l105, q_l108, q_l109, q_l111, q_l114, q_l115, q_l116, q_l117, q_l118, q_l119, q_l120, q_l126, q_l132, q_l133, q_l135, q_l136, q_l138, q_l146, q_l147, q_l148, q_l149, q_l150, q_l151, q_l152, q_l153, q_l154, q_l155, q_l156, q_l157, q_l158, q_l214, q_l229, q_l244, q_l259, q_l300, q_l999, q_l1813, q_l2072, q_l10000, q_l65536, q_l1000000000, h]
  rcases lp_find (fun n k => f_X5_waitHourByHour_L2 o M (nI b) n k) (fun _ => false) (fun k => nI k) (nI 12) 12 (fun n k hk => by
    show f_X5_waitHourByHour_L2 o M (nI b) (n + 1) (nI k) = _
    rw [f_X5_waitHourByHour_L2]
    simp (disch := omega) only [q_seqr, q_seql, q_ig, q_ni, q_le, q_nle, q_lt, q_nlt, q_eq, q_ne, q_eqr, q_gbt, q_gbf, q_gbd, q_m1lt, q_m1ge, q_m1ne, q_m1eq, q_m1e, Option.bind_some, gLet, nI_add, pk_mul, q_sub, q_m1, q_div, q_modN, nI_clamp, if_true, if_false, Bool.false_eq_true, q_l0, q_l1, q_l2, q_l3, q_l4, q_l5, q_l6, q_l7, q_l8, q_l9, q_l10, q_l11, q_l12, q_l13, q_l14, q_l15, q_l16, q_l19, q_l20, q_l22, q_l24, q_l30, q_l32, q_l34, q_l36, q_l45, q_l47, q_l48, q_l57, q_l58, q_l59, q_l60, q_l61, q_l66, q_l75, q_l76, q_l94, q_l97, q_l99, q_l100, q_l101, q_l104, q_l105, q_l108, q_l109, q_l111, q_l114, q_l115, q_l116, q_l117, q_l118, q_l119, q_l120, q_l126, q_l132, q_l133, q_l135, q_l136, q_l138, q_l146, q_l147, q_l148, q_l149, q_l150, q_l151, q_l152, q_l153, q_l154, q_l155, q_l156, q_l157, q_l158, q_l214, q_l229, q_l244, q_l259, q_l300, q_l999, q_l1813, q_l2072, q_l10000, q_l65536, q_l1000000000, fl k]) (fun n => by
    show f_X5_waitHourByHour_L2 o M (nI b) (n + 1) (nI 12) = _
    rw [f_X5_waitHourByHour_L2]
    simp (disch := omega) only [q_seqr, q_seql, q_ig, q_ni, q_le, q_nle, q_lt, q_nlt, q_eq, q_ne, q_eqr, q_gbt, q_gbf, q_gbd, q_m1lt, q_m1ge, q_m1ne, q_m1eq, q_m1e, Option.bind_some, gLet, nI_add, pk_mul, q_sub, q_m1, q_div, q_modN, nI_clamp, if_true, if_false, Bool.false_eq_true, q_l0, q_l1, q_l2, q_l3, q_l4, q_l5, q_l6, q_l7, q_l8, q_l9, q_l10, q_l11, q_l12, q_l13, q_l14, q_l15, q_l16, q_l19, q_l20, q_l22, q_l24, q_l30, q_l32, q_l34, q_l36, q_l45, q_l47, q_l48, q_l57, q_l58, q_l59, q_l60, q_l61, q_l66, q_l75, q_l76, q_l94, q_l97, q_l99, q_l100, q_l101, q_l104, q_l105, q_l108, q_l109, q_l111, q_l114, q_l115, q_l116, q_l117, q_l118, q_l119, q_l120, q_l126, q_l132, q_l133, q_l135, q_l136, q_l138, q_l146, q_l147, q_l148, q_l149, q_l150, q_l151, q_l152, q_l153, q_l154, q_l155, q_l156, q_l157, q_l158, q_l214, q_l229, q_l244, q_l259, q_l300, q_l999, q_l1813, q_l2072, q_l10000, q_l65536, q_l1000000000]) (by omega) with ⟨j, hj, hp, -⟩ | ⟨-, h⟩
  · cases hp
  · exact h
theorem c_shipsAgree (g : gSim M o r) (w : gRow β r) (hβ : β ≤ 600) : f_X5_shipsAgree o M = some true := by
  have hh := w.hrs hβ
  unfold f_X5_shipsAgree
  rw [show (0 : Int32) = nI 0 from rfl]
  have key := lp_all (fun n k => f_X5_shipsAgree_L2 o M n k) (fun _ => true) 3 (fun n k hk => by
    show f_X5_shipsAgree_L2 o M (n + 1) (nI k) = _
    rw [f_X5_shipsAgree_L2]
    rcases sim_ship g w hk with ⟨h1, h2⟩ | ⟨h1, h2, -⟩
    · have hw : ∃ x, f_X5_waitByTide o (nI k) M = some x := by
        unfold f_X5_waitByTide
        simp (disch := omega) only [q_seqr, q_seql, q_ig, q_ni, q_le, q_nle, q_lt, q_nlt, q_eq, q_ne, q_eqr, q_gbt, q_gbf, q_gbd, q_m1lt, q_m1ge, q_m1ne, q_m1eq, q_m1e, Option.bind_some, gLet, nI_add, pk_mul, q_sub, q_m1, q_div, q_modN, nI_clamp, if_true, if_false, Bool.false_eq_true, q_l0, q_l1, q_l2, q_l3, q_l4, q_l5, q_l6, q_l7, q_l8, q_l9, q_l10, q_l11, q_l12, q_l13, q_l14, q_l15, q_l16, q_l19, q_l20, q_l22, q_l24, q_l30, q_l32, q_l34, q_l36, q_l45, q_l47, q_l48, q_l57, q_l58, q_l59, q_l60, q_l61, q_l66, q_l75, q_l76, q_l94, q_l97, q_l99, q_l100, q_l101, q_l104, q_l105, q_l108, q_l109, q_l111, q_l114, q_l115, q_l116, q_l117, q_l118, q_l119, q_l120, q_l126, q_l132, q_l133, q_l135, q_l136, q_l138, q_l146, q_l147, q_l148, q_l149, q_l150, q_l151, q_l152, q_l153, q_l154, q_l155, q_l156, q_l157, q_l158, q_l214, q_l229, q_l244, q_l259, q_l300, q_l999, q_l1813, q_l2072, q_l10000, q_l65536, q_l1000000000, h2, g.1.1, hh.1, c_floorMod]
        exact ⟨_, rfl⟩
      obtain ⟨x, hx⟩ := hw
      simp (disch := omega) only [q_seqr, q_seql, q_ig, q_ni, q_le, q_nle, q_lt, q_nlt, q_eq, q_ne, q_eqr, q_gbt, q_gbf, q_gbd, q_m1lt, q_m1ge, q_m1ne, q_m1eq, q_m1e, Option.bind_some, gLet, nI_add, pk_mul, q_sub, q_m1, q_div, q_modN, nI_clamp, if_true, if_false, Bool.false_eq_true, q_l0, q_l1, q_l2, q_l3, q_l4, q_l5, q_l6, q_l7, q_l8, q_l9, q_l10, q_l11, q_l12, q_l13, q_l14, q_l15, q_l16, q_l19, q_l20, q_l22, q_l24, q_l30, q_l32, q_l34, q_l36, q_l45, q_l47, q_l48, q_l57, q_l58, q_l59, q_l60, q_l61, q_l66, q_l75, q_l76, q_l94, q_l97, q_l99, q_l100, q_l101, q_l104, q_l105, q_l108, q_l109, q_l111, q_l114, q_l115, q_l116, q_l117, q_l118, q_l119, q_l120, q_l126, q_l132, q_l133, q_l135, q_l136, q_l138, q_l146, q_l147, q_l148, q_l149, q_l150, q_l151, q_l152, q_l153, q_l154, q_l155, q_l156, q_l157, q_l158, q_l214, q_l229, q_l244, q_l259, q_l300, q_l999, q_l1813, q_l2072, q_l10000, q_l65536, q_l1000000000, c_weightByStacks g w hk, c_weightByIds g w hk, c_wait0 g w hk h2, hx, h2]
      split <;> rfl
    · have a := w.ship hβ hk h1
      obtain ⟨j, j1, j2, j3, j4⟩ := c_wait g w hk hh.1 (by omega) h1 a.1 a.2.2.1
      obtain ⟨k1, k2⟩ := wtF_ok (drN r k) (by omega) (hrN r % 12) (by omega)
      simp only [tdN_mod] at k1 k2
      have := first_eq (P := fun i => decide (drN r k ≤ 4 + tdN (hrN r + i))) k1 k2 j2 j3
      subst this
      simp (disch := omega) only [q_seqr, q_seql, q_ig, q_ni, q_le, q_nle, q_lt, q_nlt, q_eq, q_ne, q_eqr, q_gbt, q_gbf, q_gbd, q_m1lt, q_m1ge, q_m1ne, q_m1eq, q_m1e, Option.bind_some, gLet, nI_add, pk_mul, q_sub, q_m1, q_div, q_modN, nI_clamp, if_true, if_false, Bool.false_eq_true, q_l0, q_l1, q_l2, q_l3, q_l4, q_l5, q_l6, q_l7, q_l8, q_l9, q_l10, q_l11, q_l12, q_l13, q_l14, q_l15, q_l16, q_l19, q_l20, q_l22, q_l24, q_l30, q_l32, q_l34, q_l36, q_l45, q_l47, q_l48, q_l57, q_l58, q_l59, q_l60, q_l61, q_l66, q_l75, q_l76, q_l94, q_l97, q_l99, q_l100, q_l101, q_l104, q_l105, q_l108, q_l109, q_l111, q_l114, q_l115, q_l116, q_l117, q_l118, q_l119, q_l120, q_l126, q_l132, q_l133, q_l135, q_l136, q_l138, q_l146, q_l147, q_l148, q_l149, q_l150, q_l151, q_l152, q_l153, q_l154, q_l155, q_l156, q_l157, q_l158, q_l214, q_l229, q_l244, q_l259, q_l300, q_l999, q_l1813, q_l2072, q_l10000, q_l65536, q_l1000000000, c_weightByStacks g w hk, c_weightByIds g w hk, j4, c_waitTide g w hk hh.1 (by omega) h1 a.1 a.2.2.1, h2]) (fun n => by
    show f_X5_shipsAgree_L2 o M (n + 1) (nI 3) = _
    rw [f_X5_shipsAgree_L2]
    simp (disch := omega) only [q_seqr, q_seql, q_ig, q_ni, q_le, q_nle, q_lt, q_nlt, q_eq, q_ne, q_eqr, q_gbt, q_gbf, q_gbd, q_m1lt, q_m1ge, q_m1ne, q_m1eq, q_m1e, Option.bind_some, gLet, nI_add, pk_mul, q_sub, q_m1, q_div, q_modN, nI_clamp, if_true, if_false, Bool.false_eq_true, q_l0, q_l1, q_l2, q_l3, q_l4, q_l5, q_l6, q_l7, q_l8, q_l9, q_l10, q_l11, q_l12, q_l13, q_l14, q_l15, q_l16, q_l19, q_l20, q_l22, q_l24, q_l30, q_l32, q_l34, q_l36, q_l45, q_l47, q_l48, q_l57, q_l58, q_l59, q_l60, q_l61, q_l66, q_l75, q_l76, q_l94, q_l97, q_l99, q_l100, q_l101, q_l104, q_l105, q_l108, q_l109, q_l111, q_l114, q_l115, q_l116, q_l117, q_l118, q_l119, q_l120, q_l126, q_l132, q_l133, q_l135, q_l136, q_l138, q_l146, q_l147, q_l148, q_l149, q_l150, q_l151, q_l152, q_l153, q_l154, q_l155, q_l156, q_l157, q_l158, q_l214, q_l229, q_l244, q_l259, q_l300, q_l999, q_l1813, q_l2072, q_l10000, q_l65536, q_l1000000000]) (by omega)
  exact key
theorem Q_isConsistent (g : gSim M 0 (M 151)) (w : gRow β (M 151)) (hβ : β ≤ 600) : ∃ M1, (∀ a, a ≠ 7 → M1 a = M a) ∧ f_X6_isConsistent M = some (true, M1) ∧ f_X7_isConsistent M1 = some (true, gs M1 150 13 (nI 0)) := by
  obtain ⟨M1, h1, hd⟩ := c_digs g w
  have h1 : ∀ a, a ≠ 7 → M1 a = M a := fun a ha => h1 a (by omega)
  have e151 : M1 151 = M 151 := h1 151 (by omega)
  have g1 : gSim M1 0 (M 151) := g.frame (fun b _ _ hb => h1 b (by omega))
  obtain ⟨c, hc, h75, hP, hp⟩ := g1.rows
  have hy := sim_yard g1 w
  rw [w.y.1] at hy
  obtain ⟨d, d1, d2⟩ := w.dl
  refine ⟨M1, h1, ?_, ?_⟩
  · unfold f_X6_isConsistent
    have e7 : M1 0 7 = nI (nxN (M 151)) := g1.1.2.2.1.trans w.nx.1
    have e9 : M1 0 9 = nI d := g1.1.2.2.2.2.1.trans d1
    have el := all_len w
    simp (disch := omega) only [q_seqr, q_seql, q_ig, q_ni, q_le, q_nle, q_lt, q_nlt, q_eq, q_ne, q_eqr, q_gbt, q_gbf, q_gbd, q_m1lt, q_m1ge, q_m1ne, q_m1eq, q_m1e, Option.bind_some, gLet, nI_add, pk_mul, q_sub, q_m1, q_div, q_modN, nI_clamp, if_true, if_false, Bool.false_eq_true, q_l0, q_l1, q_l2, q_l3, q_l4, q_l5, q_l6, q_l7, q_l8, q_l9, q_l10, q_l11, q_l12, q_l13, q_l14, q_l15, q_l16, q_l19, q_l20, q_l22, q_l24, q_l30, q_l32, q_l34, q_l36, q_l45, q_l47, q_l48, q_l57, q_l58, q_l59, q_l60, q_l61, q_l66, q_l75, q_l76, q_l94, q_l97, q_l99, q_l100, q_l101, q_l104, q_l105, q_l108, q_l109, q_l111, q_l114, q_l115, q_l116, q_l117, q_l118, q_l119, q_l120, q_l126, q_l132, q_l133, q_l135, q_l136, q_l138, q_l146, q_l147, q_l148, q_l149, q_l150, q_l151, q_l152, q_l153, q_l154, q_l155, q_l156, q_l157, q_l158, q_l214, q_l229, q_l244, q_l259, q_l300, q_l999, q_l1813, q_l2072, q_l10000, q_l65536, q_l1000000000, c_shipsAgree g w hβ, hd, c_pairs w hc h75 hP, c_groups w hc h75 hP, c_onShips g1 w, hy, e7, e9]
  · unfold f_X7_isConsistent; simp (disch := omega) only [q_seqr, q_seql, q_ig, q_ni, q_le, q_nle, q_lt, q_nlt, q_eq, q_ne, q_eqr, q_gbt, q_gbf, q_gbd, q_m1lt, q_m1ge, q_m1ne, q_m1eq, q_m1e, Option.bind_some, gLet, nI_add, pk_mul, q_sub, q_m1, q_div, q_modN, nI_clamp, if_true, if_false, Bool.false_eq_true, q_l0, q_l1, q_l2, q_l3, q_l4, q_l5, q_l6, q_l7, q_l8, q_l9, q_l10, q_l11, q_l12, q_l13, q_l14, q_l15, q_l16, q_l19, q_l20, q_l22, q_l24, q_l30, q_l32, q_l34, q_l36, q_l45, q_l47, q_l48, q_l57, q_l58, q_l59, q_l60, q_l61, q_l66, q_l75, q_l76, q_l94, q_l97, q_l99, q_l100, q_l101, q_l104, q_l105, q_l108, q_l109, q_l111, q_l114, q_l115, q_l116, q_l117, q_l118, q_l119, q_l120, q_l126, q_l132, q_l133, q_l135, q_l136, q_l138, q_l146, q_l147, q_l148, q_l149, q_l150, q_l151, q_l152, q_l153, q_l154, q_l155, q_l156, q_l157, q_l158, q_l214, q_l229, q_l244, q_l259, q_l300, q_l999, q_l1813, q_l2072, q_l10000, q_l65536, q_l1000000000, m_done, m_fails, m_thrown, m_th, gs_same, q_gsgs, c_raise0, c_raise1, c_raise2, c_raise3, c_raise4]
end PF
