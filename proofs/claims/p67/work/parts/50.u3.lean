/-! undo, save, restore, feesAfter; what is typed and written -/
theorem m_ships' (M : gM) {r : Nat → Int32} (h : M 151 = r) : f_X7_ships M = some (r 7 + r 8 + r 9) := by rw [m_ships, h]
theorem K_undoableCount : gCq f_X6_undoableCount f_X7_undoableCount := by
  intro k M hk hI
  obtain ⟨t, ht, tie, x⟩ := id hI
  obtain ⟨g, w, s, n, y, hn8, hx8, hn, h4, hx, hh⟩ := tie
  refine ⟨M 150 4, gs M 150 13 (nI 0), ?_, ?_, q_gss rfl, gInv_q hI (fun _ _ _ _ => rfl)⟩
  · unfold f_X6_undoableCount; rw [hn, h4]
  · unfold f_X7_undoableCount; rw [m_done]; rfl
theorem K_undo : gCl kS f_X6_undo f_X7_undo := by
  intro k M hk hI
  obtain ⟨t, ht, tie, x⟩ := id hI
  obtain ⟨g, w, s, n, y, hn8, hx8, hn, h4, hx, hh⟩ := id tie
  by_cases h0 : n = 0
  · subst h0
    refine ⟨.inl "java/lang/IllegalStateException", M, nI 1, nI 0, gs M 150 13 (nI 1), ?_, ?_, q_gss rfl, gAns_l 0 rfl, gInv_q hI (fun _ _ _ _ => rfl)⟩
    · unfold f_X6_undo
      simp (disch := omega) only [↓reduceIte, eq_self, Bool.true_eq_false, Bool.false_eq_true, q_seqr, q_seql, v_ig, v_ni, v_le, v_nle, v_lt, v_nlt, v_eq, v_ne, v_gbt, v_gbf, v_gbd, v_m1lt, v_m1ge, v_m1ne, v_m1e, ↓q_bindD, ↓q_gLet, Option.isSome_some, Option.getD_some, nI_add, pk_mul, q_sub, q_m1, q_div, q_modN, nI_clamp, if_true, if_false, q_l0, q_l1, q_l2, q_l3, q_l4, q_l5, q_l6, q_l7, q_l8, q_l9, q_l10, q_l11, q_l12, q_l13, q_l14, q_l15, q_l16, q_l19, q_l20, q_l22, q_l24, q_l30, q_l32, q_l34, q_l36, q_l45, q_l47, q_l48, q_l57, q_l58, q_l59, q_l60, q_l61, q_l66, q_l75, q_l76, q_l94, q_l97, q_l99, q_l100, q_l101, q_l104, q_l105, q_l108, q_l109, q_l111, q_l114, q_l115, q_l116, q_l117, q_l118, q_l119, q_l120, q_l126, q_l132, q_l133, q_l135, q_l136, q_l138, q_l146, q_l147, q_l148, q_l149, q_l150, q_l151, q_l152, q_l153, q_l154, q_l155, q_l156, q_l157, q_l158, q_l214, q_l229, q_l244, q_l259, q_l300, q_l999, q_l1813, q_l2072, q_l10000, q_l65536, q_l1000000000, hn]
    · unfold f_X7_undo
      simp (disch := omega) only [↓reduceIte, eq_self, Bool.true_eq_false, Bool.false_eq_true, q_seqr, q_seql, v_ig, v_ni, v_le, v_nle, v_lt, v_nlt, v_eq, v_ne, v_gbt, v_gbf, v_gbd, v_m1lt, v_m1ge, v_m1ne, v_m1e, ↓q_bindD, ↓q_gLet, Option.isSome_some, Option.getD_some, nI_add, pk_mul, q_sub, q_m1, q_div, q_modN, nI_clamp, if_true, if_false, q_l0, q_l1, q_l2, q_l3, q_l4, q_l5, q_l6, q_l7, q_l8, q_l9, q_l10, q_l11, q_l12, q_l13, q_l14, q_l15, q_l16, q_l19, q_l20, q_l22, q_l24, q_l30, q_l32, q_l34, q_l36, q_l45, q_l47, q_l48, q_l57, q_l58, q_l59, q_l60, q_l61, q_l66, q_l75, q_l76, q_l94, q_l97, q_l99, q_l100, q_l101, q_l104, q_l105, q_l108, q_l109, q_l111, q_l114, q_l115, q_l116, q_l117, q_l118, q_l119, q_l120, q_l126, q_l132, q_l133, q_l135, q_l136, q_l138, q_l146, q_l147, q_l148, q_l149, q_l150, q_l151, q_l152, q_l153, q_l154, q_l155, q_l156, q_l157, q_l158, q_l214, q_l229, q_l244, q_l259, q_l300, q_l999, q_l1813, q_l2072, q_l10000, q_l65536, q_l1000000000, m_done, m_fails, m_thrown, m_th, gs_same, q_gsgs, c_raise0, c_raise1, c_raise2, c_raise3, c_raise4, h4]
  · obtain ⟨i, hi⟩ : ∃ i, n = i + 1 := ⟨n - 1, by omega⟩
    subst hi
    obtain ⟨ga, wa⟩ := hh i (by omega)
    obtain ⟨y', hy'⟩ : ∃ y', y' = (y + 8 - 1) % 8 := ⟨_, rfl⟩
    have hy8 : y' < 8 := by omega
    rw [show (y + 8 - (i + 1) + i) % 8 = y' by omega] at ga
    obtain ⟨M1, hM1⟩ : ∃ M1, M1 = gs (gs (cpM M 0 (36 + 12 * y')) 133 1 (nI y')) 133 2 (nI i) := ⟨_, rfl⟩
    have e2 : gs (cpM M 0 (36 + 12 * y')) 133 1 (nI y') 133 2 = nI (i + 1) := by rw [q_gsk (by omega), cpM_fr (by omega)]; exact hn
    have hm : y + 8 - 1 - (y + 8 - 1) / 8 * 8 = y' := by rw [q_modN]; exact hy'.symm
    have hf : f_X6_undo M = some (.inr (nI i), M1) := by
      have e3 : M1 133 2 = nI i := by rw [hM1]; exact q_gss rfl
      have hp : f_X1_popInto 0 M = some M1 := by
        unfold f_X1_popInto
        simp (disch := omega) only [↓reduceIte, eq_self, Bool.true_eq_false, Bool.false_eq_true, q_seqr, q_seql, v_ig, v_ni, v_le, v_nle, v_lt, v_nlt, v_eq, v_ne, v_gbt, v_gbf, v_gbd, v_m1lt, v_m1ge, v_m1ne, v_m1e, ↓q_bindD, ↓q_gLet, Option.isSome_some, Option.getD_some, nI_add, pk_mul, q_sub, q_m1, q_div, q_modN, nI_clamp, if_true, if_false, q_l0, q_l1, q_l2, q_l3, q_l4, q_l5, q_l6, q_l7, q_l8, q_l9, q_l10, q_l11, q_l12, q_l13, q_l14, q_l15, q_l16, q_l19, q_l20, q_l22, q_l24, q_l30, q_l32, q_l34, q_l36, q_l45, q_l47, q_l48, q_l57, q_l58, q_l59, q_l60, q_l61, q_l66, q_l75, q_l76, q_l94, q_l97, q_l99, q_l100, q_l101, q_l104, q_l105, q_l108, q_l109, q_l111, q_l114, q_l115, q_l116, q_l117, q_l118, q_l119, q_l120, q_l126, q_l132, q_l133, q_l135, q_l136, q_l138, q_l146, q_l147, q_l148, q_l149, q_l150, q_l151, q_l152, q_l153, q_l154, q_l155, q_l156, q_l157, q_l158, q_l214, q_l229, q_l244, q_l259, q_l300, q_l999, q_l1813, q_l2072, q_l10000, q_l65536, q_l1000000000, hx, hm, c_copyFrom, e2, Nat.add_sub_cancel]
        rw [← hM1]
      unfold f_X6_undo
      simp (disch := omega) only [↓reduceIte, eq_self, Bool.true_eq_false, Bool.false_eq_true, q_seqr, q_seql, v_ig, v_ni, v_le, v_nle, v_lt, v_nlt, v_eq, v_ne, v_gbt, v_gbf, v_gbd, v_m1lt, v_m1ge, v_m1ne, v_m1e, ↓q_bindD, ↓q_gLet, Option.isSome_some, Option.getD_some, nI_add, pk_mul, q_sub, q_m1, q_div, q_modN, nI_clamp, if_true, if_false, q_l0, q_l1, q_l2, q_l3, q_l4, q_l5, q_l6, q_l7, q_l8, q_l9, q_l10, q_l11, q_l12, q_l13, q_l14, q_l15, q_l16, q_l19, q_l20, q_l22, q_l24, q_l30, q_l32, q_l34, q_l36, q_l45, q_l47, q_l48, q_l57, q_l58, q_l59, q_l60, q_l61, q_l66, q_l75, q_l76, q_l94, q_l97, q_l99, q_l100, q_l101, q_l104, q_l105, q_l108, q_l109, q_l111, q_l114, q_l115, q_l116, q_l117, q_l118, q_l119, q_l120, q_l126, q_l132, q_l133, q_l135, q_l136, q_l138, q_l146, q_l147, q_l148, q_l149, q_l150, q_l151, q_l152, q_l153, q_l154, q_l155, q_l156, q_l157, q_l158, q_l214, q_l229, q_l244, q_l259, q_l300, q_l999, q_l1813, q_l2072, q_l10000, q_l65536, q_l1000000000, hn, hp, e3]
    have o1 : ∀ a, 12 ≤ a → a ≠ 133 → M1 a = M a := fun a h1 h2 => by rw [hM1, q_gsn h2, q_gsn h2, cpM_fr (by omega)]
    obtain ⟨Mb, hMb⟩ : ∃ Mb, Mb = gw (gs M1 150 4 (nI i)) 151 (cpR (M1 154) (M1 151) (i * 259) 0 259) := ⟨_, rfl⟩
    have hm2 : f_X7_undo M1 = some (nI i, gs Mb 150 13 (nI 0)) := by
      have e4 : M1 150 4 = nI (i + 1) := by rw [o1 150 (by omega) (by omega)]; exact h4
      have cp := m_copy (M := gs M1 150 4 (nI i)) (a := 154) (b := 151) (na := 2072) (nb := 259) (A := i * 259) (B := 0) (by omega) (by omega) (by omega) (by omega) (by omega)
      rw [q_gsn (show 154 ≠ 150 by omega), q_gsn (show 151 ≠ 150 by omega), ← hMb] at cp
      have e5 : Mb 150 4 = nI i := by rw [hMb, gw_ne (by omega)]; exact q_gss rfl
      have e6 : gs M1 150 4 (nI i) 150 4 = nI i := q_gss rfl
      unfold f_X7_undo
      simp (disch := omega) only [↓reduceIte, eq_self, Bool.true_eq_false, Bool.false_eq_true, q_seqr, q_seql, v_ig, v_ni, v_le, v_nle, v_lt, v_nlt, v_eq, v_ne, v_gbt, v_gbf, v_gbd, v_m1lt, v_m1ge, v_m1ne, v_m1e, ↓q_bindD, ↓q_gLet, Option.isSome_some, Option.getD_some, nI_add, pk_mul, q_sub, q_m1, q_div, q_modN, nI_clamp, if_true, if_false, q_l0, q_l1, q_l2, q_l3, q_l4, q_l5, q_l6, q_l7, q_l8, q_l9, q_l10, q_l11, q_l12, q_l13, q_l14, q_l15, q_l16, q_l19, q_l20, q_l22, q_l24, q_l30, q_l32, q_l34, q_l36, q_l45, q_l47, q_l48, q_l57, q_l58, q_l59, q_l60, q_l61, q_l66, q_l75, q_l76, q_l94, q_l97, q_l99, q_l100, q_l101, q_l104, q_l105, q_l108, q_l109, q_l111, q_l114, q_l115, q_l116, q_l117, q_l118, q_l119, q_l120, q_l126, q_l132, q_l133, q_l135, q_l136, q_l138, q_l146, q_l147, q_l148, q_l149, q_l150, q_l151, q_l152, q_l153, q_l154, q_l155, q_l156, q_l157, q_l158, q_l214, q_l229, q_l244, q_l259, q_l300, q_l999, q_l1813, q_l2072, q_l10000, q_l65536, q_l1000000000, m_done, m_fails, m_thrown, m_th, gs_same, q_gsgs, c_raise0, c_raise1, c_raise2, c_raise3, c_raise4, e4, Nat.add_sub_cancel, e6, cp, e5]
    have ro : rEq (hRow M i) (Mb 151) := fun q hq => by
      rw [hMb, gw_same]
      unfold cpR hRow
      rw [if_pos (by omega), o1 154 (by omega) (by omega), Nat.sub_zero, Nat.mul_comm]
    have ob : ∀ a, 12 ≤ a → a ≠ 133 → a ≠ 150 → a ≠ 151 → gs Mb 150 13 (nI 0) a = M a := fun a h1 h2 h3 h4 => by rw [q_gsn h3, hMb, gw_ne h4, q_gsn h3, o1 a h1 h2]
    have o150 : ∀ j, j ≠ 4 → j ≠ 13 → gs Mb 150 13 (nI 0) 150 j = M 150 j := fun j h1 h2 => by rw [q_gsk h2, hMb, gw_ne (by omega), q_gsk h1, o1 150 (by omega) (by omega)]
    refine ⟨.inr (nI i), M1, nI 0, nI i, gs Mb 150 13 (nI 0), hf, hm2, q_gss rfl, gAns_r, gInv_step ht x ⟨fun a h1 h2 => ob a (by omega) (by omega) (by omega) (by omega), fun a h1 => ob a (by omega) (by omega) (by omega) (by omega), fun j h1 h2 h3 => o150 j h1 h3, fun j h1 => by rw [ob 132 (by omega) (by omega) (by omega) (by omega)]⟩ (gTie.up (β := k - t) ?_ (by omega))⟩
    have e151 : gs Mb 150 13 (nI 0) 151 = Mb 151 := q_gsn (by omega)
    refine ⟨?_, by rw [e151]; exact wa.ext ro, ?_, i, y', by omega, hy8, ?_, ?_, ?_, fun j hj => ?_⟩
    · rw [e151]
      have c0 := (cpM_sim (d := 0) (Or.inl (by omega)) ga).ext wa ro
      exact c0.frm (fun a h1 h2 h3 => by rw [q_gsn (by omega), hMb, gw_ne (by omega), q_gsn (by omega), hM1, q_gsn (by omega), q_gsn (by omega)])
    · rw [ob 132 (by omega) (by omega) (by omega) (by omega), o150 6 (by omega) (by omega), ob 155 (by omega) (by omega) (by omega) (by omega)]
      rcases s with s | ⟨s1, s2, s3, s4⟩
      · exact Or.inl s
      · exact Or.inr ⟨s1, s2, s3.frm (fun a h1 h2 h3 => ob a (by omega) (by omega) (by omega) (by omega)), s4⟩
    · rw [q_gsn (by omega), hMb, gw_ne (by omega), q_gsn (by omega), hM1, q_gss rfl]
    · rw [q_gsk (by omega), hMb, gw_ne (by omega), q_gss rfl]
    · rw [q_gsn (by omega), hMb, gw_ne (by omega), q_gsn (by omega), hM1, q_gsk (by omega), q_gss rfl]
    · obtain ⟨a, b⟩ := hh j (by omega)
      have eh : hRow (gs Mb 150 13 (nI 0)) j = hRow M j := by unfold hRow; rw [ob 154 (by omega) (by omega) (by omega) (by omega)]
      rw [eh, show (y' + 8 - i + j) % 8 = (y + 8 - (i + 1) + j) % 8 by omega]
      exact ⟨a.frm (fun c h1 h2 h3 => ob c (by omega) (by omega) (by omega) (by omega)), b⟩
theorem K_save : gCe f_X6_save f_X7_save := by
  intro k M hk hI
  obtain ⟨t, ht, tie, x⟩ := id hI
  obtain ⟨g, w, s, n, y, hn8, hx8, hn, h4, hx, hh⟩ := id tie
  obtain ⟨M1, hM1⟩ : ∃ M1, M1 = gs (cpM M 24 0) 132 3 (nI 1) := ⟨_, rfl⟩
  have o1 : ∀ a, (a < 24 ∨ 36 ≤ a) → a ≠ 132 → M1 a = M a := fun a h1 h2 => by rw [hM1, q_gsn h2, cpM_fr (by omega)]
  have g0 : gSim M1 0 (M 151) := g.frm (fun a h1 h2 h3 => o1 a (by omega) (by omega))
  have g24 : gSim M1 24 (M 151) := (cpM_sim (d := 24) (Or.inr (by omega)) g).frm (fun a h1 h2 h3 => by rw [hM1, q_gsn (by omega)])
  have hf : f_X6_save M = some (M 151 7 + M 151 8 + M 151 9, M1) := by
    have := c_ships g0 w
    rw [hM1] at this
    unfold f_X6_save
    simp (disch := omega) only [↓reduceIte, eq_self, Bool.true_eq_false, Bool.false_eq_true, q_seqr, q_seql, v_ig, v_ni, v_le, v_nle, v_lt, v_nlt, v_eq, v_ne, v_gbt, v_gbf, v_gbd, v_m1lt, v_m1ge, v_m1ne, v_m1e, ↓q_bindD, ↓q_gLet, Option.isSome_some, Option.getD_some, nI_add, pk_mul, q_sub, q_m1, q_div, q_modN, nI_clamp, if_true, if_false, q_l0, q_l1, q_l2, q_l3, q_l4, q_l5, q_l6, q_l7, q_l8, q_l9, q_l10, q_l11, q_l12, q_l13, q_l14, q_l15, q_l16, q_l19, q_l20, q_l22, q_l24, q_l30, q_l32, q_l34, q_l36, q_l45, q_l47, q_l48, q_l57, q_l58, q_l59, q_l60, q_l61, q_l66, q_l75, q_l76, q_l94, q_l97, q_l99, q_l100, q_l101, q_l104, q_l105, q_l108, q_l109, q_l111, q_l114, q_l115, q_l116, q_l117, q_l118, q_l119, q_l120, q_l126, q_l132, q_l133, q_l135, q_l136, q_l138, q_l146, q_l147, q_l148, q_l149, q_l150, q_l151, q_l152, q_l153, q_l154, q_l155, q_l156, q_l157, q_l158, q_l214, q_l229, q_l244, q_l259, q_l300, q_l999, q_l1813, q_l2072, q_l10000, q_l65536, q_l1000000000, c_copyFrom, this]
    rw [← hM1]
  obtain ⟨Mb, hMb⟩ : ∃ Mb, Mb = gs (gw M1 155 (cpR (M1 151) (M1 155) 0 0 259)) 150 6 (nI 1) := ⟨_, rfl⟩
  have e151 : Mb 151 = M 151 := by rw [hMb, q_gsn (by omega), gw_ne (by omega), o1 151 (by omega) (by omega)]
  have hm : f_X7_save M1 = some (M 151 7 + M 151 8 + M 151 9, gs Mb 150 13 (nI 0)) := by
    have cp := m_copy (M := M1) (a := 151) (b := 155) (na := 259) (nb := 259) (A := 0) (B := 0) (by omega) (by omega) (by omega) (by omega) (by omega)
    have sh := m_ships' Mb e151
    rw [hMb] at sh
    unfold f_X7_save
    simp (disch := omega) only [↓reduceIte, eq_self, Bool.true_eq_false, Bool.false_eq_true, q_seqr, q_seql, v_ig, v_ni, v_le, v_nle, v_lt, v_nlt, v_eq, v_ne, v_gbt, v_gbf, v_gbd, v_m1lt, v_m1ge, v_m1ne, v_m1e, ↓q_bindD, ↓q_gLet, Option.isSome_some, Option.getD_some, nI_add, pk_mul, q_sub, q_m1, q_div, q_modN, nI_clamp, if_true, if_false, q_l0, q_l1, q_l2, q_l3, q_l4, q_l5, q_l6, q_l7, q_l8, q_l9, q_l10, q_l11, q_l12, q_l13, q_l14, q_l15, q_l16, q_l19, q_l20, q_l22, q_l24, q_l30, q_l32, q_l34, q_l36, q_l45, q_l47, q_l48, q_l57, q_l58, q_l59, q_l60, q_l61, q_l66, q_l75, q_l76, q_l94, q_l97, q_l99, q_l100, q_l101, q_l104, q_l105, q_l108, q_l109, q_l111, q_l114, q_l115, q_l116, q_l117, q_l118, q_l119, q_l120, q_l126, q_l132, q_l133, q_l135, q_l136, q_l138, q_l146, q_l147, q_l148, q_l149, q_l150, q_l151, q_l152, q_l153, q_l154, q_l155, q_l156, q_l157, q_l158, q_l214, q_l229, q_l244, q_l259, q_l300, q_l999, q_l1813, q_l2072, q_l10000, q_l65536, q_l1000000000, m_done, m_fails, m_thrown, m_th, gs_same, q_gsgs, c_raise0, c_raise1, c_raise2, c_raise3, c_raise4, cp, sh]
    rw [← hMb]
  have ob : ∀ a, (a < 24 ∨ 36 ≤ a) → a ≠ 132 → a ≠ 150 → a ≠ 155 → gs Mb 150 13 (nI 0) a = M a := fun a h1 h2 h3 h4 => by rw [q_gsn h3, hMb, q_gsn h3, gw_ne h4, o1 a h1 h2]
  have o150 : ∀ j, j ≠ 6 → j ≠ 13 → gs Mb 150 13 (nI 0) 150 j = M 150 j := fun j h1 h2 => by rw [q_gsk h2, hMb, q_gsk h1, gw_ne (by omega), o1 150 (by omega) (by omega)]
  have o132 : ∀ j, gs Mb 150 13 (nI 0) 132 j = M1 132 j := fun j => by rw [q_gsn (by omega), hMb, q_gsn (by omega), gw_ne (by omega)]
  have r155 : rEq (M 151) (gs Mb 150 13 (nI 0) 155) := by
    rw [q_gsn (by omega), hMb, q_gsn (by omega), gw_same, o1 151 (by omega) (by omega)]
    exact cpR_rEq _ _
  refine ⟨_, M1, _, hf, hm, q_gss rfl, gInv_step ht x ⟨fun a h1 h2 => ob a (by omega) (by omega) (by omega) (by omega), fun a h1 => ob a (by omega) (by omega) (by omega) (by omega), fun j h1 h2 h3 => o150 j h2 h3, fun j h1 => by rw [o132, hM1, q_gsk h1, cpM_fr (by omega)]⟩ (gTie.up (β := k - t) ?_ (by omega))⟩
  have e151' : gs Mb 150 13 (nI 0) 151 = M 151 := ob 151 (by omega) (by omega) (by omega) (by omega)
  refine ⟨by rw [e151']; exact g.frm (fun a h1 h2 h3 => ob a (by omega) (by omega) (by omega) (by omega)), by rw [e151']; exact w, Or.inr ⟨?_, ?_, ?_, w.ext r155⟩, n, y, hn8, hx8, ?_, ?_, ?_, fun j hj => ?_⟩
  · rw [o132, hM1, q_gss rfl]
  · rw [q_gsk (by omega), hMb, q_gss rfl]
  · exact (g24.ext w r155).frm (fun a h1 h2 h3 => by rw [q_gsn (by omega), hMb, q_gsn (by omega), gw_ne (by omega)])
  · rw [ob 133 (by omega) (by omega) (by omega) (by omega)]; exact hn
  · rw [o150 4 (by omega) (by omega)]; exact h4
  · rw [ob 133 (by omega) (by omega) (by omega) (by omega)]; exact hx
  · obtain ⟨a, b⟩ := hh j hj
    have eh : hRow (gs Mb 150 13 (nI 0)) j = hRow M j := by unfold hRow; rw [ob 154 (by omega) (by omega) (by omega) (by omega)]
    rw [eh]
    exact ⟨a.frm (fun c h1 h2 h3 => ob c (by omega) (by omega) (by omega) (by omega)), b⟩
theorem K_restore : gCl kS f_X6_restore f_X7_restore := by
  intro k M hk hI
  obtain ⟨t, ht, tie, x⟩ := id hI
  obtain ⟨g, w, s, n, y, hn8, hx8, hn, h4, hx, hh⟩ := id tie
  rcases s with ⟨s1, s2⟩ | ⟨s1, s2, s3, s4⟩
  · refine ⟨.inl "java/lang/IllegalStateException", M, nI 1, nI 0, gs M 150 13 (nI 1), ?_, ?_, q_gss rfl, gAns_l 0 rfl, gInv_q hI (fun _ _ _ _ => rfl)⟩
    · unfold f_X6_restore
      simp (disch := omega) only [↓reduceIte, eq_self, Bool.true_eq_false, Bool.false_eq_true, q_seqr, q_seql, v_ig, v_ni, v_le, v_nle, v_lt, v_nlt, v_eq, v_ne, v_gbt, v_gbf, v_gbd, v_m1lt, v_m1ge, v_m1ne, v_m1e, ↓q_bindD, ↓q_gLet, Option.isSome_some, Option.getD_some, nI_add, pk_mul, q_sub, q_m1, q_div, q_modN, nI_clamp, if_true, if_false, q_l0, q_l1, q_l2, q_l3, q_l4, q_l5, q_l6, q_l7, q_l8, q_l9, q_l10, q_l11, q_l12, q_l13, q_l14, q_l15, q_l16, q_l19, q_l20, q_l22, q_l24, q_l30, q_l32, q_l34, q_l36, q_l45, q_l47, q_l48, q_l57, q_l58, q_l59, q_l60, q_l61, q_l66, q_l75, q_l76, q_l94, q_l97, q_l99, q_l100, q_l101, q_l104, q_l105, q_l108, q_l109, q_l111, q_l114, q_l115, q_l116, q_l117, q_l118, q_l119, q_l120, q_l126, q_l132, q_l133, q_l135, q_l136, q_l138, q_l146, q_l147, q_l148, q_l149, q_l150, q_l151, q_l152, q_l153, q_l154, q_l155, q_l156, q_l157, q_l158, q_l214, q_l229, q_l244, q_l259, q_l300, q_l999, q_l1813, q_l2072, q_l10000, q_l65536, q_l1000000000, s1]
    · unfold f_X7_restore
      simp (disch := omega) only [↓reduceIte, eq_self, Bool.true_eq_false, Bool.false_eq_true, q_seqr, q_seql, v_ig, v_ni, v_le, v_nle, v_lt, v_nlt, v_eq, v_ne, v_gbt, v_gbf, v_gbd, v_m1lt, v_m1ge, v_m1ne, v_m1e, ↓q_bindD, ↓q_gLet, Option.isSome_some, Option.getD_some, nI_add, pk_mul, q_sub, q_m1, q_div, q_modN, nI_clamp, if_true, if_false, q_l0, q_l1, q_l2, q_l3, q_l4, q_l5, q_l6, q_l7, q_l8, q_l9, q_l10, q_l11, q_l12, q_l13, q_l14, q_l15, q_l16, q_l19, q_l20, q_l22, q_l24, q_l30, q_l32, q_l34, q_l36, q_l45, q_l47, q_l48, q_l57, q_l58, q_l59, q_l60, q_l61, q_l66, q_l75, q_l76, q_l94, q_l97, q_l99, q_l100, q_l101, q_l104, q_l105, q_l108, q_l109, q_l111, q_l114, q_l115, q_l116, q_l117, q_l118, q_l119, q_l120, q_l126, q_l132, q_l133, q_l135, q_l136, q_l138, q_l146, q_l147, q_l148, q_l149, q_l150, q_l151, q_l152, q_l153, q_l154, q_l155, q_l156, q_l157, q_l158, q_l214, q_l229, q_l244, q_l259, q_l300, q_l999, q_l1813, q_l2072, q_l10000, q_l65536, q_l1000000000, m_done, m_fails, m_thrown, m_th, gs_same, q_gsgs, c_raise0, c_raise1, c_raise2, c_raise3, c_raise4, s2]
  · obtain ⟨M1, hM1⟩ : ∃ M1, M1 = gs (cpM M 0 24) 133 2 (nI 0) := ⟨_, rfl⟩
    have o1 : ∀ a, 12 ≤ a → a ≠ 133 → M1 a = M a := fun a h1 h2 => by rw [hM1, q_gsn h2, cpM_fr (by omega)]
    have g0 : gSim M1 0 (M 155) := (cpM_sim (d := 0) (Or.inl (by omega)) s3).frm (fun a h1 h2 h3 => by rw [hM1, q_gsn (by omega)])
    have hf : f_X6_restore M = some (.inr (M 155 7 + M 155 8 + M 155 9), M1) := by
      have := c_ships g0 s4
      rw [hM1] at this
      unfold f_X6_restore
      simp (disch := omega) only [↓reduceIte, eq_self, Bool.true_eq_false, Bool.false_eq_true, q_seqr, q_seql, v_ig, v_ni, v_le, v_nle, v_lt, v_nlt, v_eq, v_ne, v_gbt, v_gbf, v_gbd, v_m1lt, v_m1ge, v_m1ne, v_m1e, ↓q_bindD, ↓q_gLet, Option.isSome_some, Option.getD_some, nI_add, pk_mul, q_sub, q_m1, q_div, q_modN, nI_clamp, if_true, if_false, q_l0, q_l1, q_l2, q_l3, q_l4, q_l5, q_l6, q_l7, q_l8, q_l9, q_l10, q_l11, q_l12, q_l13, q_l14, q_l15, q_l16, q_l19, q_l20, q_l22, q_l24, q_l30, q_l32, q_l34, q_l36, q_l45, q_l47, q_l48, q_l57, q_l58, q_l59, q_l60, q_l61, q_l66, q_l75, q_l76, q_l94, q_l97, q_l99, q_l100, q_l101, q_l104, q_l105, q_l108, q_l109, q_l111, q_l114, q_l115, q_l116, q_l117, q_l118, q_l119, q_l120, q_l126, q_l132, q_l133, q_l135, q_l136, q_l138, q_l146, q_l147, q_l148, q_l149, q_l150, q_l151, q_l152, q_l153, q_l154, q_l155, q_l156, q_l157, q_l158, q_l214, q_l229, q_l244, q_l259, q_l300, q_l999, q_l1813, q_l2072, q_l10000, q_l65536, q_l1000000000, s1, c_copyFrom, this]
      rw [← hM1]
    obtain ⟨Mb, hMb⟩ : ∃ Mb, Mb = gs (gw M1 151 (cpR (M1 155) (M1 151) 0 0 259)) 150 4 (nI 0) := ⟨_, rfl⟩
    have r151 : rEq (M 155) (Mb 151) := by
      rw [hMb, q_gsn (by omega), gw_same, o1 155 (by omega) (by omega)]
      exact cpR_rEq _ _
    have hm : f_X7_restore M1 = some (M 155 7 + M 155 8 + M 155 9, gs Mb 150 13 (nI 0)) := by
      have cp := m_copy (M := M1) (a := 155) (b := 151) (na := 259) (nb := 259) (A := 0) (B := 0) (by omega) (by omega) (by omega) (by omega) (by omega)
      have sh := m_ships Mb
      rw [r151 7 (by omega), r151 8 (by omega), r151 9 (by omega), hMb] at sh
      have e6 : M1 150 6 = nI 1 := by rw [o1 150 (by omega) (by omega)]; exact s2
      unfold f_X7_restore
      simp (disch := omega) only [↓reduceIte, eq_self, Bool.true_eq_false, Bool.false_eq_true, q_seqr, q_seql, v_ig, v_ni, v_le, v_nle, v_lt, v_nlt, v_eq, v_ne, v_gbt, v_gbf, v_gbd, v_m1lt, v_m1ge, v_m1ne, v_m1e, ↓q_bindD, ↓q_gLet, Option.isSome_some, Option.getD_some, nI_add, pk_mul, q_sub, q_m1, q_div, q_modN, nI_clamp, if_true, if_false, q_l0, q_l1, q_l2, q_l3, q_l4, q_l5, q_l6, q_l7, q_l8, q_l9, q_l10, q_l11, q_l12, q_l13, q_l14, q_l15, q_l16, q_l19, q_l20, q_l22, q_l24, q_l30, q_l32, q_l34, q_l36, q_l45, q_l47, q_l48, q_l57, q_l58, q_l59, q_l60, q_l61, q_l66, q_l75, q_l76, q_l94, q_l97, q_l99, q_l100, q_l101, q_l104, q_l105, q_l108, q_l109, q_l111, q_l114, q_l115, q_l116, q_l117, q_l118, q_l119, q_l120, q_l126, q_l132, q_l133, q_l135, q_l136, q_l138, q_l146, q_l147, q_l148, q_l149, q_l150, q_l151, q_l152, q_l153, q_l154, q_l155, q_l156, q_l157, q_l158, q_l214, q_l229, q_l244, q_l259, q_l300, q_l999, q_l1813, q_l2072, q_l10000, q_l65536, q_l1000000000, m_done, m_fails, m_thrown, m_th, gs_same, q_gsgs, c_raise0, c_raise1, c_raise2, c_raise3, c_raise4, e6, cp, sh]
      rw [← hMb]
    have ob : ∀ a, 12 ≤ a → a ≠ 133 → a ≠ 150 → a ≠ 151 → gs Mb 150 13 (nI 0) a = M a := fun a h1 h2 h3 h4 => by rw [q_gsn h3, hMb, q_gsn h3, gw_ne h4, o1 a h1 h2]
    have o150 : ∀ j, j ≠ 4 → j ≠ 13 → gs Mb 150 13 (nI 0) 150 j = M 150 j := fun j h1 h2 => by rw [q_gsk h2, hMb, q_gsk h1, gw_ne (by omega), o1 150 (by omega) (by omega)]
    refine ⟨.inr _, M1, nI 0, _, _, hf, hm, q_gss rfl, gAns_r, gInv_step ht x ⟨fun a h1 h2 => ob a (by omega) (by omega) (by omega) (by omega), fun a h1 => ob a (by omega) (by omega) (by omega) (by omega), fun j h1 h2 h3 => o150 j h1 h3, fun j h1 => by rw [ob 132 (by omega) (by omega) (by omega) (by omega)]⟩ (gTie.up (β := k - t) ?_ (by omega))⟩
    have e151 : gs Mb 150 13 (nI 0) 151 = Mb 151 := q_gsn (by omega)
    refine ⟨?_, by rw [e151]; exact s4.ext r151, Or.inr ⟨by rw [ob 132 (by omega) (by omega) (by omega) (by omega)]; exact s1, by rw [o150 6 (by omega) (by omega)]; exact s2, by rw [ob 155 (by omega) (by omega) (by omega) (by omega)]; exact s3.frm (fun a h1 h2 h3 => ob a (by omega) (by omega) (by omega) (by omega)), by rw [ob 155 (by omega) (by omega) (by omega) (by omega)]; exact s4⟩, 0, y, by omega, hx8, ?_, ?_, ?_, fun j hj => absurd hj (Nat.not_lt_zero _)⟩
    · rw [e151]
      exact (g0.ext s4 r151).frm (fun a h1 h2 h3 => by rw [q_gsn (by omega), hMb, q_gsn (by omega), gw_ne (by omega)])
    · rw [q_gsn (by omega), hMb, q_gsn (by omega), gw_ne (by omega), hM1, q_gss rfl]
    · rw [q_gsk (by omega), hMb, q_gss rfl]
    · rw [q_gsn (by omega), hMb, q_gsn (by omega), gw_ne (by omega), hM1, q_gsk (by omega), cpM_fr (by omega)]; exact hx
theorem K_errorPosition : gCl kN f_X6_errorPosition f_X7_errorPosition := by
  intro k M hk hI
  obtain ⟨t, ht, tie, x⟩ := id hI
  obtain ⟨x1, x2, x3, x4, ⟨x5, x6⟩, x7, l, x8, x9, x10, x11⟩ := x
  rcases x6 with x6 | ⟨j, hj, x6⟩
  · rw [x6] at x5
    refine ⟨.inl "java/util/NoSuchElementException", M, nI 1, nI 0, gs M 150 13 (nI 1), ?_, ?_, q_gss rfl, gAns_l 0 rfl, gInv_q hI (fun _ _ _ _ => rfl)⟩
    · unfold f_X6_errorPosition
      simp (disch := omega) only [↓reduceIte, eq_self, Bool.true_eq_false, Bool.false_eq_true, q_seqr, q_seql, v_ig, v_ni, v_le, v_nle, v_lt, v_nlt, v_eq, v_ne, v_gbt, v_gbf, v_gbd, v_m1lt, v_m1ge, v_m1ne, v_m1e, ↓q_bindD, ↓q_gLet, Option.isSome_some, Option.getD_some, nI_add, pk_mul, q_sub, q_m1, q_div, q_modN, nI_clamp, if_true, if_false, q_l0, q_l1, q_l2, q_l3, q_l4, q_l5, q_l6, q_l7, q_l8, q_l9, q_l10, q_l11, q_l12, q_l13, q_l14, q_l15, q_l16, q_l19, q_l20, q_l22, q_l24, q_l30, q_l32, q_l34, q_l36, q_l45, q_l47, q_l48, q_l57, q_l58, q_l59, q_l60, q_l61, q_l66, q_l75, q_l76, q_l94, q_l97, q_l99, q_l100, q_l101, q_l104, q_l105, q_l108, q_l109, q_l111, q_l114, q_l115, q_l116, q_l117, q_l118, q_l119, q_l120, q_l126, q_l132, q_l133, q_l135, q_l136, q_l138, q_l146, q_l147, q_l148, q_l149, q_l150, q_l151, q_l152, q_l153, q_l154, q_l155, q_l156, q_l157, q_l158, q_l214, q_l229, q_l244, q_l259, q_l300, q_l999, q_l1813, q_l2072, q_l10000, q_l65536, q_l1000000000, x6, c_found_m]
    · unfold f_X7_errorPosition
      simp (disch := omega) only [↓reduceIte, eq_self, Bool.true_eq_false, Bool.false_eq_true, q_seqr, q_seql, v_ig, v_ni, v_le, v_nle, v_lt, v_nlt, v_eq, v_ne, v_gbt, v_gbf, v_gbd, v_m1lt, v_m1ge, v_m1ne, v_m1e, ↓q_bindD, ↓q_gLet, Option.isSome_some, Option.getD_some, nI_add, pk_mul, q_sub, q_m1, q_div, q_modN, nI_clamp, if_true, if_false, q_l0, q_l1, q_l2, q_l3, q_l4, q_l5, q_l6, q_l7, q_l8, q_l9, q_l10, q_l11, q_l12, q_l13, q_l14, q_l15, q_l16, q_l19, q_l20, q_l22, q_l24, q_l30, q_l32, q_l34, q_l36, q_l45, q_l47, q_l48, q_l57, q_l58, q_l59, q_l60, q_l61, q_l66, q_l75, q_l76, q_l94, q_l97, q_l99, q_l100, q_l101, q_l104, q_l105, q_l108, q_l109, q_l111, q_l114, q_l115, q_l116, q_l117, q_l118, q_l119, q_l120, q_l126, q_l132, q_l133, q_l135, q_l136, q_l138, q_l146, q_l147, q_l148, q_l149, q_l150, q_l151, q_l152, q_l153, q_l154, q_l155, q_l156, q_l157, q_l158, q_l214, q_l229, q_l244, q_l259, q_l300, q_l999, q_l1813, q_l2072, q_l10000, q_l65536, q_l1000000000, m_done, m_fails, m_thrown, m_th, gs_same, q_gsgs, c_raise0, c_raise1, c_raise2, c_raise3, c_raise4, ← x5]
  · rw [x6] at x5
    refine ⟨.inr (nI j), M, nI 0, nI j, gs M 150 13 (nI 0), ?_, ?_, q_gss rfl, gAns_r, gInv_q hI (fun _ _ _ _ => rfl)⟩
    · unfold f_X6_errorPosition
      simp (disch := omega) only [↓reduceIte, eq_self, Bool.true_eq_false, Bool.false_eq_true, q_seqr, q_seql, v_ig, v_ni, v_le, v_nle, v_lt, v_nlt, v_eq, v_ne, v_gbt, v_gbf, v_gbd, v_m1lt, v_m1ge, v_m1ne, v_m1e, ↓q_bindD, ↓q_gLet, Option.isSome_some, Option.getD_some, nI_add, pk_mul, q_sub, q_m1, q_div, q_modN, nI_clamp, if_true, if_false, q_l0, q_l1, q_l2, q_l3, q_l4, q_l5, q_l6, q_l7, q_l8, q_l9, q_l10, q_l11, q_l12, q_l13, q_l14, q_l15, q_l16, q_l19, q_l20, q_l22, q_l24, q_l30, q_l32, q_l34, q_l36, q_l45, q_l47, q_l48, q_l57, q_l58, q_l59, q_l60, q_l61, q_l66, q_l75, q_l76, q_l94, q_l97, q_l99, q_l100, q_l101, q_l104, q_l105, q_l108, q_l109, q_l111, q_l114, q_l115, q_l116, q_l117, q_l118, q_l119, q_l120, q_l126, q_l132, q_l133, q_l135, q_l136, q_l138, q_l146, q_l147, q_l148, q_l149, q_l150, q_l151, q_l152, q_l153, q_l154, q_l155, q_l156, q_l157, q_l158, q_l214, q_l229, q_l244, q_l259, q_l300, q_l999, q_l1813, q_l2072, q_l10000, q_l65536, q_l1000000000, x6, c_found]
    · unfold f_X7_errorPosition
      simp (disch := omega) only [↓reduceIte, eq_self, Bool.true_eq_false, Bool.false_eq_true, q_seqr, q_seql, v_ig, v_ni, v_le, v_nle, v_lt, v_nlt, v_eq, v_ne, v_gbt, v_gbf, v_gbd, v_m1lt, v_m1ge, v_m1ne, v_m1e, ↓q_bindD, ↓q_gLet, Option.isSome_some, Option.getD_some, nI_add, pk_mul, q_sub, q_m1, q_div, q_modN, nI_clamp, if_true, if_false, q_l0, q_l1, q_l2, q_l3, q_l4, q_l5, q_l6, q_l7, q_l8, q_l9, q_l10, q_l11, q_l12, q_l13, q_l14, q_l15, q_l16, q_l19, q_l20, q_l22, q_l24, q_l30, q_l32, q_l34, q_l36, q_l45, q_l47, q_l48, q_l57, q_l58, q_l59, q_l60, q_l61, q_l66, q_l75, q_l76, q_l94, q_l97, q_l99, q_l100, q_l101, q_l104, q_l105, q_l108, q_l109, q_l111, q_l114, q_l115, q_l116, q_l117, q_l118, q_l119, q_l120, q_l126, q_l132, q_l133, q_l135, q_l136, q_l138, q_l146, q_l147, q_l148, q_l149, q_l150, q_l151, q_l152, q_l153, q_l154, q_l155, q_l156, q_l157, q_l158, q_l214, q_l229, q_l244, q_l259, q_l300, q_l999, q_l1813, q_l2072, q_l10000, q_l65536, q_l1000000000, m_done, m_fails, m_thrown, m_th, gs_same, q_gsgs, c_raise0, c_raise1, c_raise2, c_raise3, c_raise4, ← x5]
theorem K_failedCommand : gCl kN f_X6_failedCommand f_X7_failedCommand := by
  intro k M hk hI
  obtain ⟨t, ht, tie, x⟩ := id hI
  obtain ⟨x1, x2, x3, x4, x7, ⟨x5, x6⟩, l, x8, x9, x10, x11⟩ := x
  rcases x6 with x6 | ⟨j, hj, x6⟩
  · rw [x6] at x5
    refine ⟨.inl "java/util/NoSuchElementException", M, nI 1, nI 0, gs M 150 13 (nI 1), ?_, ?_, q_gss rfl, gAns_l 0 rfl, gInv_q hI (fun _ _ _ _ => rfl)⟩
    · unfold f_X6_failedCommand
      simp (disch := omega) only [↓reduceIte, eq_self, Bool.true_eq_false, Bool.false_eq_true, q_seqr, q_seql, v_ig, v_ni, v_le, v_nle, v_lt, v_nlt, v_eq, v_ne, v_gbt, v_gbf, v_gbd, v_m1lt, v_m1ge, v_m1ne, v_m1e, ↓q_bindD, ↓q_gLet, Option.isSome_some, Option.getD_some, nI_add, pk_mul, q_sub, q_m1, q_div, q_modN, nI_clamp, if_true, if_false, q_l0, q_l1, q_l2, q_l3, q_l4, q_l5, q_l6, q_l7, q_l8, q_l9, q_l10, q_l11, q_l12, q_l13, q_l14, q_l15, q_l16, q_l19, q_l20, q_l22, q_l24, q_l30, q_l32, q_l34, q_l36, q_l45, q_l47, q_l48, q_l57, q_l58, q_l59, q_l60, q_l61, q_l66, q_l75, q_l76, q_l94, q_l97, q_l99, q_l100, q_l101, q_l104, q_l105, q_l108, q_l109, q_l111, q_l114, q_l115, q_l116, q_l117, q_l118, q_l119, q_l120, q_l126, q_l132, q_l133, q_l135, q_l136, q_l138, q_l146, q_l147, q_l148, q_l149, q_l150, q_l151, q_l152, q_l153, q_l154, q_l155, q_l156, q_l157, q_l158, q_l214, q_l229, q_l244, q_l259, q_l300, q_l999, q_l1813, q_l2072, q_l10000, q_l65536, q_l1000000000, x6, c_found_m]
    · unfold f_X7_failedCommand
      simp (disch := omega) only [↓reduceIte, eq_self, Bool.true_eq_false, Bool.false_eq_true, q_seqr, q_seql, v_ig, v_ni, v_le, v_nle, v_lt, v_nlt, v_eq, v_ne, v_gbt, v_gbf, v_gbd, v_m1lt, v_m1ge, v_m1ne, v_m1e, ↓q_bindD, ↓q_gLet, Option.isSome_some, Option.getD_some, nI_add, pk_mul, q_sub, q_m1, q_div, q_modN, nI_clamp, if_true, if_false, q_l0, q_l1, q_l2, q_l3, q_l4, q_l5, q_l6, q_l7, q_l8, q_l9, q_l10, q_l11, q_l12, q_l13, q_l14, q_l15, q_l16, q_l19, q_l20, q_l22, q_l24, q_l30, q_l32, q_l34, q_l36, q_l45, q_l47, q_l48, q_l57, q_l58, q_l59, q_l60, q_l61, q_l66, q_l75, q_l76, q_l94, q_l97, q_l99, q_l100, q_l101, q_l104, q_l105, q_l108, q_l109, q_l111, q_l114, q_l115, q_l116, q_l117, q_l118, q_l119, q_l120, q_l126, q_l132, q_l133, q_l135, q_l136, q_l138, q_l146, q_l147, q_l148, q_l149, q_l150, q_l151, q_l152, q_l153, q_l154, q_l155, q_l156, q_l157, q_l158, q_l214, q_l229, q_l244, q_l259, q_l300, q_l999, q_l1813, q_l2072, q_l10000, q_l65536, q_l1000000000, m_done, m_fails, m_thrown, m_th, gs_same, q_gsgs, c_raise0, c_raise1, c_raise2, c_raise3, c_raise4, ← x5]
  · rw [x6] at x5
    refine ⟨.inr (nI j), M, nI 0, nI j, gs M 150 13 (nI 0), ?_, ?_, q_gss rfl, gAns_r, gInv_q hI (fun _ _ _ _ => rfl)⟩
    · unfold f_X6_failedCommand
      simp (disch := omega) only [↓reduceIte, eq_self, Bool.true_eq_false, Bool.false_eq_true, q_seqr, q_seql, v_ig, v_ni, v_le, v_nle, v_lt, v_nlt, v_eq, v_ne, v_gbt, v_gbf, v_gbd, v_m1lt, v_m1ge, v_m1ne, v_m1e, ↓q_bindD, ↓q_gLet, Option.isSome_some, Option.getD_some, nI_add, pk_mul, q_sub, q_m1, q_div, q_modN, nI_clamp, if_true, if_false, q_l0, q_l1, q_l2, q_l3, q_l4, q_l5, q_l6, q_l7, q_l8, q_l9, q_l10, q_l11, q_l12, q_l13, q_l14, q_l15, q_l16, q_l19, q_l20, q_l22, q_l24, q_l30, q_l32, q_l34, q_l36, q_l45, q_l47, q_l48, q_l57, q_l58, q_l59, q_l60, q_l61, q_l66, q_l75, q_l76, q_l94, q_l97, q_l99, q_l100, q_l101, q_l104, q_l105, q_l108, q_l109, q_l111, q_l114, q_l115, q_l116, q_l117, q_l118, q_l119, q_l120, q_l126, q_l132, q_l133, q_l135, q_l136, q_l138, q_l146, q_l147, q_l148, q_l149, q_l150, q_l151, q_l152, q_l153, q_l154, q_l155, q_l156, q_l157, q_l158, q_l214, q_l229, q_l244, q_l259, q_l300, q_l999, q_l1813, q_l2072, q_l10000, q_l65536, q_l1000000000, x6, c_found]
    · unfold f_X7_failedCommand
      simp (disch := omega) only [↓reduceIte, eq_self, Bool.true_eq_false, Bool.false_eq_true, q_seqr, q_seql, v_ig, v_ni, v_le, v_nle, v_lt, v_nlt, v_eq, v_ne, v_gbt, v_gbf, v_gbd, v_m1lt, v_m1ge, v_m1ne, v_m1e, ↓q_bindD, ↓q_gLet, Option.isSome_some, Option.getD_some, nI_add, pk_mul, q_sub, q_m1, q_div, q_modN, nI_clamp, if_true, if_false, q_l0, q_l1, q_l2, q_l3, q_l4, q_l5, q_l6, q_l7, q_l8, q_l9, q_l10, q_l11, q_l12, q_l13, q_l14, q_l15, q_l16, q_l19, q_l20, q_l22, q_l24, q_l30, q_l32, q_l34, q_l36, q_l45, q_l47, q_l48, q_l57, q_l58, q_l59, q_l60, q_l61, q_l66, q_l75, q_l76, q_l94, q_l97, q_l99, q_l100, q_l101, q_l104, q_l105, q_l108, q_l109, q_l111, q_l114, q_l115, q_l116, q_l117, q_l118, q_l119, q_l120, q_l126, q_l132, q_l133, q_l135, q_l136, q_l138, q_l146, q_l147, q_l148, q_l149, q_l150, q_l151, q_l152, q_l153, q_l154, q_l155, q_l156, q_l157, q_l158, q_l214, q_l229, q_l244, q_l259, q_l300, q_l999, q_l1813, q_l2072, q_l10000, q_l65536, q_l1000000000, m_done, m_fails, m_thrown, m_th, gs_same, q_gsgs, c_raise0, c_raise1, c_raise2, c_raise3, c_raise4, ← x5]
theorem K_lineChar (v : Int32) : gCl kO (f_X6_lineChar v) (f_X7_lineChar v) := by
  intro k M hk hI
  obtain ⟨t, ht, tie, x⟩ := id hI
  obtain ⟨x1, x2, x3, x4, x5, x6, l, x8, x9, x10, x11⟩ := x
  rcases q_cases v l with ⟨j, hj, rfl⟩ | hv
  · obtain ⟨c, hc, c1, c2⟩ := x11 j hj
    refine ⟨.inr (nI c), M, nI 0, nI c, gs M 150 13 (nI 0), ?_, ?_, q_gss rfl, gAns_r, gInv_q hI (fun _ _ _ _ => rfl)⟩
    · have hs : f_X3_hasIndex (nI j) M = some true := by
        unfold f_X3_hasIndex
        simp (disch := omega) only [↓reduceIte, eq_self, Bool.true_eq_false, Bool.false_eq_true, q_seqr, q_seql, v_ig, v_ni, v_le, v_nle, v_lt, v_nlt, v_eq, v_ne, v_gbt, v_gbf, v_gbd, v_m1lt, v_m1ge, v_m1ne, v_m1e, ↓q_bindD, ↓q_gLet, Option.isSome_some, Option.getD_some, nI_add, pk_mul, q_sub, q_m1, q_div, q_modN, nI_clamp, if_true, if_false, q_l0, q_l1, q_l2, q_l3, q_l4, q_l5, q_l6, q_l7, q_l8, q_l9, q_l10, q_l11, q_l12, q_l13, q_l14, q_l15, q_l16, q_l19, q_l20, q_l22, q_l24, q_l30, q_l32, q_l34, q_l36, q_l45, q_l47, q_l48, q_l57, q_l58, q_l59, q_l60, q_l61, q_l66, q_l75, q_l76, q_l94, q_l97, q_l99, q_l100, q_l101, q_l104, q_l105, q_l108, q_l109, q_l111, q_l114, q_l115, q_l116, q_l117, q_l118, q_l119, q_l120, q_l126, q_l132, q_l133, q_l135, q_l136, q_l138, q_l146, q_l147, q_l148, q_l149, q_l150, q_l151, q_l152, q_l153, q_l154, q_l155, q_l156, q_l157, q_l158, q_l214, q_l229, q_l244, q_l259, q_l300, q_l999, q_l1813, q_l2072, q_l10000, q_l65536, q_l1000000000, x9]
      unfold f_X6_lineChar
      simp (disch := omega) only [↓reduceIte, eq_self, Bool.true_eq_false, Bool.false_eq_true, q_seqr, q_seql, v_ig, v_ni, v_le, v_nle, v_lt, v_nlt, v_eq, v_ne, v_gbt, v_gbf, v_gbd, v_m1lt, v_m1ge, v_m1ne, v_m1e, ↓q_bindD, ↓q_gLet, Option.isSome_some, Option.getD_some, nI_add, pk_mul, q_sub, q_m1, q_div, q_modN, nI_clamp, if_true, if_false, q_l0, q_l1, q_l2, q_l3, q_l4, q_l5, q_l6, q_l7, q_l8, q_l9, q_l10, q_l11, q_l12, q_l13, q_l14, q_l15, q_l16, q_l19, q_l20, q_l22, q_l24, q_l30, q_l32, q_l34, q_l36, q_l45, q_l47, q_l48, q_l57, q_l58, q_l59, q_l60, q_l61, q_l66, q_l75, q_l76, q_l94, q_l97, q_l99, q_l100, q_l101, q_l104, q_l105, q_l108, q_l109, q_l111, q_l114, q_l115, q_l116, q_l117, q_l118, q_l119, q_l120, q_l126, q_l132, q_l133, q_l135, q_l136, q_l138, q_l146, q_l147, q_l148, q_l149, q_l150, q_l151, q_l152, q_l153, q_l154, q_l155, q_l156, q_l157, q_l158, q_l214, q_l229, q_l244, q_l259, q_l300, q_l999, q_l1813, q_l2072, q_l10000, q_l65536, q_l1000000000, hs, c1]
    · unfold f_X7_lineChar
      simp (disch := omega) only [↓reduceIte, eq_self, Bool.true_eq_false, Bool.false_eq_true, q_seqr, q_seql, v_ig, v_ni, v_le, v_nle, v_lt, v_nlt, v_eq, v_ne, v_gbt, v_gbf, v_gbd, v_m1lt, v_m1ge, v_m1ne, v_m1e, ↓q_bindD, ↓q_gLet, Option.isSome_some, Option.getD_some, nI_add, pk_mul, q_sub, q_m1, q_div, q_modN, nI_clamp, if_true, if_false, q_l0, q_l1, q_l2, q_l3, q_l4, q_l5, q_l6, q_l7, q_l8, q_l9, q_l10, q_l11, q_l12, q_l13, q_l14, q_l15, q_l16, q_l19, q_l20, q_l22, q_l24, q_l30, q_l32, q_l34, q_l36, q_l45, q_l47, q_l48, q_l57, q_l58, q_l59, q_l60, q_l61, q_l66, q_l75, q_l76, q_l94, q_l97, q_l99, q_l100, q_l101, q_l104, q_l105, q_l108, q_l109, q_l111, q_l114, q_l115, q_l116, q_l117, q_l118, q_l119, q_l120, q_l126, q_l132, q_l133, q_l135, q_l136, q_l138, q_l146, q_l147, q_l148, q_l149, q_l150, q_l151, q_l152, q_l153, q_l154, q_l155, q_l156, q_l157, q_l158, q_l214, q_l229, q_l244, q_l259, q_l300, q_l999, q_l1813, q_l2072, q_l10000, q_l65536, q_l1000000000, m_done, m_fails, m_thrown, m_th, gs_same, q_gsgs, c_raise0, c_raise1, c_raise2, c_raise3, c_raise4, x10, m_in_t, q_gsn, c2]
  · refine ⟨.inl "java/lang/IndexOutOfBoundsException", M, nI 1, nI 0, gs M 150 13 (nI 1), ?_, ?_, q_gss rfl, gAns_l 0 rfl, gInv_q hI (fun _ _ _ _ => rfl)⟩
    · have hs : f_X3_hasIndex v M = some false := by
        unfold f_X3_hasIndex
        rw [x9]
        by_cases h0 : v < 0
        · rw [if_pos h0]
        · rw [if_neg h0]
          by_cases q : v < nI l
          · refine absurd ?_ hv
            have q1 := Int32.lt_iff_toInt_lt.mp q
            rw [nI_toInt (by omega)] at q1
            have q2 : ¬ v.toInt < (0 : Int32).toInt := fun z => h0 (Int32.lt_iff_toInt_lt.mpr z)
            have e0 : (0 : Int32).toInt = 0 := rfl
            exact ⟨by omega, q1⟩
          · rw [if_pos (Int32.not_lt.mp q)]
      unfold f_X6_lineChar
      simp (disch := omega) only [↓reduceIte, eq_self, Bool.true_eq_false, Bool.false_eq_true, q_seqr, q_seql, v_ig, v_ni, v_le, v_nle, v_lt, v_nlt, v_eq, v_ne, v_gbt, v_gbf, v_gbd, v_m1lt, v_m1ge, v_m1ne, v_m1e, ↓q_bindD, ↓q_gLet, Option.isSome_some, Option.getD_some, nI_add, pk_mul, q_sub, q_m1, q_div, q_modN, nI_clamp, if_true, if_false, q_l0, q_l1, q_l2, q_l3, q_l4, q_l5, q_l6, q_l7, q_l8, q_l9, q_l10, q_l11, q_l12, q_l13, q_l14, q_l15, q_l16, q_l19, q_l20, q_l22, q_l24, q_l30, q_l32, q_l34, q_l36, q_l45, q_l47, q_l48, q_l57, q_l58, q_l59, q_l60, q_l61, q_l66, q_l75, q_l76, q_l94, q_l97, q_l99, q_l100, q_l101, q_l104, q_l105, q_l108, q_l109, q_l111, q_l114, q_l115, q_l116, q_l117, q_l118, q_l119, q_l120, q_l126, q_l132, q_l133, q_l135, q_l136, q_l138, q_l146, q_l147, q_l148, q_l149, q_l150, q_l151, q_l152, q_l153, q_l154, q_l155, q_l156, q_l157, q_l158, q_l214, q_l229, q_l244, q_l259, q_l300, q_l999, q_l1813, q_l2072, q_l10000, q_l65536, q_l1000000000, hs]
    · by_cases h00 : l = 0
      · subst h00
        unfold f_X7_lineChar
        simp (disch := omega) only [↓reduceIte, eq_self, Bool.true_eq_false, Bool.false_eq_true, q_seqr, q_seql, v_ig, v_ni, v_le, v_nle, v_lt, v_nlt, v_eq, v_ne, v_gbt, v_gbf, v_gbd, v_m1lt, v_m1ge, v_m1ne, v_m1e, ↓q_bindD, ↓q_gLet, Option.isSome_some, Option.getD_some, nI_add, pk_mul, q_sub, q_m1, q_div, q_modN, nI_clamp, if_true, if_false, q_l0, q_l1, q_l2, q_l3, q_l4, q_l5, q_l6, q_l7, q_l8, q_l9, q_l10, q_l11, q_l12, q_l13, q_l14, q_l15, q_l16, q_l19, q_l20, q_l22, q_l24, q_l30, q_l32, q_l34, q_l36, q_l45, q_l47, q_l48, q_l57, q_l58, q_l59, q_l60, q_l61, q_l66, q_l75, q_l76, q_l94, q_l97, q_l99, q_l100, q_l101, q_l104, q_l105, q_l108, q_l109, q_l111, q_l114, q_l115, q_l116, q_l117, q_l118, q_l119, q_l120, q_l126, q_l132, q_l133, q_l135, q_l136, q_l138, q_l146, q_l147, q_l148, q_l149, q_l150, q_l151, q_l152, q_l153, q_l154, q_l155, q_l156, q_l157, q_l158, q_l214, q_l229, q_l244, q_l259, q_l300, q_l999, q_l1813, q_l2072, q_l10000, q_l65536, q_l1000000000, m_done, m_fails, m_thrown, m_th, gs_same, q_gsgs, c_raise0, c_raise1, c_raise2, c_raise3, c_raise4, x10, q_s01, m_in_m]
      · have h9 := gin_out (v := v) (n := l - 1) (by rw [show l - 1 + 1 = l by omega]; exact hv) (by omega)
        unfold f_X7_lineChar
        simp (disch := omega) only [↓reduceIte, eq_self, Bool.true_eq_false, Bool.false_eq_true, q_seqr, q_seql, v_ig, v_ni, v_le, v_nle, v_lt, v_nlt, v_eq, v_ne, v_gbt, v_gbf, v_gbd, v_m1lt, v_m1ge, v_m1ne, v_m1e, ↓q_bindD, ↓q_gLet, Option.isSome_some, Option.getD_some, nI_add, pk_mul, q_sub, q_m1, q_div, q_modN, nI_clamp, if_true, if_false, q_l0, q_l1, q_l2, q_l3, q_l4, q_l5, q_l6, q_l7, q_l8, q_l9, q_l10, q_l11, q_l12, q_l13, q_l14, q_l15, q_l16, q_l19, q_l20, q_l22, q_l24, q_l30, q_l32, q_l34, q_l36, q_l45, q_l47, q_l48, q_l57, q_l58, q_l59, q_l60, q_l61, q_l66, q_l75, q_l76, q_l94, q_l97, q_l99, q_l100, q_l101, q_l104, q_l105, q_l108, q_l109, q_l111, q_l114, q_l115, q_l116, q_l117, q_l118, q_l119, q_l120, q_l126, q_l132, q_l133, q_l135, q_l136, q_l138, q_l146, q_l147, q_l148, q_l149, q_l150, q_l151, q_l152, q_l153, q_l154, q_l155, q_l156, q_l157, q_l158, q_l214, q_l229, q_l244, q_l259, q_l300, q_l999, q_l1813, q_l2072, q_l10000, q_l65536, q_l1000000000, m_done, m_fails, m_thrown, m_th, gs_same, q_gsgs, c_raise0, c_raise1, c_raise2, c_raise3, c_raise4, x10, m_in_f h9]
