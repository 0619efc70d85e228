/-! The class alone over a row: what it answers; laid by wip/p67/gen/q0.py. -/
section CQ
variable {M : gM} {r : Nat → Int32} {β : Nat}
theorem e_hour (g : gSim M 0 r) : f_X6_hour M = some (r 0) := by unfold f_X6_hour; rw [g.1.1]
theorem e_fees (g : gSim M 0 r) : f_X6_fees M = some (r 2) := by unfold f_X6_fees; rw [g.1.2.1]
theorem e_clearedTotal (g : gSim M 0 r) : f_X6_clearedTotal M = some (r 3) := by unfold f_X6_clearedTotal; rw [g.1.2.2.2.1]
theorem e_deliveredTotal (g : gSim M 0 r) : f_X6_deliveredTotal M = some (r 4) := by unfold f_X6_deliveredTotal; rw [g.1.2.2.2.2.1]
theorem e_wrongTotal (g : gSim M 0 r) : f_X6_wrongTotal M = some (r 5) := by unfold f_X6_wrongTotal; rw [g.1.2.2.2.2.2]
theorem e_yardCount (g : gSim M 0 r) (w : gRow β r) : f_X6_yardCount M = some (r 6) := by unfold f_X6_yardCount; simp (disch := omega) only [q_seqr, q_seql, q_ig, q_ni, q_le, q_nle, q_lt, q_nlt, q_eq, q_ne, q_eqr, q_gbt, q_gbf, q_gbd, q_m1lt, q_m1ge, q_m1ne, q_m1eq, q_m1e, Option.bind_some, gLet, nI_add, pk_mul, q_sub, q_m1, q_div, q_modN, nI_clamp, if_true, if_false, Bool.false_eq_true, q_l0, q_l1, q_l2, q_l3, q_l4, q_l5, q_l6, q_l7, q_l8, q_l9, q_l10, q_l11, q_l12, q_l13, q_l14, q_l15, q_l16, q_l19, q_l20, q_l22, q_l24, q_l30, q_l32, q_l34, q_l36, q_l45, q_l47, q_l48, q_l57, q_l58, q_l59, q_l60, q_l61, q_l66, q_l75, q_l76, q_l94, q_l97, q_l99, q_l100, q_l101, q_l104, q_l105, q_l108, q_l109, q_l111, q_l114, q_l115, q_l116, q_l117, q_l118, q_l119, q_l120, q_l126, q_l132, q_l133, q_l135, q_l136, q_l138, q_l146, q_l147, q_l148, q_l149, q_l150, q_l151, q_l152, q_l153, q_l154, q_l155, q_l156, q_l157, q_l158, q_l214, q_l229, q_l244, q_l259, q_l300, q_l999, q_l1813, q_l2072, q_l10000, q_l65536, q_l1000000000, m_done, m_fails, m_thrown, m_th, gs_same, q_gsgs, c_raise0, c_raise1, c_raise2, c_raise3, c_raise4, sim_yard g w]
theorem e_berth {b : Nat} (hb : b < 3) : f_X6_requireBerth (nI b) M = some (.inr (), M) := by unfold f_X6_requireBerth; simp (disch := omega) only [q_seqr, q_seql, q_ig, q_ni, q_le, q_nle, q_lt, q_nlt, q_eq, q_ne, q_eqr, q_gbt, q_gbf, q_gbd, q_m1lt, q_m1ge, q_m1ne, q_m1eq, q_m1e, Option.bind_some, gLet, nI_add, pk_mul, q_sub, q_m1, q_div, q_modN, nI_clamp, if_true, if_false, Bool.false_eq_true, q_l0, q_l1, q_l2, q_l3, q_l4, q_l5, q_l6, q_l7, q_l8, q_l9, q_l10, q_l11, q_l12, q_l13, q_l14, q_l15, q_l16, q_l19, q_l20, q_l22, q_l24, q_l30, q_l32, q_l34, q_l36, q_l45, q_l47, q_l48, q_l57, q_l58, q_l59, q_l60, q_l61, q_l66, q_l75, q_l76, q_l94, q_l97, q_l99, q_l100, q_l101, q_l104, q_l105, q_l108, q_l109, q_l111, q_l114, q_l115, q_l116, q_l117, q_l118, q_l119, q_l120, q_l126, q_l132, q_l133, q_l135, q_l136, q_l138, q_l146, q_l147, q_l148, q_l149, q_l150, q_l151, q_l152, q_l153, q_l154, q_l155, q_l156, q_l157, q_l158, q_l214, q_l229, q_l244, q_l259, q_l300, q_l999, q_l1813, q_l2072, q_l10000, q_l65536, q_l1000000000, m_done, m_fails, m_thrown, m_th, gs_same, q_gsgs, c_raise0, c_raise1, c_raise2, c_raise3, c_raise4, c_isBerth hb, c_raise0]
theorem e_lockedHours (g : gSim M 0 r) {b : Nat} (hb : b < 3) : f_X6_lockedHours (nI b) M = some (.inr (r (19 + b)), M) := by
  have h1 := e_berth (M := M) hb
  have e := (g.2.2.1 b hb).2
  simp only [Nat.zero_add] at e
  unfold f_X6_lockedHours; simp (disch := omega) only [q_seqr, q_seql, q_ig, q_ni, q_le, q_nle, q_lt, q_nlt, q_eq, q_ne, q_eqr, q_gbt, q_gbf, q_gbd, q_m1lt, q_m1ge, q_m1ne, q_m1eq, q_m1e, Option.bind_some, gLet, nI_add, pk_mul, q_sub, q_m1, q_div, q_modN, nI_clamp, if_true, if_false, Bool.false_eq_true, q_l0, q_l1, q_l2, q_l3, q_l4, q_l5, q_l6, q_l7, q_l8, q_l9, q_l10, q_l11, q_l12, q_l13, q_l14, q_l15, q_l16, q_l19, q_l20, q_l22, q_l24, q_l30, q_l32, q_l34, q_l36, q_l45, q_l47, q_l48, q_l57, q_l58, q_l59, q_l60, q_l61, q_l66, q_l75, q_l76, q_l94, q_l97, q_l99, q_l100, q_l101, q_l104, q_l105, q_l108, q_l109, q_l111, q_l114, q_l115, q_l116, q_l117, q_l118, q_l119, q_l120, q_l126, q_l132, q_l133, q_l135, q_l136, q_l138, q_l146, q_l147, q_l148, q_l149, q_l150, q_l151, q_l152, q_l153, q_l154, q_l155, q_l156, q_l157, q_l158, q_l214, q_l229, q_l244, q_l259, q_l300, q_l999, q_l1813, q_l2072, q_l10000, q_l65536, q_l1000000000, m_done, m_fails, m_thrown, m_th, gs_same, q_gsgs, c_raise0, c_raise1, c_raise2, c_raise3, c_raise4, h1, e]
theorem e_wrongAnswers (g : gSim M 0 r) {b : Nat} (hb : b < 3) : f_X6_wrongAnswers (nI b) M = some (.inr (r (16 + b)), M) := by
  have h1 := e_berth (M := M) hb
  have e := (g.2.2.1 b hb).1
  simp only [Nat.zero_add] at e
  unfold f_X6_wrongAnswers; simp (disch := omega) only [q_seqr, q_seql, q_ig, q_ni, q_le, q_nle, q_lt, q_nlt, q_eq, q_ne, q_eqr, q_gbt, q_gbf, q_gbd, q_m1lt, q_m1ge, q_m1ne, q_m1eq, q_m1e, Option.bind_some, gLet, nI_add, pk_mul, q_sub, q_m1, q_div, q_modN, nI_clamp, if_true, if_false, Bool.false_eq_true, q_l0, q_l1, q_l2, q_l3, q_l4, q_l5, q_l6, q_l7, q_l8, q_l9, q_l10, q_l11, q_l12, q_l13, q_l14, q_l15, q_l16, q_l19, q_l20, q_l22, q_l24, q_l30, q_l32, q_l34, q_l36, q_l45, q_l47, q_l48, q_l57, q_l58, q_l59, q_l60, q_l61, q_l66, q_l75, q_l76, q_l94, q_l97, q_l99, q_l100, q_l101, q_l104, q_l105, q_l108, q_l109, q_l111, q_l114, q_l115, q_l116, q_l117, q_l118, q_l119, q_l120, q_l126, q_l132, q_l133, q_l135, q_l136, q_l138, q_l146, q_l147, q_l148, q_l149, q_l150, q_l151, q_l152, q_l153, q_l154, q_l155, q_l156, q_l157, q_l158, q_l214, q_l229, q_l244, q_l259, q_l300, q_l999, q_l1813, q_l2072, q_l10000, q_l65536, q_l1000000000, m_done, m_fails, m_thrown, m_th, gs_same, q_gsgs, c_raise0, c_raise1, c_raise2, c_raise3, c_raise4, h1, e]
theorem e_isMoored (g : gSim M 0 r) (w : gRow β r) {b : Nat} (hb : b < 3) : f_X6_isMoored (nI b) M = some (.inr (decide (r (7 + b) = nI 1)), M) := by
  have h1 := e_berth (M := M) hb
  rcases sim_ship g w hb with ⟨h3, h4⟩ | ⟨h3, h4, -⟩
  · rw [h3, show decide (nI 0 = nI 1) = false from rfl]
    unfold f_X6_isMoored; simp (disch := omega) only [q_seqr, q_seql, q_ig, q_ni, q_le, q_nle, q_lt, q_nlt, q_eq, q_ne, q_eqr, q_gbt, q_gbf, q_gbd, q_m1lt, q_m1ge, q_m1ne, q_m1eq, q_m1e, Option.bind_some, gLet, nI_add, pk_mul, q_sub, q_m1, q_div, q_modN, nI_clamp, if_true, if_false, Bool.false_eq_true, q_l0, q_l1, q_l2, q_l3, q_l4, q_l5, q_l6, q_l7, q_l8, q_l9, q_l10, q_l11, q_l12, q_l13, q_l14, q_l15, q_l16, q_l19, q_l20, q_l22, q_l24, q_l30, q_l32, q_l34, q_l36, q_l45, q_l47, q_l48, q_l57, q_l58, q_l59, q_l60, q_l61, q_l66, q_l75, q_l76, q_l94, q_l97, q_l99, q_l100, q_l101, q_l104, q_l105, q_l108, q_l109, q_l111, q_l114, q_l115, q_l116, q_l117, q_l118, q_l119, q_l120, q_l126, q_l132, q_l133, q_l135, q_l136, q_l138, q_l146, q_l147, q_l148, q_l149, q_l150, q_l151, q_l152, q_l153, q_l154, q_l155, q_l156, q_l157, q_l158, q_l214, q_l229, q_l244, q_l259, q_l300, q_l999, q_l1813, q_l2072, q_l10000, q_l65536, q_l1000000000, m_done, m_fails, m_thrown, m_th, gs_same, q_gsgs, c_raise0, c_raise1, c_raise2, c_raise3, c_raise4, h1, h4]
  · rw [h3, show decide (nI 1 = nI 1) = true from rfl]
    unfold f_X6_isMoored; simp (disch := omega) only [q_seqr, q_seql, q_ig, q_ni, q_le, q_nle, q_lt, q_nlt, q_eq, q_ne, q_eqr, q_gbt, q_gbf, q_gbd, q_m1lt, q_m1ge, q_m1ne, q_m1eq, q_m1e, Option.bind_some, gLet, nI_add, pk_mul, q_sub, q_m1, q_div, q_modN, nI_clamp, if_true, if_false, Bool.false_eq_true, q_l0, q_l1, q_l2, q_l3, q_l4, q_l5, q_l6, q_l7, q_l8, q_l9, q_l10, q_l11, q_l12, q_l13, q_l14, q_l15, q_l16, q_l19, q_l20, q_l22, q_l24, q_l30, q_l32, q_l34, q_l36, q_l45, q_l47, q_l48, q_l57, q_l58, q_l59, q_l60, q_l61, q_l66, q_l75, q_l76, q_l94, q_l97, q_l99, q_l100, q_l101, q_l104, q_l105, q_l108, q_l109, q_l111, q_l114, q_l115, q_l116, q_l117, q_l118, q_l119, q_l120, q_l126, q_l132, q_l133, q_l135, q_l136, q_l138, q_l146, q_l147, q_l148, q_l149, q_l150, q_l151, q_l152, q_l153, q_l154, q_l155, q_l156, q_l157, q_l158, q_l214, q_l229, q_l244, q_l259, q_l300, q_l999, q_l1813, q_l2072, q_l10000, q_l65536, q_l1000000000, m_done, m_fails, m_thrown, m_th, gs_same, q_gsgs, c_raise0, c_raise1, c_raise2, c_raise3, c_raise4, h1, h4]
theorem e_ship (g : gSim M 0 r) (w : gRow β r) {b : Nat} (hb : b < 3) (hm : r (7 + b) = nI 1) : f_X5_hasShip 0 (nI b) M = some true ∧ f_X6_requireShip (nI b) M = some (.inr (), M) ∧ M 8 b = r (10 + b) ∧ M 9 b = r (13 + b) := by
  rcases sim_ship g w hb with ⟨h1, h2⟩ | ⟨h1, h2, h3, h4, h5⟩
  · rw [h1] at hm; exact absurd hm (by decide)
  · refine ⟨h2, ?_, by simpa using h3, by simpa using h4⟩
    unfold f_X6_requireShip f_X6_requireBerth
    simp (disch := omega) only [q_seqr, q_seql, q_ig, q_ni, q_le, q_nle, q_lt, q_nlt, q_eq, q_ne, q_eqr, q_gbt, q_gbf, q_gbd, q_m1lt, q_m1ge, q_m1ne, q_m1eq, q_m1e, Option.bind_some, gLet, nI_add, pk_mul, q_sub, q_m1, q_div, q_modN, nI_clamp, if_true, if_false, Bool.false_eq_true, q_l0, q_l1, q_l2, q_l3, q_l4, q_l5, q_l6, q_l7, q_l8, q_l9, q_l10, q_l11, q_l12, q_l13, q_l14, q_l15, q_l16, q_l19, q_l20, q_l22, q_l24, q_l30, q_l32, q_l34, q_l36, q_l45, q_l47, q_l48, q_l57, q_l58, q_l59, q_l60, q_l61, q_l66, q_l75, q_l76, q_l94, q_l97, q_l99, q_l100, q_l101, q_l104, q_l105, q_l108, q_l109, q_l111, q_l114, q_l115, q_l116, q_l117, q_l118, q_l119, q_l120, q_l126, q_l132, q_l133, q_l135, q_l136, q_l138, q_l146, q_l147, q_l148, q_l149, q_l150, q_l151, q_l152, q_l153, q_l154, q_l155, q_l156, q_l157, q_l158, q_l214, q_l229, q_l244, q_l259, q_l300, q_l999, q_l1813, q_l2072, q_l10000, q_l65536, q_l1000000000, m_done, m_fails, m_thrown, m_th, gs_same, q_gsgs, c_raise0, c_raise1, c_raise2, c_raise3, c_raise4, c_isBerth hb, h2, c_raise0, c_raise4]
theorem e_draught (g : gSim M 0 r) (w : gRow β r) {b : Nat} (hb : b < 3) (hm : r (7 + b) = nI 1) : f_X6_draught (nI b) M = some (.inr (r (10 + b)), M) := by
  obtain ⟨h0, h1, h3, h4⟩ := e_ship g w hb hm
  unfold f_X6_draught; simp (disch := omega) only [q_seqr, q_seql, q_ig, q_ni, q_le, q_nle, q_lt, q_nlt, q_eq, q_ne, q_eqr, q_gbt, q_gbf, q_gbd, q_m1lt, q_m1ge, q_m1ne, q_m1eq, q_m1e, Option.bind_some, gLet, nI_add, pk_mul, q_sub, q_m1, q_div, q_modN, nI_clamp, if_true, if_false, Bool.false_eq_true, q_l0, q_l1, q_l2, q_l3, q_l4, q_l5, q_l6, q_l7, q_l8, q_l9, q_l10, q_l11, q_l12, q_l13, q_l14, q_l15, q_l16, q_l19, q_l20, q_l22, q_l24, q_l30, q_l32, q_l34, q_l36, q_l45, q_l47, q_l48, q_l57, q_l58, q_l59, q_l60, q_l61, q_l66, q_l75, q_l76, q_l94, q_l97, q_l99, q_l100, q_l101, q_l104, q_l105, q_l108, q_l109, q_l111, q_l114, q_l115, q_l116, q_l117, q_l118, q_l119, q_l120, q_l126, q_l132, q_l133, q_l135, q_l136, q_l138, q_l146, q_l147, q_l148, q_l149, q_l150, q_l151, q_l152, q_l153, q_l154, q_l155, q_l156, q_l157, q_l158, q_l214, q_l229, q_l244, q_l259, q_l300, q_l999, q_l1813, q_l2072, q_l10000, q_l65536, q_l1000000000, m_done, m_fails, m_thrown, m_th, gs_same, q_gsgs, c_raise0, c_raise1, c_raise2, c_raise3, c_raise4, h1, h3]
theorem e_dueHour (g : gSim M 0 r) (w : gRow β r) {b : Nat} (hb : b < 3) (hm : r (7 + b) = nI 1) : f_X6_dueHour (nI b) M = some (.inr (r (13 + b)), M) := by
  obtain ⟨h0, h1, h3, h4⟩ := e_ship g w hb hm
  unfold f_X6_dueHour; simp (disch := omega) only [q_seqr, q_seql, q_ig, q_ni, q_le, q_nle, q_lt, q_nlt, q_eq, q_ne, q_eqr, q_gbt, q_gbf, q_gbd, q_m1lt, q_m1ge, q_m1ne, q_m1eq, q_m1e, Option.bind_some, gLet, nI_add, pk_mul, q_sub, q_m1, q_div, q_modN, nI_clamp, if_true, if_false, Bool.false_eq_true, q_l0, q_l1, q_l2, q_l3, q_l4, q_l5, q_l6, q_l7, q_l8, q_l9, q_l10, q_l11, q_l12, q_l13, q_l14, q_l15, q_l16, q_l19, q_l20, q_l22, q_l24, q_l30, q_l32, q_l34, q_l36, q_l45, q_l47, q_l48, q_l57, q_l58, q_l59, q_l60, q_l61, q_l66, q_l75, q_l76, q_l94, q_l97, q_l99, q_l100, q_l101, q_l104, q_l105, q_l108, q_l109, q_l111, q_l114, q_l115, q_l116, q_l117, q_l118, q_l119, q_l120, q_l126, q_l132, q_l133, q_l135, q_l136, q_l138, q_l146, q_l147, q_l148, q_l149, q_l150, q_l151, q_l152, q_l153, q_l154, q_l155, q_l156, q_l157, q_l158, q_l214, q_l229, q_l244, q_l259, q_l300, q_l999, q_l1813, q_l2072, q_l10000, q_l65536, q_l1000000000, m_done, m_fails, m_thrown, m_th, gs_same, q_gsgs, c_raise0, c_raise1, c_raise2, c_raise3, c_raise4, h1, h4]
theorem e_stack (g : gSim M 0 r) (w : gRow β r) {b s : Nat} (hb : b < 3) (hs : s < 4) (hm : r (7 + b) = nI 1) : f_X6_requireStack (nI b) (nI s) M = some (.inr (), M) := by
  obtain ⟨h0, h1, h3, h4⟩ := e_ship g w hb hm
  unfold f_X6_requireStack
  simp (disch := omega) only [q_seqr, q_seql, q_ig, q_ni, q_le, q_nle, q_lt, q_nlt, q_eq, q_ne, q_eqr, q_gbt, q_gbf, q_gbd, q_m1lt, q_m1ge, q_m1ne, q_m1eq, q_m1e, Option.bind_some, gLet, nI_add, pk_mul, q_sub, q_m1, q_div, q_modN, nI_clamp, if_true, if_false, Bool.false_eq_true, q_l0, q_l1, q_l2, q_l3, q_l4, q_l5, q_l6, q_l7, q_l8, q_l9, q_l10, q_l11, q_l12, q_l13, q_l14, q_l15, q_l16, q_l19, q_l20, q_l22, q_l24, q_l30, q_l32, q_l34, q_l36, q_l45, q_l47, q_l48, q_l57, q_l58, q_l59, q_l60, q_l61, q_l66, q_l75, q_l76, q_l94, q_l97, q_l99, q_l100, q_l101, q_l104, q_l105, q_l108, q_l109, q_l111, q_l114, q_l115, q_l116, q_l117, q_l118, q_l119, q_l120, q_l126, q_l132, q_l133, q_l135, q_l136, q_l138, q_l146, q_l147, q_l148, q_l149, q_l150, q_l151, q_l152, q_l153, q_l154, q_l155, q_l156, q_l157, q_l158, q_l214, q_l229, q_l244, q_l259, q_l300, q_l999, q_l1813, q_l2072, q_l10000, q_l65536, q_l1000000000, m_done, m_fails, m_thrown, m_th, gs_same, q_gsgs, c_raise0, c_raise1, c_raise2, c_raise3, c_raise4, c_isStack hs, c_raise0, h1]
theorem e_stackHeight (g : gSim M 0 r) (w : gRow β r) {b s : Nat} (hb : b < 3) (hs : s < 4) (hm : r (7 + b) = nI 1) : f_X6_stackHeight (nI b) (nI s) M = some (.inr (nI (hN r (b * 4 + s))), M) := by
  have h1 := e_stack g w hb hs hm
  have hh := sim_height g w (p := b * 4 + s) (by omega)
  rw [(w.h (p := b * 4 + s) (by omega)).1] at hh
  unfold f_X6_stackHeight; simp (disch := omega) only [q_seqr, q_seql, q_ig, q_ni, q_le, q_nle, q_lt, q_nlt, q_eq, q_ne, q_eqr, q_gbt, q_gbf, q_gbd, q_m1lt, q_m1ge, q_m1ne, q_m1eq, q_m1e, Option.bind_some, gLet, nI_add, pk_mul, q_sub, q_m1, q_div, q_modN, nI_clamp, if_true, if_false, Bool.false_eq_true, q_l0, q_l1, q_l2, q_l3, q_l4, q_l5, q_l6, q_l7, q_l8, q_l9, q_l10, q_l11, q_l12, q_l13, q_l14, q_l15, q_l16, q_l19, q_l20, q_l22, q_l24, q_l30, q_l32, q_l34, q_l36, q_l45, q_l47, q_l48, q_l57, q_l58, q_l59, q_l60, q_l61, q_l66, q_l75, q_l76, q_l94, q_l97, q_l99, q_l100, q_l101, q_l104, q_l105, q_l108, q_l109, q_l111, q_l114, q_l115, q_l116, q_l117, q_l118, q_l119, q_l120, q_l126, q_l132, q_l133, q_l135, q_l136, q_l138, q_l146, q_l147, q_l148, q_l149, q_l150, q_l151, q_l152, q_l153, q_l154, q_l155, q_l156, q_l157, q_l158, q_l214, q_l229, q_l244, q_l259, q_l300, q_l999, q_l1813, q_l2072, q_l10000, q_l65536, q_l1000000000, m_done, m_fails, m_thrown, m_th, gs_same, q_gsgs, c_raise0, c_raise1, c_raise2, c_raise3, c_raise4, h1, c_pileOf, hh]
theorem e_containerAt (g : gSim M 0 r) (w : gRow β r) {b s l : Nat} (hb : b < 3) (hs : s < 4) (hm : r (7 + b) = nI 1) (hl : l < hN r (b * 4 + s)) : f_X6_containerAt (nI b) (nI s) (nI l) M = some (.inr (r (34 + (5 * (b * 4 + s) + l))), M) := by
  have h1 := e_stack g w hb hs hm
  obtain ⟨c, hc, h75, hP, -⟩ := g.rows
  have hp : b * 4 + s < 12 := by omega
  have h5 := (w.h hp).2
  obtain ⟨j, hj, ht, h⟩ := sim_cell g w hc h75 hP hp hl
  have e : M 2 j = r (34 + (5 * (b * 4 + s) + l)) := congrArg Prod.fst ht
  unfold f_X6_containerAt; simp (disch := omega) only [q_seqr, q_seql, q_ig, q_ni, q_le, q_nle, q_lt, q_nlt, q_eq, q_ne, q_eqr, q_gbt, q_gbf, q_gbd, q_m1lt, q_m1ge, q_m1ne, q_m1eq, q_m1e, Option.bind_some, gLet, nI_add, pk_mul, q_sub, q_m1, q_div, q_modN, nI_clamp, if_true, if_false, Bool.false_eq_true, q_l0, q_l1, q_l2, q_l3, q_l4, q_l5, q_l6, q_l7, q_l8, q_l9, q_l10, q_l11, q_l12, q_l13, q_l14, q_l15, q_l16, q_l19, q_l20, q_l22, q_l24, q_l30, q_l32, q_l34, q_l36, q_l45, q_l47, q_l48, q_l57, q_l58, q_l59, q_l60, q_l61, q_l66, q_l75, q_l76, q_l94, q_l97, q_l99, q_l100, q_l101, q_l104, q_l105, q_l108, q_l109, q_l111, q_l114, q_l115, q_l116, q_l117, q_l118, q_l119, q_l120, q_l126, q_l132, q_l133, q_l135, q_l136, q_l138, q_l146, q_l147, q_l148, q_l149, q_l150, q_l151, q_l152, q_l153, q_l154, q_l155, q_l156, q_l157, q_l158, q_l214, q_l229, q_l244, q_l259, q_l300, q_l999, q_l1813, q_l2072, q_l10000, q_l65536, q_l1000000000, m_done, m_fails, m_thrown, m_th, gs_same, q_gsgs, c_raise0, c_raise1, c_raise2, c_raise3, c_raise4, h1, c_pileOf, h, c_found, s_id hc h75 hj, Nat.zero_add, e]
theorem e_topOf (g : gSim M 0 r) (w : gRow β r) {b s : Nat} (hb : b < 3) (hs : s < 4) (hm : r (7 + b) = nI 1) (h0 : hN r (b * 4 + s) ≠ 0) : f_X6_topOf (nI b) (nI s) M = some (.inr (r (34 + (5 * (b * 4 + s) + (hN r (b * 4 + s) - 1)))), M) := by
  have h1 := e_stack g w hb hs hm
  obtain ⟨c, hc, h75, hP, -⟩ := g.rows
  have hp : b * 4 + s < 12 := by omega
  have h5 := (w.h hp).2
  rcases c_topRow g w hc h75 hP hp with ⟨h00, h⟩ | ⟨h00, j, hj, ht, h⟩
  · exact absurd h00 h0
  · have e : M 2 j = r (34 + (5 * (b * 4 + s) + (hN r (b * 4 + s) - 1))) := congrArg Prod.fst ht
    unfold f_X6_topOf; simp (disch := omega) only [q_seqr, q_seql, q_ig, q_ni, q_le, q_nle, q_lt, q_nlt, q_eq, q_ne, q_eqr, q_gbt, q_gbf, q_gbd, q_m1lt, q_m1ge, q_m1ne, q_m1eq, q_m1e, Option.bind_some, gLet, nI_add, pk_mul, q_sub, q_m1, q_div, q_modN, nI_clamp, if_true, if_false, Bool.false_eq_true, q_l0, q_l1, q_l2, q_l3, q_l4, q_l5, q_l6, q_l7, q_l8, q_l9, q_l10, q_l11, q_l12, q_l13, q_l14, q_l15, q_l16, q_l19, q_l20, q_l22, q_l24, q_l30, q_l32, q_l34, q_l36, q_l45, q_l47, q_l48, q_l57, q_l58, q_l59, q_l60, q_l61, q_l66, q_l75, q_l76, q_l94, q_l97, q_l99, q_l100, q_l101, q_l104, q_l105, q_l108, q_l109, q_l111, q_l114, q_l115, q_l116, q_l117, q_l118, q_l119, q_l120, q_l126, q_l132, q_l133, q_l135, q_l136, q_l138, q_l146, q_l147, q_l148, q_l149, q_l150, q_l151, q_l152, q_l153, q_l154, q_l155, q_l156, q_l157, q_l158, q_l214, q_l229, q_l244, q_l259, q_l300, q_l999, q_l1813, q_l2072, q_l10000, q_l65536, q_l1000000000, m_done, m_fails, m_thrown, m_th, gs_same, q_gsgs, c_raise0, c_raise1, c_raise2, c_raise3, c_raise4, h1, c_pileOf, h, c_found, s_id hc h75 hj, Nat.zero_add, e]
theorem e_yardAt (g : gSim M 0 r) (w : gRow β r) {l : Nat} (hl : l < yN r) : f_X6_yardAt (nI l) M = some (.inr (r (214 + l)), M) := by
  obtain ⟨c, hc, h75, hP, -⟩ := g.rows
  have hy := w.y
  obtain ⟨j, hj, ht, h⟩ := sim_yd g w hc h75 hP hl
  have e : M 2 j = r (214 + l) := congrArg Prod.fst ht
  unfold f_X6_yardAt; simp (disch := omega) only [q_seqr, q_seql, q_ig, q_ni, q_le, q_nle, q_lt, q_nlt, q_eq, q_ne, q_eqr, q_gbt, q_gbf, q_gbd, q_m1lt, q_m1ge, q_m1ne, q_m1eq, q_m1e, Option.bind_some, gLet, nI_add, pk_mul, q_sub, q_m1, q_div, q_modN, nI_clamp, if_true, if_false, Bool.false_eq_true, q_l0, q_l1, q_l2, q_l3, q_l4, q_l5, q_l6, q_l7, q_l8, q_l9, q_l10, q_l11, q_l12, q_l13, q_l14, q_l15, q_l16, q_l19, q_l20, q_l22, q_l24, q_l30, q_l32, q_l34, q_l36, q_l45, q_l47, q_l48, q_l57, q_l58, q_l59, q_l60, q_l61, q_l66, q_l75, q_l76, q_l94, q_l97, q_l99, q_l100, q_l101, q_l104, q_l105, q_l108, q_l109, q_l111, q_l114, q_l115, q_l116, q_l117, q_l118, q_l119, q_l120, q_l126, q_l132, q_l133, q_l135, q_l136, q_l138, q_l146, q_l147, q_l148, q_l149, q_l150, q_l151, q_l152, q_l153, q_l154, q_l155, q_l156, q_l157, q_l158, q_l214, q_l229, q_l244, q_l259, q_l300, q_l999, q_l1813, q_l2072, q_l10000, q_l65536, q_l1000000000, m_done, m_fails, m_thrown, m_th, gs_same, q_gsgs, c_raise0, c_raise1, c_raise2, c_raise3, c_raise4, h, c_found, s_id hc h75 hj, Nat.zero_add, e]
/-- a container's weight and key, by its number -/
def fndR (r : Nat → Int32) (v : Int32) : tC := ((tAll r).find? (fun t => t.1 == v)).getD (0, 0, 0, 0, 0)
theorem fndR_eq {o : Nat} (g : gSim M o r) {t : tC} (ht : t ∈ tAll r) : fndR r t.1 = t := by
  unfold fndR
  cases h : (tAll r).find? (fun z => z.1 == t.1) with
  | none => exact absurd (List.find?_eq_none.mp h t ht) (by simp)
  | some z =>
    have h1 := List.mem_of_find?_eq_some h
    have h2 := List.find?_some h
    exact all_uniq g h1 ht (eq_of_beq h2)
theorem e_weightOf (g : gSim M 0 r) (w : gRow β r) {t : tC} (ht0 : t ∈ tAll r) : f_X6_weightOf t.1 M = some (.inr (fndR r t.1).2.1, M) ∧ f_X6_keyOf t.1 M = some (.inr (fndR r t.1).2.2.1, M) ∧ ∃ a, f_X6_answerOf t.1 M = some (.inr a, M) := by
  rw [fndR_eq g ht0]
  obtain ⟨c, hc, h75, hP, hp, h⟩ := idCases g w t.1
  have hy := w.y.2
  rcases h with ⟨q, j, hq, hf, hj, ht, hv, h1, h2, h3, h4⟩ | ⟨l, j, hl, hj, ht, hv, h1, h2, h3, h4⟩ | ⟨h1, h2, h3, hn, h4⟩
  · have et : t = tCell r q := all_uniq g ht0 (cell_mem hq hf) hv.symm
    obtain ⟨-, ⟨u, u1, u2, u3⟩, ⟨k, k1, k2⟩⟩ := w.t (cell_mem hq hf)
    have ew : M (0 + 3) j = nI u := (congrArg (fun t => t.2.1) ht).trans u1
    have ek : M (0 + 4) j = nI k := (congrArg (fun t => t.2.2.1) ht).trans k1
    have e1 : M 3 j = t.2.1 := by rw [et]; exact congrArg (fun t => t.2.1) ht
    have e2 : M 4 j = t.2.2.1 := by rw [et]; exact congrArg (fun t => t.2.2.1) ht
    refine ⟨?_, ?_, nI ((k * 7 + u) % 10), ?_⟩
    · unfold f_X6_weightOf; simp (disch := omega) only [q_seqr, q_seql, q_ig, q_ni, q_le, q_nle, q_lt, q_nlt, q_eq, q_ne, q_eqr, q_gbt, q_gbf, q_gbd, q_m1lt, q_m1ge, q_m1ne, q_m1eq, q_m1e, Option.bind_some, gLet, nI_add, pk_mul, q_sub, q_m1, q_div, q_modN, nI_clamp, if_true, if_false, Bool.false_eq_true, q_l0, q_l1, q_l2, q_l3, q_l4, q_l5, q_l6, q_l7, q_l8, q_l9, q_l10, q_l11, q_l12, q_l13, q_l14, q_l15, q_l16, q_l19, q_l20, q_l22, q_l24, q_l30, q_l32, q_l34, q_l36, q_l45, q_l47, q_l48, q_l57, q_l58, q_l59, q_l60, q_l61, q_l66, q_l75, q_l76, q_l94, q_l97, q_l99, q_l100, q_l101, q_l104, q_l105, q_l108, q_l109, q_l111, q_l114, q_l115, q_l116, q_l117, q_l118, q_l119, q_l120, q_l126, q_l132, q_l133, q_l135, q_l136, q_l138, q_l146, q_l147, q_l148, q_l149, q_l150, q_l151, q_l152, q_l153, q_l154, q_l155, q_l156, q_l157, q_l158, q_l214, q_l229, q_l244, q_l259, q_l300, q_l999, q_l1813, q_l2072, q_l10000, q_l65536, q_l1000000000, m_done, m_fails, m_thrown, m_th, gs_same, q_gsgs, c_raise0, c_raise1, c_raise2, c_raise3, c_raise4, h1, c_found, s_weight hc h75 hj, Nat.zero_add, e1]
    · unfold f_X6_keyOf; simp (disch := omega) only [q_seqr, q_seql, q_ig, q_ni, q_le, q_nle, q_lt, q_nlt, q_eq, q_ne, q_eqr, q_gbt, q_gbf, q_gbd, q_m1lt, q_m1ge, q_m1ne, q_m1eq, q_m1e, Option.bind_some, gLet, nI_add, pk_mul, q_sub, q_m1, q_div, q_modN, nI_clamp, if_true, if_false, Bool.false_eq_true, q_l0, q_l1, q_l2, q_l3, q_l4, q_l5, q_l6, q_l7, q_l8, q_l9, q_l10, q_l11, q_l12, q_l13, q_l14, q_l15, q_l16, q_l19, q_l20, q_l22, q_l24, q_l30, q_l32, q_l34, q_l36, q_l45, q_l47, q_l48, q_l57, q_l58, q_l59, q_l60, q_l61, q_l66, q_l75, q_l76, q_l94, q_l97, q_l99, q_l100, q_l101, q_l104, q_l105, q_l108, q_l109, q_l111, q_l114, q_l115, q_l116, q_l117, q_l118, q_l119, q_l120, q_l126, q_l132, q_l133, q_l135, q_l136, q_l138, q_l146, q_l147, q_l148, q_l149, q_l150, q_l151, q_l152, q_l153, q_l154, q_l155, q_l156, q_l157, q_l158, q_l214, q_l229, q_l244, q_l259, q_l300, q_l999, q_l1813, q_l2072, q_l10000, q_l65536, q_l1000000000, m_done, m_fails, m_thrown, m_th, gs_same, q_gsgs, c_raise0, c_raise1, c_raise2, c_raise3, c_raise4, h1, c_found, s_key hc h75 hj, Nat.zero_add, e2]
    · unfold f_X6_answerOf; simp (disch := omega) only [q_seqr, q_seql, q_ig, q_ni, q_le, q_nle, q_lt, q_nlt, q_eq, q_ne, q_eqr, q_gbt, q_gbf, q_gbd, q_m1lt, q_m1ge, q_m1ne, q_m1eq, q_m1e, Option.bind_some, gLet, nI_add, pk_mul, q_sub, q_m1, q_div, q_modN, nI_clamp, if_true, if_false, Bool.false_eq_true, q_l0, q_l1, q_l2, q_l3, q_l4, q_l5, q_l6, q_l7, q_l8, q_l9, q_l10, q_l11, q_l12, q_l13, q_l14, q_l15, q_l16, q_l19, q_l20, q_l22, q_l24, q_l30, q_l32, q_l34, q_l36, q_l45, q_l47, q_l48, q_l57, q_l58, q_l59, q_l60, q_l61, q_l66, q_l75, q_l76, q_l94, q_l97, q_l99, q_l100, q_l101, q_l104, q_l105, q_l108, q_l109, q_l111, q_l114, q_l115, q_l116, q_l117, q_l118, q_l119, q_l120, q_l126, q_l132, q_l133, q_l135, q_l136, q_l138, q_l146, q_l147, q_l148, q_l149, q_l150, q_l151, q_l152, q_l153, q_l154, q_l155, q_l156, q_l157, q_l158, q_l214, q_l229, q_l244, q_l259, q_l300, q_l999, q_l1813, q_l2072, q_l10000, q_l65536, q_l1000000000, m_done, m_fails, m_thrown, m_th, gs_same, q_gsgs, c_raise0, c_raise1, c_raise2, c_raise3, c_raise4, h1, c_found, c_answer hc h75 hj ek k2 ew u3]
  · have et : t = tYd r l := all_uniq g ht0 (yd_mem hl) hv.symm
    obtain ⟨-, ⟨u, u1, u2, u3⟩, ⟨k, k1, k2⟩⟩ := w.t (yd_mem hl)
    have ew : M (0 + 3) j = nI u := (congrArg (fun t => t.2.1) ht).trans u1
    have ek : M (0 + 4) j = nI k := (congrArg (fun t => t.2.2.1) ht).trans k1
    have e1 : M 3 j = t.2.1 := by rw [et]; exact congrArg (fun t => t.2.1) ht
    have e2 : M 4 j = t.2.2.1 := by rw [et]; exact congrArg (fun t => t.2.2.1) ht
    refine ⟨?_, ?_, nI ((k * 7 + u) % 10), ?_⟩
    · unfold f_X6_weightOf; simp (disch := omega) only [q_seqr, q_seql, q_ig, q_ni, q_le, q_nle, q_lt, q_nlt, q_eq, q_ne, q_eqr, q_gbt, q_gbf, q_gbd, q_m1lt, q_m1ge, q_m1ne, q_m1eq, q_m1e, Option.bind_some, gLet, nI_add, pk_mul, q_sub, q_m1, q_div, q_modN, nI_clamp, if_true, if_false, Bool.false_eq_true, q_l0, q_l1, q_l2, q_l3, q_l4, q_l5, q_l6, q_l7, q_l8, q_l9, q_l10, q_l11, q_l12, q_l13, q_l14, q_l15, q_l16, q_l19, q_l20, q_l22, q_l24, q_l30, q_l32, q_l34, q_l36, q_l45, q_l47, q_l48, q_l57, q_l58, q_l59, q_l60, q_l61, q_l66, q_l75, q_l76, q_l94, q_l97, q_l99, q_l100, q_l101, q_l104, q_l105, q_l108, q_l109, q_l111, q_l114, q_l115, q_l116, q_l117, q_l118, q_l119, q_l120, q_l126, q_l132, q_l133, q_l135, q_l136, q_l138, q_l146, q_l147, q_l148, q_l149, q_l150, q_l151, q_l152, q_l153, q_l154, q_l155, q_l156, q_l157, q_l158, q_l214, q_l229, q_l244, q_l259, q_l300, q_l999, q_l1813, q_l2072, q_l10000, q_l65536, q_l1000000000, m_done, m_fails, m_thrown, m_th, gs_same, q_gsgs, c_raise0, c_raise1, c_raise2, c_raise3, c_raise4, h1, c_found, s_weight hc h75 hj, Nat.zero_add, e1]
    · unfold f_X6_keyOf; simp (disch := omega) only [q_seqr, q_seql, q_ig, q_ni, q_le, q_nle, q_lt, q_nlt, q_eq, q_ne, q_eqr, q_gbt, q_gbf, q_gbd, q_m1lt, q_m1ge, q_m1ne, q_m1eq, q_m1e, Option.bind_some, gLet, nI_add, pk_mul, q_sub, q_m1, q_div, q_modN, nI_clamp, if_true, if_false, Bool.false_eq_true, q_l0, q_l1, q_l2, q_l3, q_l4, q_l5, q_l6, q_l7, q_l8, q_l9, q_l10, q_l11, q_l12, q_l13, q_l14, q_l15, q_l16, q_l19, q_l20, q_l22, q_l24, q_l30, q_l32, q_l34, q_l36, q_l45, q_l47, q_l48, q_l57, q_l58, q_l59, q_l60, q_l61, q_l66, q_l75, q_l76, q_l94, q_l97, q_l99, q_l100, q_l101, q_l104, q_l105, q_l108, q_l109, q_l111, q_l114, q_l115, q_l116, q_l117, q_l118, q_l119, q_l120, q_l126, q_l132, q_l133, q_l135, q_l136, q_l138, q_l146, q_l147, q_l148, q_l149, q_l150, q_l151, q_l152, q_l153, q_l154, q_l155, q_l156, q_l157, q_l158, q_l214, q_l229, q_l244, q_l259, q_l300, q_l999, q_l1813, q_l2072, q_l10000, q_l65536, q_l1000000000, m_done, m_fails, m_thrown, m_th, gs_same, q_gsgs, c_raise0, c_raise1, c_raise2, c_raise3, c_raise4, h1, c_found, s_key hc h75 hj, Nat.zero_add, e2]
    · unfold f_X6_answerOf; simp (disch := omega) only [q_seqr, q_seql, q_ig, q_ni, q_le, q_nle, q_lt, q_nlt, q_eq, q_ne, q_eqr, q_gbt, q_gbf, q_gbd, q_m1lt, q_m1ge, q_m1ne, q_m1eq, q_m1e, Option.bind_some, gLet, nI_add, pk_mul, q_sub, q_m1, q_div, q_modN, nI_clamp, if_true, if_false, Bool.false_eq_true, q_l0, q_l1, q_l2, q_l3, q_l4, q_l5, q_l6, q_l7, q_l8, q_l9, q_l10, q_l11, q_l12, q_l13, q_l14, q_l15, q_l16, q_l19, q_l20, q_l22, q_l24, q_l30, q_l32, q_l34, q_l36, q_l45, q_l47, q_l48, q_l57, q_l58, q_l59, q_l60, q_l61, q_l66, q_l75, q_l76, q_l94, q_l97, q_l99, q_l100, q_l101, q_l104, q_l105, q_l108, q_l109, q_l111, q_l114, q_l115, q_l116, q_l117, q_l118, q_l119, q_l120, q_l126, q_l132, q_l133, q_l135, q_l136, q_l138, q_l146, q_l147, q_l148, q_l149, q_l150, q_l151, q_l152, q_l153, q_l154, q_l155, q_l156, q_l157, q_l158, q_l214, q_l229, q_l244, q_l259, q_l300, q_l999, q_l1813, q_l2072, q_l10000, q_l65536, q_l1000000000, m_done, m_fails, m_thrown, m_th, gs_same, q_gsgs, c_raise0, c_raise1, c_raise2, c_raise3, c_raise4, h1, c_found, c_answer hc h75 hj ek k2 ew u3]
  · exact absurd rfl (hn t ht0)
end CQ
/-! changes: the class's history, what is saved -/
def cH (β : Nat) (M : gM) (L : List (Nat → Int32)) : Prop := ∃ n x, n ≤ 8 ∧ x < 8 ∧ L.length ≤ n ∧ M 133 2 = nI n ∧ M 133 1 = nI x ∧ ∀ i q, L[i]? = some q → gSim M (36 + 12 * ((x + 7 - i) % 8)) q ∧ gRow β q
def cS (β : Nat) (M : gM) (q : Nat → Int32) : Prop := M 132 3 = nI 1 ∧ gSim M 24 q ∧ gRow β q
theorem cH.up {β β' : Nat} {M : gM} {L : List (Nat → Int32)} (t : cH β M L) (h : β ≤ β') : cH β' M L := by
  obtain ⟨n, x, h1, h2, h3, h4, h5, h6⟩ := t
  exact ⟨n, x, h1, h2, h3, h4, h5, fun i q hq => ⟨(h6 i q hq).1, (h6 i q hq).2.up h⟩⟩
theorem cH.frm {β : Nat} {M M1 : gM} {L : List (Nat → Int32)} (t : cH β M L) (f : ∀ a, 36 ≤ a → a < 134 → a ≠ 132 → M1 a = M a) : cH β M1 L := by
  obtain ⟨n, x, h1, h2, h3, h4, h5, h6⟩ := t
  exact ⟨n, x, h1, h2, h3, by rw [f 133 (by omega) (by omega) (by omega)]; exact h4, by rw [f 133 (by omega) (by omega) (by omega)]; exact h5, fun i q hq => ⟨(h6 i q hq).1.frm (fun a k1 k2 k3 => f a (by omega) (by omega) (by omega)), (h6 i q hq).2⟩⟩
theorem cH.nil {β : Nat} {M : gM} {L : List (Nat → Int32)} (t : cH β M L) : cH β M [] := by
  obtain ⟨n, x, h1, h2, h3, h4, h5, h6⟩ := t
  exact ⟨n, x, h1, h2, Nat.zero_le _, h4, h5, fun i q hq => by cases hq⟩
theorem cS.up {β β' : Nat} {M : gM} {q : Nat → Int32} (t : cS β M q) (h : β ≤ β') : cS β' M q := ⟨t.1, t.2.1, t.2.2.up h⟩
theorem cS.frm {β : Nat} {M M1 : gM} {q : Nat → Int32} (t : cS β M q) (f : ∀ a, 24 ≤ a → a < 36 → M1 a = M a) (f2 : M1 132 3 = M 132 3) : cS β M1 q := ⟨by rw [f2]; exact t.1, t.2.1.frm (fun a k1 k2 k3 => f a (by omega) (by omega)), t.2.2⟩
/-- a push -/
theorem u_push {β : Nat} {M : gM} {r : Nat → Int32} {L : List (Nat → Int32)} (g : gSim M 0 r) (w : gRow β r) (h : cH β M L) (h7 : L.length ≤ 7) : ∃ Mp, f_X1_push 0 M = some Mp ∧ gSim Mp 0 r ∧ cH β Mp (r :: L) ∧ (∀ a, a < 36 → Mp a = M a) ∧ ∀ a, 132 ≤ a → a ≠ 133 → Mp a = M a := by
  obtain ⟨n, x, hn8, hx8, hL, hn, hx, hh⟩ := h
  obtain ⟨Mp, hMp⟩ : ∃ Mp, Mp = gs (gs (cpM M (36 + 12 * x) 0) 133 1 (nI ((x + 1) % 8))) 133 2 (nI (min (n + 1) 8)) := ⟨_, rfl⟩
  have ep := c_push (s := 0) hn hx hn8 hx8 (by omega)
  rw [← hMp] at ep
  have po : ∀ a, (a < 36 + 12 * x ∨ 36 + 12 * x + 12 ≤ a) → a ≠ 133 → Mp a = M a := fun a h1 h2 => by rw [hMp]; exact push_o h1 h2
  have ps : gSim Mp (36 + 12 * x) r := by rw [hMp]; exact push_sim (by omega) hx8 g
  refine ⟨Mp, ep, g.frm (fun a h1 h2 h3 => po a (by omega) (by omega)), ⟨min (n + 1) 8, (x + 1) % 8, by omega, by omega, by rw [List.length_cons]; omega, by rw [hMp, q_gss rfl], by rw [hMp, q_gsk (by omega), q_gss rfl], fun i q hq => ?_⟩, fun a h1 => po a (by omega) (by omega), fun a h1 h2 => po a (by omega) h2⟩
  cases i with
  | zero =>
    cases hq
    rw [show ((x + 1) % 8 + 7 - 0) % 8 = x by omega]
    exact ⟨ps, w⟩
  | succ i =>
    have hi := (List.getElem?_eq_some_iff.mp hq).1
    rw [List.length_cons] at hi
    obtain ⟨a, b⟩ := hh i q hq
    rw [show ((x + 1) % 8 + 7 - (i + 1)) % 8 = (x + 7 - i) % 8 by omega]
    exact ⟨a.frm (fun c k1 k2 k3 => po c (by omega) (by omega)), b⟩
/-- a change -/
theorem u_call {β : Nat} {M : gM} {r : Nat → Int32} {L : List (Nat → Int32)} {cf : Nat → gM → Option Int32} {cd : Nat → gM → Option (Int32 × gM)} {cr : Nat → gM → Option gM} {m : gM → Option (Int32 × gM)} {code : Nat → Nat} {codes : List String} {F : gM → Option ((String ⊕ Int32) × gM)}
    (g : gSim M 0 r) (w : gRow β r) (h : cH β M L) (h7 : L.length ≤ 7) (c : gCmd β r cf cd cr m code codes)
    (hF : F M = (cf 0 M).bind fun r1 => gSeq (f_X6_raise r1 M) fun _ M5 => (f_X1_push 0 M5).bind fun r6 => (cd 0 r6).bind fun p => some (.inr p.1, p.2)) :
    (∃ e, F M = some (.inl e, M) ∧ e ∈ codes) ∨ ∃ r' v M1, F M = some (.inr v, M1) ∧ gSim M1 0 r' ∧ gRow (β + 1) r' ∧ cH (β + 1) M1 (r :: L) ∧ (∀ a, 24 ≤ a → a < 36 → M1 a = M a) ∧ ∀ a, 132 ≤ a → a ≠ 133 → M1 a = M a := by
  rcases c with ⟨f, h0, ⟨hok, hpos, hf4⟩, hcf, hm⟩ | ⟨r', v, w', hc, hm⟩
  · refine Or.inl ⟨eN f, ?_, List.mem_of_getElem? hok⟩
    rw [hF, hcf M 0 g, Option.bind_some, c_raiseE M h0 hf4]
    rfl
  · obtain ⟨Mp, ep, p0, ph, p1, p2⟩ := u_push g w h h7
    obtain ⟨hcf0, -⟩ := hc M 0 g
    obtain ⟨-, Mc, hcd, -, fr, gc⟩ := hc Mp 0 p0
    refine Or.inr ⟨r', v, Mc, ?_, gc, w', (ph.up (by omega)).frm (fun a k1 k2 k3 => fr a (by omega)), fun a k1 k2 => by rw [fr a (by omega), p1 a (by omega)], fun a k1 k2 => by rw [fr a (by omega), p2 a k1 k2]⟩
    rw [hF, hcf0, Option.bind_some, show f_X6_raise (nI 0) M = some (.inr (), M) from c_raise0 M]
    show ((f_X1_push 0 M).bind fun r6 => (cd 0 r6).bind fun p => (some (Sum.inr p.1, p.2) : Option ((String ⊕ Int32) × gM))) = _
    rw [ep, Option.bind_some, hcd, Option.bind_some]
theorem u_undo {β : Nat} {M : gM} {q : Nat → Int32} {L : List (Nat → Int32)} (h : cH β M (q :: L)) : ∃ v M1, f_X6_undo M = some (.inr (nI v), M1) ∧ v < 8 ∧ gSim M1 0 q ∧ gRow β q ∧ cH β M1 L ∧ ∀ a, 12 ≤ a → a ≠ 133 → M1 a = M a := by
    obtain ⟨n, y, hn8, hx8, hL, hn, hx, hh⟩ := h
    rw [List.length_cons] at hL
    obtain ⟨i, hi⟩ : ∃ i, n = i + 1 := ⟨n - 1, by omega⟩
    subst hi
    obtain ⟨ga, wa⟩ := hh 0 q rfl
    obtain ⟨y', hy'⟩ : ∃ y', y' = (y + 8 - 1) % 8 := ⟨_, rfl⟩
    have hy8 : y' < 8 := by omega
    rw [show (y + 7 - 0) % 8 = y' by omega] at ga
    obtain ⟨M1, hM1⟩ : ∃ M1, M1 = gs (gs (cpM M 0 (36 + 12 * y')) 133 1 (nI y')) 133 2 (nI i) := ⟨_, rfl⟩
    have e2 : gs (cpM M 0 (36 + 12 * y')) 133 1 (nI y') 133 2 = nI (i + 1) := by rw [q_gsk (by omega), cpM_fr (by omega)]; exact hn
    have hm : y + 8 - 1 - (y + 8 - 1) / 8 * 8 = y' := by rw [q_modN]; exact hy'.symm
    have hf : f_X6_undo M = some (.inr (nI i), M1) := by
      have e3 : M1 133 2 = nI i := by rw [hM1]; exact q_gss rfl
      have hp : f_X1_popInto 0 M = some M1 := by
        unfold f_X1_popInto
        simp (disch := omega) only [↓reduceIte, eq_self, Bool.true_eq_false, Bool.false_eq_true, q_seqr, q_seql, v_ig, v_ni, v_le, v_nle, v_lt, v_nlt, v_eq, v_ne, v_gbt, v_gbf, v_gbd, v_m1lt, v_m1ge, v_m1ne, v_m1e, ↓q_bindD, ↓q_gLet, Option.isSome_some, Option.getD_some, nI_add, pk_mul, q_sub, q_m1, q_div, q_modN, nI_clamp, if_true, if_false, q_l0, q_l1, q_l2, q_l3, q_l4, q_l5, q_l6, q_l7, q_l8, q_l9, q_l10, q_l11, q_l12, q_l13, q_l14, q_l15, q_l16, q_l19, q_l20, q_l22, q_l24, q_l30, q_l32, q_l34, q_l36, q_l45, q_l47, q_l48, q_l57, q_l58, q_l59, q_l60, q_l61, q_l66, q_l75, q_l76, q_l94, q_l97, q_l99, q_l100, q_l101, q_l104, q_l105, q_l108, q_l109, q_l111, q_l114, q_l115, q_l116, q_l117, q_l118, q_l119, q_l120, q_l126, q_l132, q_l133, q_l135, q_l136, q_l138, q_l146, q_l147, q_l148, q_l149, q_l150, q_l151, q_l152, q_l153, q_l154, q_l155, q_l156, q_l157, q_l158, q_l214, q_l229, q_l244, q_l259, q_l300, q_l999, q_l1813, q_l2072, q_l10000, q_l65536, q_l1000000000, hx, hm, c_copyFrom, e2, Nat.add_sub_cancel]
        rw [← hM1]
      unfold f_X6_undo
      simp (disch := omega) only [↓reduceIte, eq_self, Bool.true_eq_false, Bool.false_eq_true, q_seqr, q_seql, v_ig, v_ni, v_le, v_nle, v_lt, v_nlt, v_eq, v_ne, v_gbt, v_gbf, v_gbd, v_m1lt, v_m1ge, v_m1ne, v_m1e, ↓q_bindD, ↓q_gLet, Option.isSome_some, Option.getD_some, nI_add, pk_mul, q_sub, q_m1, q_div, q_modN, nI_clamp, if_true, if_false, q_l0, q_l1, q_l2, q_l3, q_l4, q_l5, q_l6, q_l7, q_l8, q_l9, q_l10, q_l11, q_l12, q_l13, q_l14, q_l15, q_l16, q_l19, q_l20, q_l22, q_l24, q_l30, q_l32, q_l34, q_l36, q_l45, q_l47, q_l48, q_l57, q_l58, q_l59, q_l60, q_l61, q_l66, q_l75, q_l76, q_l94, q_l97, q_l99, q_l100, q_l101, q_l104, q_l105, q_l108, q_l109, q_l111, q_l114, q_l115, q_l116, q_l117, q_l118, q_l119, q_l120, q_l126, q_l132, q_l133, q_l135, q_l136, q_l138, q_l146, q_l147, q_l148, q_l149, q_l150, q_l151, q_l152, q_l153, q_l154, q_l155, q_l156, q_l157, q_l158, q_l214, q_l229, q_l244, q_l259, q_l300, q_l999, q_l1813, q_l2072, q_l10000, q_l65536, q_l1000000000, hn, hp, e3]
    have o1 : ∀ a, 12 ≤ a → a ≠ 133 → M1 a = M a := fun a h1 h2 => by rw [hM1, q_gsn h2, q_gsn h2, cpM_fr (by omega)]
    refine ⟨i, M1, hf, by omega, ?_, wa, ⟨i, y', by omega, hy8, by omega, by rw [hM1]; exact q_gss rfl, by rw [hM1, q_gsk (by omega), q_gss rfl], fun j z hz => ?_⟩, o1⟩
    · exact (cpM_sim (d := 0) (Or.inl (by omega)) ga).frm (fun a h1 h2 h3 => by rw [hM1, q_gsn (by omega), q_gsn (by omega)])
    · obtain ⟨a, b⟩ := hh (j + 1) z hz
      have hj := (List.getElem?_eq_some_iff.mp hz).1
      rw [show (y' + 7 - j) % 8 = (y + 7 - (j + 1)) % 8 by omega]
      exact ⟨a.frm (fun c h1 h2 h3 => o1 c (by omega) (by omega)), b⟩
theorem u_save {β : Nat} {M : gM} {r : Nat → Int32} {L : List (Nat → Int32)} (g : gSim M 0 r) (w : gRow β r) (h : cH β M L) : ∃ M1, f_X6_save M = some (r 7 + r 8 + r 9, M1) ∧ gSim M1 0 r ∧ cH β M1 L ∧ cS β M1 r ∧ ∀ a, 134 ≤ a → M1 a = M a := by
  obtain ⟨M1, hM1⟩ : ∃ M1, M1 = gs (cpM M 24 0) 132 3 (nI 1) := ⟨_, rfl⟩
  have o1 : ∀ a, (a < 24 ∨ 36 ≤ a) → a ≠ 132 → M1 a = M a := fun a h1 h2 => by rw [hM1, q_gsn h2, cpM_fr (by omega)]
  have g0 : gSim M1 0 r := g.frm (fun a h1 h2 h3 => o1 a (by omega) (by omega))
  have g24 : gSim M1 24 r := (cpM_sim (d := 24) (Or.inr (by omega)) g).frm (fun a h1 h2 h3 => by rw [hM1, q_gsn (by omega)])
  have hf : f_X6_save M = some (r 7 + r 8 + r 9, M1) := by
    have := c_ships g0 w
    rw [hM1] at this
    unfold f_X6_save
    simp (disch := omega) only [↓reduceIte, eq_self, Bool.true_eq_false, Bool.false_eq_true, q_seqr, q_seql, v_ig, v_ni, v_le, v_nle, v_lt, v_nlt, v_eq, v_ne, v_gbt, v_gbf, v_gbd, v_m1lt, v_m1ge, v_m1ne, v_m1e, ↓q_bindD, ↓q_gLet, Option.isSome_some, Option.getD_some, nI_add, pk_mul, q_sub, q_m1, q_div, q_modN, nI_clamp, if_true, if_false, q_l0, q_l1, q_l2, q_l3, q_l4, q_l5, q_l6, q_l7, q_l8, q_l9, q_l10, q_l11, q_l12, q_l13, q_l14, q_l15, q_l16, q_l19, q_l20, q_l22, q_l24, q_l30, q_l32, q_l34, q_l36, q_l45, q_l47, q_l48, q_l57, q_l58, q_l59, q_l60, q_l61, q_l66, q_l75, q_l76, q_l94, q_l97, q_l99, q_l100, q_l101, q_l104, q_l105, q_l108, q_l109, q_l111, q_l114, q_l115, q_l116, q_l117, q_l118, q_l119, q_l120, q_l126, q_l132, q_l133, q_l135, q_l136, q_l138, q_l146, q_l147, q_l148, q_l149, q_l150, q_l151, q_l152, q_l153, q_l154, q_l155, q_l156, q_l157, q_l158, q_l214, q_l229, q_l244, q_l259, q_l300, q_l999, q_l1813, q_l2072, q_l10000, q_l65536, q_l1000000000, c_copyFrom, this]
    rw [← hM1]
  exact ⟨M1, hf, g0, h.frm (fun a k1 k2 k3 => o1 a (by omega) k3), ⟨by rw [hM1]; exact q_gss rfl, g24, w⟩, fun a k1 => o1 a (by omega) (by omega)⟩
theorem u_restore {β : Nat} {M : gM} {q : Nat → Int32} (s : cS β M q) : ∃ M1, f_X6_restore M = some (.inr (q 7 + q 8 + q 9), M1) ∧ gSim M1 0 q := by
  obtain ⟨s1, s3, s4⟩ := s
  obtain ⟨M1, hM1⟩ : ∃ M1, M1 = gs (cpM M 0 24) 133 2 (nI 0) := ⟨_, rfl⟩
  have g0 : gSim M1 0 q := (cpM_sim (d := 0) (Or.inl (by omega)) s3).frm (fun a h1 h2 h3 => by rw [hM1, q_gsn (by omega)])
  have hf : f_X6_restore M = some (.inr (q 7 + q 8 + q 9), M1) := by
    have := c_ships g0 s4
    rw [hM1] at this
    unfold f_X6_restore
    simp (disch := omega) only [↓reduceIte, eq_self, Bool.true_eq_false, Bool.false_eq_true, q_seqr, q_seql, v_ig, v_ni, v_le, v_nle, v_lt, v_nlt, v_eq, v_ne, v_gbt, v_gbf, v_gbd, v_m1lt, v_m1ge, v_m1ne, v_m1e, ↓q_bindD, ↓q_gLet, Option.isSome_some, Option.getD_some, nI_add, pk_mul, q_sub, q_m1, q_div, q_modN, nI_clamp, if_true, if_false, q_l0, q_l1, q_l2, q_l3, q_l4, q_l5, q_l6, q_l7, q_l8, q_l9, q_l10, q_l11, q_l12, q_l13, q_l14, q_l15, q_l16, q_l19, q_l20, q_l22, q_l24, q_l30, q_l32, q_l34, q_l36, q_l45, q_l47, q_l48, q_l57, q_l58, q_l59, q_l60, q_l61, q_l66, q_l75, q_l76, q_l94, q_l97, q_l99, q_l100, q_l101, q_l104, q_l105, q_l108, q_l109, q_l111, q_l114, q_l115, q_l116, q_l117, q_l118, q_l119, q_l120, q_l126, q_l132, q_l133, q_l135, q_l136, q_l138, q_l146, q_l147, q_l148, q_l149, q_l150, q_l151, q_l152, q_l153, q_l154, q_l155, q_l156, q_l157, q_l158, q_l214, q_l229, q_l244, q_l259, q_l300, q_l999, q_l1813, q_l2072, q_l10000, q_l65536, q_l1000000000, s1, c_copyFrom, this]
    rw [← hM1]
  exact ⟨M1, hf, g0⟩
