/-! The commands carried out, on both sides. -/
theorem q_eb {α : Type} (y : Option α) : (y.bind fun r => some r) = y := by cases y <;> rfl
def gXec (k : Nat) (vs : List Nat) : Prop := ∃ (cf : Nat → gM → Option Int32) (cd : Nat → gM → Option (Int32 × gM)) (cr : Nat → gM → Option gM) (m : gM → Option (Int32 × gM)) (code : Nat → Nat) (codes : List String), (∀ f, f ≤ 4 → code f < 100) ∧
  (∀ r β, gRow β r → β ≤ 590 → gCmd β r cf cd cr m code codes) ∧
  (∀ (M : gM) i, i < 8 → M 136 i = nI (kd k) → (∀ j c, vs[j]? = some c → M 137 (i * 4 + j) = nI c) → f_X4_faultOf 12 (nI i) M = cf 12 M ∧ f_X4_carryOut 12 (nI i) M = cr 12 M) ∧
  (∀ (M : gM) q, q ≤ 200 → M 158 q = nI k → (∀ j c, vs[j]? = some c → M 158 (q + 1 + j) = nI c) → f_X7_carriesOut (nI q) M = m M)
theorem x_1 {vs : List Nat} (h : vs.length = 1) : ∃ a, vs = [a] := by
  match vs, h with
  | [a], _ => exact ⟨a, rfl⟩
theorem x_3 {vs : List Nat} (h : vs.length = 3) : ∃ a b c, vs = [a, b, c] := by
  match vs, h with
  | [a, b, c], _ => exact ⟨a, b, c, rfl⟩
theorem x_4 {vs : List Nat} (h : vs.length = 4) : ∃ a b c d, vs = [a, b, c, d] := by
  match vs, h with
  | [a, b, c, d], _ => exact ⟨a, b, c, d, rfl⟩
theorem exec1 {k : Nat} {vs : List Nat} (hk : isK k) (hv : vs.length = itN (its k)) : gXec k vs := by
  rcases hk with rfl | rfl | rfl | rfl | rfl | rfl | rfl
  · obtain ⟨a, b, c, rfl⟩ := x_3 hv
    refine ⟨_, _, _, _, fun f => f, _, fun f hf => (show f < 100 by omega), fun r β w hβ => T_clear w hβ (nI a) (nI b) (nI c), fun M i hi h6 h => ?_, fun M q hq hl h => ?_⟩
    · have h0 := h 0 a rfl
      have h1 := h 1 b rfl
      have h2 := h 2 c rfl
      rw [show kd 99 = 3 from rfl] at h6
      have g0 := c_given hi (show 0 < 4 by omega) M
      have g1 := c_given hi (show 1 < 4 by omega) M
      have g2 := c_given hi (show 2 < 4 by omega) M
      have g3 := c_given hi (show 3 < 4 by omega) M
      have gk := c_kind hi M
      refine ⟨?_, ?_⟩
      · unfold f_X4_faultOf
        simp (disch := omega) only [↓reduceIte, eq_self, Bool.true_eq_false, Bool.false_eq_true, q_seqr, q_seql, v_ig, v_ni, v_le, v_nle, v_lt, v_nlt, v_eq, v_ne, v_gbt, v_gbf, v_gbd, v_m1lt, v_m1ge, v_m1ne, v_m1e, ↓q_gLet, Option.isSome_some, Option.getD_some, nI_add, pk_mul, q_sub, q_m1, q_div, q_modN, nI_clamp, if_true, if_false, q_l0, q_l1, q_l2, q_l3, q_l4, q_l5, q_l6, q_l7, q_l8, q_l9, q_l10, q_l11, q_l12, q_l13, q_l14, q_l15, q_l16, q_l19, q_l20, q_l22, q_l24, q_l30, q_l32, q_l34, q_l36, q_l45, q_l47, q_l48, q_l57, q_l58, q_l59, q_l60, q_l61, q_l66, q_l75, q_l76, q_l94, q_l97, q_l99, q_l100, q_l101, q_l104, q_l105, q_l108, q_l109, q_l111, q_l114, q_l115, q_l116, q_l117, q_l118, q_l119, q_l120, q_l126, q_l132, q_l133, q_l135, q_l136, q_l138, q_l146, q_l147, q_l148, q_l149, q_l150, q_l151, q_l152, q_l153, q_l154, q_l155, q_l156, q_l157, q_l158, q_l214, q_l229, q_l244, q_l259, q_l300, q_l999, q_l1813, q_l2072, q_l10000, q_l65536, q_l1000000000, q_eb, q_eta, Option.bind_some, g0, g1, g2, g3, gk, h6, h0, h1, h2]
      · unfold f_X4_carryOut
        simp (disch := omega) only [↓reduceIte, eq_self, Bool.true_eq_false, Bool.false_eq_true, q_seqr, q_seql, v_ig, v_ni, v_le, v_nle, v_lt, v_nlt, v_eq, v_ne, v_gbt, v_gbf, v_gbd, v_m1lt, v_m1ge, v_m1ne, v_m1e, ↓q_gLet, Option.isSome_some, Option.getD_some, nI_add, pk_mul, q_sub, q_m1, q_div, q_modN, nI_clamp, if_true, if_false, q_l0, q_l1, q_l2, q_l3, q_l4, q_l5, q_l6, q_l7, q_l8, q_l9, q_l10, q_l11, q_l12, q_l13, q_l14, q_l15, q_l16, q_l19, q_l20, q_l22, q_l24, q_l30, q_l32, q_l34, q_l36, q_l45, q_l47, q_l48, q_l57, q_l58, q_l59, q_l60, q_l61, q_l66, q_l75, q_l76, q_l94, q_l97, q_l99, q_l100, q_l101, q_l104, q_l105, q_l108, q_l109, q_l111, q_l114, q_l115, q_l116, q_l117, q_l118, q_l119, q_l120, q_l126, q_l132, q_l133, q_l135, q_l136, q_l138, q_l146, q_l147, q_l148, q_l149, q_l150, q_l151, q_l152, q_l153, q_l154, q_l155, q_l156, q_l157, q_l158, q_l214, q_l229, q_l244, q_l259, q_l300, q_l999, q_l1813, q_l2072, q_l10000, q_l65536, q_l1000000000, q_eb, q_eta, Option.bind_some, g0, g1, g2, g3, gk, h6, h0, h1, h2]
    · have h0 := h 0 a rfl
      have h1 := h 1 b rfl
      have h2 := h 2 c rfl
      rw [Nat.add_assoc] at h0 h1 h2
      unfold f_X7_carriesOut
      simp (disch := omega) only [↓reduceIte, eq_self, Bool.true_eq_false, Bool.false_eq_true, q_seqr, q_seql, v_ig, v_ni, v_le, v_nle, v_lt, v_nlt, v_eq, v_ne, v_gbt, v_gbf, v_gbd, v_m1lt, v_m1ge, v_m1ne, v_m1e, ↓q_gLet, Option.isSome_some, Option.getD_some, nI_add, pk_mul, q_sub, q_m1, q_div, q_modN, nI_clamp, if_true, if_false, q_l0, q_l1, q_l2, q_l3, q_l4, q_l5, q_l6, q_l7, q_l8, q_l9, q_l10, q_l11, q_l12, q_l13, q_l14, q_l15, q_l16, q_l19, q_l20, q_l22, q_l24, q_l30, q_l32, q_l34, q_l36, q_l45, q_l47, q_l48, q_l57, q_l58, q_l59, q_l60, q_l61, q_l66, q_l75, q_l76, q_l94, q_l97, q_l99, q_l100, q_l101, q_l104, q_l105, q_l108, q_l109, q_l111, q_l114, q_l115, q_l116, q_l117, q_l118, q_l119, q_l120, q_l126, q_l132, q_l133, q_l135, q_l136, q_l138, q_l146, q_l147, q_l148, q_l149, q_l150, q_l151, q_l152, q_l153, q_l154, q_l155, q_l156, q_l157, q_l158, q_l214, q_l229, q_l244, q_l259, q_l300, q_l999, q_l1813, q_l2072, q_l10000, q_l65536, q_l1000000000, q_eb, q_eta, hl, h0, h1, h2]
  · obtain ⟨a, rfl⟩ := x_1 hv
    refine ⟨_, _, _, _, fun _ => 1, _, fun f hf => (show 1 < 100 by omega), fun r β w hβ => T_deliver w hβ (nI a), fun M i hi h6 h => ?_, fun M q hq hl h => ?_⟩
    · have h0 := h 0 a rfl
      rw [show kd 100 = 5 from rfl] at h6
      have g0 := c_given hi (show 0 < 4 by omega) M
      have g1 := c_given hi (show 1 < 4 by omega) M
      have g2 := c_given hi (show 2 < 4 by omega) M
      have g3 := c_given hi (show 3 < 4 by omega) M
      have gk := c_kind hi M
      refine ⟨?_, ?_⟩
      · unfold f_X4_faultOf
        simp (disch := omega) only [↓reduceIte, eq_self, Bool.true_eq_false, Bool.false_eq_true, q_seqr, q_seql, v_ig, v_ni, v_le, v_nle, v_lt, v_nlt, v_eq, v_ne, v_gbt, v_gbf, v_gbd, v_m1lt, v_m1ge, v_m1ne, v_m1e, ↓q_gLet, Option.isSome_some, Option.getD_some, nI_add, pk_mul, q_sub, q_m1, q_div, q_modN, nI_clamp, if_true, if_false, q_l0, q_l1, q_l2, q_l3, q_l4, q_l5, q_l6, q_l7, q_l8, q_l9, q_l10, q_l11, q_l12, q_l13, q_l14, q_l15, q_l16, q_l19, q_l20, q_l22, q_l24, q_l30, q_l32, q_l34, q_l36, q_l45, q_l47, q_l48, q_l57, q_l58, q_l59, q_l60, q_l61, q_l66, q_l75, q_l76, q_l94, q_l97, q_l99, q_l100, q_l101, q_l104, q_l105, q_l108, q_l109, q_l111, q_l114, q_l115, q_l116, q_l117, q_l118, q_l119, q_l120, q_l126, q_l132, q_l133, q_l135, q_l136, q_l138, q_l146, q_l147, q_l148, q_l149, q_l150, q_l151, q_l152, q_l153, q_l154, q_l155, q_l156, q_l157, q_l158, q_l214, q_l229, q_l244, q_l259, q_l300, q_l999, q_l1813, q_l2072, q_l10000, q_l65536, q_l1000000000, q_eb, q_eta, Option.bind_some, g0, g1, g2, g3, gk, h6, h0]
      · unfold f_X4_carryOut
        simp (disch := omega) only [↓reduceIte, eq_self, Bool.true_eq_false, Bool.false_eq_true, q_seqr, q_seql, v_ig, v_ni, v_le, v_nle, v_lt, v_nlt, v_eq, v_ne, v_gbt, v_gbf, v_gbd, v_m1lt, v_m1ge, v_m1ne, v_m1e, ↓q_gLet, Option.isSome_some, Option.getD_some, nI_add, pk_mul, q_sub, q_m1, q_div, q_modN, nI_clamp, if_true, if_false, q_l0, q_l1, q_l2, q_l3, q_l4, q_l5, q_l6, q_l7, q_l8, q_l9, q_l10, q_l11, q_l12, q_l13, q_l14, q_l15, q_l16, q_l19, q_l20, q_l22, q_l24, q_l30, q_l32, q_l34, q_l36, q_l45, q_l47, q_l48, q_l57, q_l58, q_l59, q_l60, q_l61, q_l66, q_l75, q_l76, q_l94, q_l97, q_l99, q_l100, q_l101, q_l104, q_l105, q_l108, q_l109, q_l111, q_l114, q_l115, q_l116, q_l117, q_l118, q_l119, q_l120, q_l126, q_l132, q_l133, q_l135, q_l136, q_l138, q_l146, q_l147, q_l148, q_l149, q_l150, q_l151, q_l152, q_l153, q_l154, q_l155, q_l156, q_l157, q_l158, q_l214, q_l229, q_l244, q_l259, q_l300, q_l999, q_l1813, q_l2072, q_l10000, q_l65536, q_l1000000000, q_eb, q_eta, Option.bind_some, g0, g1, g2, g3, gk, h6, h0]
    · have h0 := h 0 a rfl
      rw [Nat.add_assoc] at h0
      unfold f_X7_carriesOut
      simp (disch := omega) only [↓reduceIte, eq_self, Bool.true_eq_false, Bool.false_eq_true, q_seqr, q_seql, v_ig, v_ni, v_le, v_nle, v_lt, v_nlt, v_eq, v_ne, v_gbt, v_gbf, v_gbd, v_m1lt, v_m1ge, v_m1ne, v_m1e, ↓q_gLet, Option.isSome_some, Option.getD_some, nI_add, pk_mul, q_sub, q_m1, q_div, q_modN, nI_clamp, if_true, if_false, q_l0, q_l1, q_l2, q_l3, q_l4, q_l5, q_l6, q_l7, q_l8, q_l9, q_l10, q_l11, q_l12, q_l13, q_l14, q_l15, q_l16, q_l19, q_l20, q_l22, q_l24, q_l30, q_l32, q_l34, q_l36, q_l45, q_l47, q_l48, q_l57, q_l58, q_l59, q_l60, q_l61, q_l66, q_l75, q_l76, q_l94, q_l97, q_l99, q_l100, q_l101, q_l104, q_l105, q_l108, q_l109, q_l111, q_l114, q_l115, q_l116, q_l117, q_l118, q_l119, q_l120, q_l126, q_l132, q_l133, q_l135, q_l136, q_l138, q_l146, q_l147, q_l148, q_l149, q_l150, q_l151, q_l152, q_l153, q_l154, q_l155, q_l156, q_l157, q_l158, q_l214, q_l229, q_l244, q_l259, q_l300, q_l999, q_l1813, q_l2072, q_l10000, q_l65536, q_l1000000000, q_eb, q_eta, hl, h0]
  · obtain ⟨a, rfl⟩ := x_1 hv
    refine ⟨_, _, _, _, fun _ => 1, _, fun f hf => (show 1 < 100 by omega), fun r β w hβ => T_pass w hβ (nI a), fun M i hi h6 h => ?_, fun M q hq hl h => ?_⟩
    · have h0 := h 0 a rfl
      rw [show kd 104 = 7 from rfl] at h6
      have g0 := c_given hi (show 0 < 4 by omega) M
      have g1 := c_given hi (show 1 < 4 by omega) M
      have g2 := c_given hi (show 2 < 4 by omega) M
      have g3 := c_given hi (show 3 < 4 by omega) M
      have gk := c_kind hi M
      refine ⟨?_, ?_⟩
      · unfold f_X4_faultOf
        simp (disch := omega) only [↓reduceIte, eq_self, Bool.true_eq_false, Bool.false_eq_true, q_seqr, q_seql, v_ig, v_ni, v_le, v_nle, v_lt, v_nlt, v_eq, v_ne, v_gbt, v_gbf, v_gbd, v_m1lt, v_m1ge, v_m1ne, v_m1e, ↓q_gLet, Option.isSome_some, Option.getD_some, nI_add, pk_mul, q_sub, q_m1, q_div, q_modN, nI_clamp, if_true, if_false, q_l0, q_l1, q_l2, q_l3, q_l4, q_l5, q_l6, q_l7, q_l8, q_l9, q_l10, q_l11, q_l12, q_l13, q_l14, q_l15, q_l16, q_l19, q_l20, q_l22, q_l24, q_l30, q_l32, q_l34, q_l36, q_l45, q_l47, q_l48, q_l57, q_l58, q_l59, q_l60, q_l61, q_l66, q_l75, q_l76, q_l94, q_l97, q_l99, q_l100, q_l101, q_l104, q_l105, q_l108, q_l109, q_l111, q_l114, q_l115, q_l116, q_l117, q_l118, q_l119, q_l120, q_l126, q_l132, q_l133, q_l135, q_l136, q_l138, q_l146, q_l147, q_l148, q_l149, q_l150, q_l151, q_l152, q_l153, q_l154, q_l155, q_l156, q_l157, q_l158, q_l214, q_l229, q_l244, q_l259, q_l300, q_l999, q_l1813, q_l2072, q_l10000, q_l65536, q_l1000000000, q_eb, q_eta, Option.bind_some, g0, g1, g2, g3, gk, h6, h0]
      · unfold f_X4_carryOut
        simp (disch := omega) only [↓reduceIte, eq_self, Bool.true_eq_false, Bool.false_eq_true, q_seqr, q_seql, v_ig, v_ni, v_le, v_nle, v_lt, v_nlt, v_eq, v_ne, v_gbt, v_gbf, v_gbd, v_m1lt, v_m1ge, v_m1ne, v_m1e, ↓q_gLet, Option.isSome_some, Option.getD_some, nI_add, pk_mul, q_sub, q_m1, q_div, q_modN, nI_clamp, if_true, if_false, q_l0, q_l1, q_l2, q_l3, q_l4, q_l5, q_l6, q_l7, q_l8, q_l9, q_l10, q_l11, q_l12, q_l13, q_l14, q_l15, q_l16, q_l19, q_l20, q_l22, q_l24, q_l30, q_l32, q_l34, q_l36, q_l45, q_l47, q_l48, q_l57, q_l58, q_l59, q_l60, q_l61, q_l66, q_l75, q_l76, q_l94, q_l97, q_l99, q_l100, q_l101, q_l104, q_l105, q_l108, q_l109, q_l111, q_l114, q_l115, q_l116, q_l117, q_l118, q_l119, q_l120, q_l126, q_l132, q_l133, q_l135, q_l136, q_l138, q_l146, q_l147, q_l148, q_l149, q_l150, q_l151, q_l152, q_l153, q_l154, q_l155, q_l156, q_l157, q_l158, q_l214, q_l229, q_l244, q_l259, q_l300, q_l999, q_l1813, q_l2072, q_l10000, q_l65536, q_l1000000000, q_eb, q_eta, Option.bind_some, g0, g1, g2, g3, gk, h6, h0]
    · have h0 := h 0 a rfl
      rw [Nat.add_assoc] at h0
      unfold f_X7_carriesOut
      simp (disch := omega) only [↓reduceIte, eq_self, Bool.true_eq_false, Bool.false_eq_true, q_seqr, q_seql, v_ig, v_ni, v_le, v_nle, v_lt, v_nlt, v_eq, v_ne, v_gbt, v_gbf, v_gbd, v_m1lt, v_m1ge, v_m1ne, v_m1e, ↓q_gLet, Option.isSome_some, Option.getD_some, nI_add, pk_mul, q_sub, q_m1, q_div, q_modN, nI_clamp, if_true, if_false, q_l0, q_l1, q_l2, q_l3, q_l4, q_l5, q_l6, q_l7, q_l8, q_l9, q_l10, q_l11, q_l12, q_l13, q_l14, q_l15, q_l16, q_l19, q_l20, q_l22, q_l24, q_l30, q_l32, q_l34, q_l36, q_l45, q_l47, q_l48, q_l57, q_l58, q_l59, q_l60, q_l61, q_l66, q_l75, q_l76, q_l94, q_l97, q_l99, q_l100, q_l101, q_l104, q_l105, q_l108, q_l109, q_l111, q_l114, q_l115, q_l116, q_l117, q_l118, q_l119, q_l120, q_l126, q_l132, q_l133, q_l135, q_l136, q_l138, q_l146, q_l147, q_l148, q_l149, q_l150, q_l151, q_l152, q_l153, q_l154, q_l155, q_l156, q_l157, q_l158, q_l214, q_l229, q_l244, q_l259, q_l300, q_l999, q_l1813, q_l2072, q_l10000, q_l65536, q_l1000000000, q_eb, q_eta, hl, h0]
  · obtain ⟨a, rfl⟩ := x_1 hv
    refine ⟨_, _, _, _, fun f => if f = 1 then 1 else 2, _, fun f hf => (by show (if _ then _ else _) < _; split <;> omega), fun r β w hβ => T_leave w hβ (nI a), fun M i hi h6 h => ?_, fun M q hq hl h => ?_⟩
    · have h0 := h 0 a rfl
      rw [show kd 108 = 6 from rfl] at h6
      have g0 := c_given hi (show 0 < 4 by omega) M
      have g1 := c_given hi (show 1 < 4 by omega) M
      have g2 := c_given hi (show 2 < 4 by omega) M
      have g3 := c_given hi (show 3 < 4 by omega) M
      have gk := c_kind hi M
      refine ⟨?_, ?_⟩
      · unfold f_X4_faultOf
        simp (disch := omega) only [↓reduceIte, eq_self, Bool.true_eq_false, Bool.false_eq_true, q_seqr, q_seql, v_ig, v_ni, v_le, v_nle, v_lt, v_nlt, v_eq, v_ne, v_gbt, v_gbf, v_gbd, v_m1lt, v_m1ge, v_m1ne, v_m1e, ↓q_gLet, Option.isSome_some, Option.getD_some, nI_add, pk_mul, q_sub, q_m1, q_div, q_modN, nI_clamp, if_true, if_false, q_l0, q_l1, q_l2, q_l3, q_l4, q_l5, q_l6, q_l7, q_l8, q_l9, q_l10, q_l11, q_l12, q_l13, q_l14, q_l15, q_l16, q_l19, q_l20, q_l22, q_l24, q_l30, q_l32, q_l34, q_l36, q_l45, q_l47, q_l48, q_l57, q_l58, q_l59, q_l60, q_l61, q_l66, q_l75, q_l76, q_l94, q_l97, q_l99, q_l100, q_l101, q_l104, q_l105, q_l108, q_l109, q_l111, q_l114, q_l115, q_l116, q_l117, q_l118, q_l119, q_l120, q_l126, q_l132, q_l133, q_l135, q_l136, q_l138, q_l146, q_l147, q_l148, q_l149, q_l150, q_l151, q_l152, q_l153, q_l154, q_l155, q_l156, q_l157, q_l158, q_l214, q_l229, q_l244, q_l259, q_l300, q_l999, q_l1813, q_l2072, q_l10000, q_l65536, q_l1000000000, q_eb, q_eta, Option.bind_some, g0, g1, g2, g3, gk, h6, h0]
      · unfold f_X4_carryOut
        simp (disch := omega) only [↓reduceIte, eq_self, Bool.true_eq_false, Bool.false_eq_true, q_seqr, q_seql, v_ig, v_ni, v_le, v_nle, v_lt, v_nlt, v_eq, v_ne, v_gbt, v_gbf, v_gbd, v_m1lt, v_m1ge, v_m1ne, v_m1e, ↓q_gLet, Option.isSome_some, Option.getD_some, nI_add, pk_mul, q_sub, q_m1, q_div, q_modN, nI_clamp, if_true, if_false, q_l0, q_l1, q_l2, q_l3, q_l4, q_l5, q_l6, q_l7, q_l8, q_l9, q_l10, q_l11, q_l12, q_l13, q_l14, q_l15, q_l16, q_l19, q_l20, q_l22, q_l24, q_l30, q_l32, q_l34, q_l36, q_l45, q_l47, q_l48, q_l57, q_l58, q_l59, q_l60, q_l61, q_l66, q_l75, q_l76, q_l94, q_l97, q_l99, q_l100, q_l101, q_l104, q_l105, q_l108, q_l109, q_l111, q_l114, q_l115, q_l116, q_l117, q_l118, q_l119, q_l120, q_l126, q_l132, q_l133, q_l135, q_l136, q_l138, q_l146, q_l147, q_l148, q_l149, q_l150, q_l151, q_l152, q_l153, q_l154, q_l155, q_l156, q_l157, q_l158, q_l214, q_l229, q_l244, q_l259, q_l300, q_l999, q_l1813, q_l2072, q_l10000, q_l65536, q_l1000000000, q_eb, q_eta, Option.bind_some, g0, g1, g2, g3, gk, h6, h0]
    · have h0 := h 0 a rfl
      rw [Nat.add_assoc] at h0
      unfold f_X7_carriesOut
      simp (disch := omega) only [↓reduceIte, eq_self, Bool.true_eq_false, Bool.false_eq_true, q_seqr, q_seql, v_ig, v_ni, v_le, v_nle, v_lt, v_nlt, v_eq, v_ne, v_gbt, v_gbf, v_gbd, v_m1lt, v_m1ge, v_m1ne, v_m1e, ↓q_gLet, Option.isSome_some, Option.getD_some, nI_add, pk_mul, q_sub, q_m1, q_div, q_modN, nI_clamp, if_true, if_false, q_l0, q_l1, q_l2, q_l3, q_l4, q_l5, q_l6, q_l7, q_l8, q_l9, q_l10, q_l11, q_l12, q_l13, q_l14, q_l15, q_l16, q_l19, q_l20, q_l22, q_l24, q_l30, q_l32, q_l34, q_l36, q_l45, q_l47, q_l48, q_l57, q_l58, q_l59, q_l60, q_l61, q_l66, q_l75, q_l76, q_l94, q_l97, q_l99, q_l100, q_l101, q_l104, q_l105, q_l108, q_l109, q_l111, q_l114, q_l115, q_l116, q_l117, q_l118, q_l119, q_l120, q_l126, q_l132, q_l133, q_l135, q_l136, q_l138, q_l146, q_l147, q_l148, q_l149, q_l150, q_l151, q_l152, q_l153, q_l154, q_l155, q_l156, q_l157, q_l158, q_l214, q_l229, q_l244, q_l259, q_l300, q_l999, q_l1813, q_l2072, q_l10000, q_l65536, q_l1000000000, q_eb, q_eta, hl, h0]
  · obtain ⟨a, b, c, d, rfl⟩ := x_4 hv
    refine ⟨_, _, _, _, fun f => f, _, fun f hf => (show f < 100 by omega), fun r β w hβ => T_stow w hβ (nI a) (nI b) (nI c) (nI d), fun M i hi h6 h => ?_, fun M q hq hl h => ?_⟩
    · have h0 := h 0 a rfl
      have h1 := h 1 b rfl
      have h2 := h 2 c rfl
      have h3 := h 3 d rfl
      rw [show kd 115 = 2 from rfl] at h6
      have g0 := c_given hi (show 0 < 4 by omega) M
      have g1 := c_given hi (show 1 < 4 by omega) M
      have g2 := c_given hi (show 2 < 4 by omega) M
      have g3 := c_given hi (show 3 < 4 by omega) M
      have gk := c_kind hi M
      refine ⟨?_, ?_⟩
      · unfold f_X4_faultOf
        simp (disch := omega) only [↓reduceIte, eq_self, Bool.true_eq_false, Bool.false_eq_true, q_seqr, q_seql, v_ig, v_ni, v_le, v_nle, v_lt, v_nlt, v_eq, v_ne, v_gbt, v_gbf, v_gbd, v_m1lt, v_m1ge, v_m1ne, v_m1e, ↓q_gLet, Option.isSome_some, Option.getD_some, nI_add, pk_mul, q_sub, q_m1, q_div, q_modN, nI_clamp, if_true, if_false, q_l0, q_l1, q_l2, q_l3, q_l4, q_l5, q_l6, q_l7, q_l8, q_l9, q_l10, q_l11, q_l12, q_l13, q_l14, q_l15, q_l16, q_l19, q_l20, q_l22, q_l24, q_l30, q_l32, q_l34, q_l36, q_l45, q_l47, q_l48, q_l57, q_l58, q_l59, q_l60, q_l61, q_l66, q_l75, q_l76, q_l94, q_l97, q_l99, q_l100, q_l101, q_l104, q_l105, q_l108, q_l109, q_l111, q_l114, q_l115, q_l116, q_l117, q_l118, q_l119, q_l120, q_l126, q_l132, q_l133, q_l135, q_l136, q_l138, q_l146, q_l147, q_l148, q_l149, q_l150, q_l151, q_l152, q_l153, q_l154, q_l155, q_l156, q_l157, q_l158, q_l214, q_l229, q_l244, q_l259, q_l300, q_l999, q_l1813, q_l2072, q_l10000, q_l65536, q_l1000000000, q_eb, q_eta, Option.bind_some, g0, g1, g2, g3, gk, h6, h0, h1, h2, h3]
      · unfold f_X4_carryOut
        simp (disch := omega) only [↓reduceIte, eq_self, Bool.true_eq_false, Bool.false_eq_true, q_seqr, q_seql, v_ig, v_ni, v_le, v_nle, v_lt, v_nlt, v_eq, v_ne, v_gbt, v_gbf, v_gbd, v_m1lt, v_m1ge, v_m1ne, v_m1e, ↓q_gLet, Option.isSome_some, Option.getD_some, nI_add, pk_mul, q_sub, q_m1, q_div, q_modN, nI_clamp, if_true, if_false, q_l0, q_l1, q_l2, q_l3, q_l4, q_l5, q_l6, q_l7, q_l8, q_l9, q_l10, q_l11, q_l12, q_l13, q_l14, q_l15, q_l16, q_l19, q_l20, q_l22, q_l24, q_l30, q_l32, q_l34, q_l36, q_l45, q_l47, q_l48, q_l57, q_l58, q_l59, q_l60, q_l61, q_l66, q_l75, q_l76, q_l94, q_l97, q_l99, q_l100, q_l101, q_l104, q_l105, q_l108, q_l109, q_l111, q_l114, q_l115, q_l116, q_l117, q_l118, q_l119, q_l120, q_l126, q_l132, q_l133, q_l135, q_l136, q_l138, q_l146, q_l147, q_l148, q_l149, q_l150, q_l151, q_l152, q_l153, q_l154, q_l155, q_l156, q_l157, q_l158, q_l214, q_l229, q_l244, q_l259, q_l300, q_l999, q_l1813, q_l2072, q_l10000, q_l65536, q_l1000000000, q_eb, q_eta, Option.bind_some, g0, g1, g2, g3, gk, h6, h0, h1, h2, h3]
    · have h0 := h 0 a rfl
      have h1 := h 1 b rfl
      have h2 := h 2 c rfl
      have h3 := h 3 d rfl
      rw [Nat.add_assoc] at h0 h1 h2 h3
      unfold f_X7_carriesOut
      simp (disch := omega) only [↓reduceIte, eq_self, Bool.true_eq_false, Bool.false_eq_true, q_seqr, q_seql, v_ig, v_ni, v_le, v_nle, v_lt, v_nlt, v_eq, v_ne, v_gbt, v_gbf, v_gbd, v_m1lt, v_m1ge, v_m1ne, v_m1e, ↓q_gLet, Option.isSome_some, Option.getD_some, nI_add, pk_mul, q_sub, q_m1, q_div, q_modN, nI_clamp, if_true, if_false, q_l0, q_l1, q_l2, q_l3, q_l4, q_l5, q_l6, q_l7, q_l8, q_l9, q_l10, q_l11, q_l12, q_l13, q_l14, q_l15, q_l16, q_l19, q_l20, q_l22, q_l24, q_l30, q_l32, q_l34, q_l36, q_l45, q_l47, q_l48, q_l57, q_l58, q_l59, q_l60, q_l61, q_l66, q_l75, q_l76, q_l94, q_l97, q_l99, q_l100, q_l101, q_l104, q_l105, q_l108, q_l109, q_l111, q_l114, q_l115, q_l116, q_l117, q_l118, q_l119, q_l120, q_l126, q_l132, q_l133, q_l135, q_l136, q_l138, q_l146, q_l147, q_l148, q_l149, q_l150, q_l151, q_l152, q_l153, q_l154, q_l155, q_l156, q_l157, q_l158, q_l214, q_l229, q_l244, q_l259, q_l300, q_l999, q_l1813, q_l2072, q_l10000, q_l65536, q_l1000000000, q_eb, q_eta, hl, h0, h1, h2, h3]
  · obtain ⟨a, b, c, rfl⟩ := x_3 hv
    refine ⟨_, _, _, _, fun f => f, _, fun f hf => (show f < 100 by omega), fun r β w hβ => T_moor w hβ (nI a) (nI b) (nI c), fun M i hi h6 h => ?_, fun M q hq hl h => ?_⟩
    · have h0 := h 0 a rfl
      have h1 := h 1 b rfl
      have h2 := h 2 c rfl
      rw [show kd 109 = 1 from rfl] at h6
      have g0 := c_given hi (show 0 < 4 by omega) M
      have g1 := c_given hi (show 1 < 4 by omega) M
      have g2 := c_given hi (show 2 < 4 by omega) M
      have g3 := c_given hi (show 3 < 4 by omega) M
      have gk := c_kind hi M
      refine ⟨?_, ?_⟩
      · unfold f_X4_faultOf
        simp (disch := omega) only [↓reduceIte, eq_self, Bool.true_eq_false, Bool.false_eq_true, q_seqr, q_seql, v_ig, v_ni, v_le, v_nle, v_lt, v_nlt, v_eq, v_ne, v_gbt, v_gbf, v_gbd, v_m1lt, v_m1ge, v_m1ne, v_m1e, ↓q_gLet, Option.isSome_some, Option.getD_some, nI_add, pk_mul, q_sub, q_m1, q_div, q_modN, nI_clamp, if_true, if_false, q_l0, q_l1, q_l2, q_l3, q_l4, q_l5, q_l6, q_l7, q_l8, q_l9, q_l10, q_l11, q_l12, q_l13, q_l14, q_l15, q_l16, q_l19, q_l20, q_l22, q_l24, q_l30, q_l32, q_l34, q_l36, q_l45, q_l47, q_l48, q_l57, q_l58, q_l59, q_l60, q_l61, q_l66, q_l75, q_l76, q_l94, q_l97, q_l99, q_l100, q_l101, q_l104, q_l105, q_l108, q_l109, q_l111, q_l114, q_l115, q_l116, q_l117, q_l118, q_l119, q_l120, q_l126, q_l132, q_l133, q_l135, q_l136, q_l138, q_l146, q_l147, q_l148, q_l149, q_l150, q_l151, q_l152, q_l153, q_l154, q_l155, q_l156, q_l157, q_l158, q_l214, q_l229, q_l244, q_l259, q_l300, q_l999, q_l1813, q_l2072, q_l10000, q_l65536, q_l1000000000, q_eb, q_eta, Option.bind_some, g0, g1, g2, g3, gk, h6, h0, h1, h2]
      · unfold f_X4_carryOut
        simp (disch := omega) only [↓reduceIte, eq_self, Bool.true_eq_false, Bool.false_eq_true, q_seqr, q_seql, v_ig, v_ni, v_le, v_nle, v_lt, v_nlt, v_eq, v_ne, v_gbt, v_gbf, v_gbd, v_m1lt, v_m1ge, v_m1ne, v_m1e, ↓q_gLet, Option.isSome_some, Option.getD_some, nI_add, pk_mul, q_sub, q_m1, q_div, q_modN, nI_clamp, if_true, if_false, q_l0, q_l1, q_l2, q_l3, q_l4, q_l5, q_l6, q_l7, q_l8, q_l9, q_l10, q_l11, q_l12, q_l13, q_l14, q_l15, q_l16, q_l19, q_l20, q_l22, q_l24, q_l30, q_l32, q_l34, q_l36, q_l45, q_l47, q_l48, q_l57, q_l58, q_l59, q_l60, q_l61, q_l66, q_l75, q_l76, q_l94, q_l97, q_l99, q_l100, q_l101, q_l104, q_l105, q_l108, q_l109, q_l111, q_l114, q_l115, q_l116, q_l117, q_l118, q_l119, q_l120, q_l126, q_l132, q_l133, q_l135, q_l136, q_l138, q_l146, q_l147, q_l148, q_l149, q_l150, q_l151, q_l152, q_l153, q_l154, q_l155, q_l156, q_l157, q_l158, q_l214, q_l229, q_l244, q_l259, q_l300, q_l999, q_l1813, q_l2072, q_l10000, q_l65536, q_l1000000000, q_eb, q_eta, Option.bind_some, g0, g1, g2, g3, gk, h6, h0, h1, h2]
    · have h0 := h 0 a rfl
      have h1 := h 1 b rfl
      have h2 := h 2 c rfl
      rw [Nat.add_assoc] at h0 h1 h2
      unfold f_X7_carriesOut
      simp (disch := omega) only [↓reduceIte, eq_self, Bool.true_eq_false, Bool.false_eq_true, q_seqr, q_seql, v_ig, v_ni, v_le, v_nle, v_lt, v_nlt, v_eq, v_ne, v_gbt, v_gbf, v_gbd, v_m1lt, v_m1ge, v_m1ne, v_m1e, ↓q_gLet, Option.isSome_some, Option.getD_some, nI_add, pk_mul, q_sub, q_m1, q_div, q_modN, nI_clamp, if_true, if_false, q_l0, q_l1, q_l2, q_l3, q_l4, q_l5, q_l6, q_l7, q_l8, q_l9, q_l10, q_l11, q_l12, q_l13, q_l14, q_l15, q_l16, q_l19, q_l20, q_l22, q_l24, q_l30, q_l32, q_l34, q_l36, q_l45, q_l47, q_l48, q_l57, q_l58, q_l59, q_l60, q_l61, q_l66, q_l75, q_l76, q_l94, q_l97, q_l99, q_l100, q_l101, q_l104, q_l105, q_l108, q_l109, q_l111, q_l114, q_l115, q_l116, q_l117, q_l118, q_l119, q_l120, q_l126, q_l132, q_l133, q_l135, q_l136, q_l138, q_l146, q_l147, q_l148, q_l149, q_l150, q_l151, q_l152, q_l153, q_l154, q_l155, q_l156, q_l157, q_l158, q_l214, q_l229, q_l244, q_l259, q_l300, q_l999, q_l1813, q_l2072, q_l10000, q_l65536, q_l1000000000, q_eb, q_eta, hl, h0, h1, h2]
  · obtain ⟨a, b, c, rfl⟩ := x_3 hv
    refine ⟨_, _, _, _, fun f => f, _, fun f hf => (show f < 100 by omega), fun r β w hβ => T_move w hβ (nI a) (nI b) (nI c), fun M i hi h6 h => ?_, fun M q hq hl h => ?_⟩
    · have h0 := h 0 a rfl
      have h1 := h 1 b rfl
      have h2 := h 2 c rfl
      rw [show kd 118 = 4 from rfl] at h6
      have g0 := c_given hi (show 0 < 4 by omega) M
      have g1 := c_given hi (show 1 < 4 by omega) M
      have g2 := c_given hi (show 2 < 4 by omega) M
      have g3 := c_given hi (show 3 < 4 by omega) M
      have gk := c_kind hi M
      refine ⟨?_, ?_⟩
      · unfold f_X4_faultOf
        simp (disch := omega) only [↓reduceIte, eq_self, Bool.true_eq_false, Bool.false_eq_true, q_seqr, q_seql, v_ig, v_ni, v_le, v_nle, v_lt, v_nlt, v_eq, v_ne, v_gbt, v_gbf, v_gbd, v_m1lt, v_m1ge, v_m1ne, v_m1e, ↓q_gLet, Option.isSome_some, Option.getD_some, nI_add, pk_mul, q_sub, q_m1, q_div, q_modN, nI_clamp, if_true, if_false, q_l0, q_l1, q_l2, q_l3, q_l4, q_l5, q_l6, q_l7, q_l8, q_l9, q_l10, q_l11, q_l12, q_l13, q_l14, q_l15, q_l16, q_l19, q_l20, q_l22, q_l24, q_l30, q_l32, q_l34, q_l36, q_l45, q_l47, q_l48, q_l57, q_l58, q_l59, q_l60, q_l61, q_l66, q_l75, q_l76, q_l94, q_l97, q_l99, q_l100, q_l101, q_l104, q_l105, q_l108, q_l109, q_l111, q_l114, q_l115, q_l116, q_l117, q_l118, q_l119, q_l120, q_l126, q_l132, q_l133, q_l135, q_l136, q_l138, q_l146, q_l147, q_l148, q_l149, q_l150, q_l151, q_l152, q_l153, q_l154, q_l155, q_l156, q_l157, q_l158, q_l214, q_l229, q_l244, q_l259, q_l300, q_l999, q_l1813, q_l2072, q_l10000, q_l65536, q_l1000000000, q_eb, q_eta, Option.bind_some, g0, g1, g2, g3, gk, h6, h0, h1, h2]
      · unfold f_X4_carryOut
        simp (disch := omega) only [↓reduceIte, eq_self, Bool.true_eq_false, Bool.false_eq_true, q_seqr, q_seql, v_ig, v_ni, v_le, v_nle, v_lt, v_nlt, v_eq, v_ne, v_gbt, v_gbf, v_gbd, v_m1lt, v_m1ge, v_m1ne, v_m1e, ↓q_gLet, Option.isSome_some, Option.getD_some, nI_add, pk_mul, q_sub, q_m1, q_div, q_modN, nI_clamp, if_true, if_false, q_l0, q_l1, q_l2, q_l3, q_l4, q_l5, q_l6, q_l7, q_l8, q_l9, q_l10, q_l11, q_l12, q_l13, q_l14, q_l15, q_l16, q_l19, q_l20, q_l22, q_l24, q_l30, q_l32, q_l34, q_l36, q_l45, q_l47, q_l48, q_l57, q_l58, q_l59, q_l60, q_l61, q_l66, q_l75, q_l76, q_l94, q_l97, q_l99, q_l100, q_l101, q_l104, q_l105, q_l108, q_l109, q_l111, q_l114, q_l115, q_l116, q_l117, q_l118, q_l119, q_l120, q_l126, q_l132, q_l133, q_l135, q_l136, q_l138, q_l146, q_l147, q_l148, q_l149, q_l150, q_l151, q_l152, q_l153, q_l154, q_l155, q_l156, q_l157, q_l158, q_l214, q_l229, q_l244, q_l259, q_l300, q_l999, q_l1813, q_l2072, q_l10000, q_l65536, q_l1000000000, q_eb, q_eta, Option.bind_some, g0, g1, g2, g3, gk, h6, h0, h1, h2]
    · have h0 := h 0 a rfl
      have h1 := h 1 b rfl
      have h2 := h 2 c rfl
      rw [Nat.add_assoc] at h0 h1 h2
      unfold f_X7_carriesOut
      simp (disch := omega) only [↓reduceIte, eq_self, Bool.true_eq_false, Bool.false_eq_true, q_seqr, q_seql, v_ig, v_ni, v_le, v_nle, v_lt, v_nlt, v_eq, v_ne, v_gbt, v_gbf, v_gbd, v_m1lt, v_m1ge, v_m1ne, v_m1e, ↓q_gLet, Option.isSome_some, Option.getD_some, nI_add, pk_mul, q_sub, q_m1, q_div, q_modN, nI_clamp, if_true, if_false, q_l0, q_l1, q_l2, q_l3, q_l4, q_l5, q_l6, q_l7, q_l8, q_l9, q_l10, q_l11, q_l12, q_l13, q_l14, q_l15, q_l16, q_l19, q_l20, q_l22, q_l24, q_l30, q_l32, q_l34, q_l36, q_l45, q_l47, q_l48, q_l57, q_l58, q_l59, q_l60, q_l61, q_l66, q_l75, q_l76, q_l94, q_l97, q_l99, q_l100, q_l101, q_l104, q_l105, q_l108, q_l109, q_l111, q_l114, q_l115, q_l116, q_l117, q_l118, q_l119, q_l120, q_l126, q_l132, q_l133, q_l135, q_l136, q_l138, q_l146, q_l147, q_l148, q_l149, q_l150, q_l151, q_l152, q_l153, q_l154, q_l155, q_l156, q_l157, q_l158, q_l214, q_l229, q_l244, q_l259, q_l300, q_l999, q_l1813, q_l2072, q_l10000, q_l65536, q_l1000000000, q_eb, q_eta, hl, h0, h1, h2]
