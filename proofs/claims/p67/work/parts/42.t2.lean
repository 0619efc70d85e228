/-! pass: the reference's hour, and n hours -/
section TQ
variable {r : Nat → Int32} {β : Nat} {M : gM}
def mpR (r : Nat → Int32) (k : Nat) : Nat → Int32 := upd (hpK r k) (19 + k) (nI (lkN r k - 1))
theorem mpR_o (r : Nat → Int32) (k : Nat) {j : Nat} (h0 : j ≠ 0) (h2 : j ≠ 2) (h : ¬ (19 ≤ j ∧ j < 19 + (k + 1))) : mpR r k j = r j := by
  unfold mpR
  rw [q_upn (by omega), hpK_o r k h0 h2 (by omega)]
theorem mpR_0 (r : Nat → Int32) (k : Nat) : mpR r k 0 = nI (hrN r + 1) := by unfold mpR; rw [q_upn (by omega), hpK_0]
theorem mpR_2 (r : Nat → Int32) (k : Nat) : mpR r k 2 = r 2 + nI (csN r k) := by unfold mpR; rw [q_upn (by omega), hpK_2]
theorem mpR_end (r : Nat → Int32) (k : Nat) : upd (mpR r k) 2 (r 2 + nI (csN r k) + nI (coN r k)) = hpK r (k + 1) := by
  funext j
  by_cases h2 : j = 2
  · rw [q_ups h2, h2, hpK_2, csN_succ, ← nI_add, Int32.add_assoc]
  · rw [q_upn h2]
    by_cases h0 : j = 0
    · rw [h0, mpR_0, hpK_0]
    · by_cases hl : 19 ≤ j ∧ j < 19 + (k + 1)
      · have e : j = 19 + (j - 19) := by omega
        rw [e, hpK_l r (k + 1) (by omega)]
        unfold mpR
        by_cases hk : j - 19 = k
        · rw [hk, q_ups rfl]
        · rw [q_upn (by omega), hpK_l r k (by omega)]
      · rw [mpR_o r k h0 h2 hl, hpK_o r (k + 1) h0 h2 hl]
theorem mpR_row (w : gRow β r) (hβ : β ≤ 600) {k : Nat} (hk : k < 3) (h : hrN r + 1 ≤ 100 * β) : gRow β (mpR r k) := by
  have w1 := hpK_row w hβ (k := k + 1) hk h
  have e : ∀ j, j ≠ 2 → mpR r k j = hpK r (k + 1) j := fun j hj => by rw [← mpR_end, q_upn hj]
  refine gRow_keep w1 (Nat.le_refl _) (fun j hj => e j (by omega)) ?_ (fun b hb => ?_) (fun b hb => ?_)
  · rw [e 0 (by omega)]; exact w1.hr
  · rw [e _ (by omega), e _ (by omega), e _ (by omega)]; exact w1.b hb
  · rw [e _ (by omega), e _ (by omega)]; exact w1.tl hb
theorem m_passesHour (hM : M 151 = r) (w : gRow β r) (hβ : β ≤ 600) (h : hrN r + 1 ≤ 100 * β) : f_X7_passesHour M = some (gw M 151 (hpK r 3)) := by
  have hh := w.hrs hβ
  have key : ∀ d n k, k + d = 3 → d < n → f_X7_passesHour_L12 n (nI k) (gw M 151 (hpK r k)) = some (gw M 151 (hpK r 3)) := by
    intro d
    induction d with
    | zero =>
      intro n k hk hn
      obtain ⟨m, rfl⟩ : ∃ m, n = m + 1 := ⟨n - 1, by omega⟩
      have hk : k = 3 := by omega
      subst hk
      rw [f_X7_passesHour_L12]
      simp (disch := omega) only [q_seqr, q_seql, q_ig, q_ni, q_le, q_nle, q_lt, q_nlt, q_eq, q_ne, q_eqr, q_gbt, q_gbf, q_gbd, q_m1lt, q_m1ge, q_m1ne, q_m1eq, q_m1e, Option.bind_some, gLet, nI_add, pk_mul, q_sub, q_m1, q_div, q_modN, nI_clamp, if_true, if_false, Bool.false_eq_true, q_l0, q_l1, q_l2, q_l3, q_l4, q_l5, q_l6, q_l7, q_l8, q_l9, q_l10, q_l11, q_l12, q_l13, q_l14, q_l15, q_l16, q_l19, q_l20, q_l22, q_l24, q_l30, q_l32, q_l34, q_l36, q_l45, q_l47, q_l48, q_l57, q_l58, q_l59, q_l60, q_l61, q_l66, q_l75, q_l76, q_l94, q_l97, q_l99, q_l100, q_l101, q_l104, q_l105, q_l108, q_l109, q_l111, q_l114, q_l115, q_l116, q_l117, q_l118, q_l119, q_l120, q_l126, q_l132, q_l133, q_l135, q_l136, q_l138, q_l146, q_l147, q_l148, q_l149, q_l150, q_l151, q_l152, q_l153, q_l154, q_l155, q_l156, q_l157, q_l158, q_l214, q_l229, q_l244, q_l259, q_l300, q_l999, q_l1813, q_l2072, q_l10000, q_l65536, q_l1000000000]
    | succ d ih =>
      intro n k hk hn
      obtain ⟨m, rfl⟩ : ∃ m, n = m + 1 := ⟨n - 1, by omega⟩
      have hb : k < 3 := by omega
      have hl := lk_eq w hb
      have wk := mpR_row w hβ hb h
      have ih := ih m (k + 1) (by omega) (by omega)
      have l20 := ldN_le w hb
      have ld : f_X7_load (nI k) (gw M 151 (mpR r k)) = some (nI (ldN r k)) := by
        have := m_load (M := gw M 151 (mpR r k)) (by rw [gw_same]; exact wk) hb
        rw [gw_same] at this
        rw [this, ld_eq (fun p hp => mpR_o r k (by omega) (by omega) (by omega)) hb]
      have rest : (if gin (7 + nI k) 259 then (if (gw M 151 (mpR r k) 151 ((7 + nI k).toNatClampNeg)) = 1 then if gin (13 + nI k) 259 then (if (gw M 151 (mpR r k) 151 0) ≤ (gw M 151 (mpR r k) 151 ((13 + nI k).toNatClampNeg)) then gLet (gs (gw M 151 (mpR r k)) 151 2 ((gw M 151 (mpR r k) 151 2) + 0)) fun M15 => f_X7_passesHour_L12 m (nI k + 1) M15 else (f_X7_load (nI k) (gw M 151 (mpR r k))).bind fun r17 => gLet (gs (gw M 151 (mpR r k)) 151 2 ((gw M 151 (mpR r k) 151 2) + (1 + r17))) fun M19 => f_X7_passesHour_L12 m (nI k + 1) M19) else none else gLet (gs (gw M 151 (mpR r k)) 151 2 ((gw M 151 (mpR r k) 151 2) + 0)) fun M11 => f_X7_passesHour_L12 m (nI k + 1) M11) else none) = some (gw M 151 (hpK r 3)) := by
        have en := mpR_end r k
        rcases w.b hb with h1 | ⟨h1, -⟩
        · have : coN r k = 0 := by
            unfold coN
            rw [h1, if_neg (fun q => absurd q.1 (by decide))]
          rw [this] at en
          rw [← en] at ih
          simp (disch := omega) only [q_seqr, q_seql, q_ig, q_ni, q_le, q_nle, q_lt, q_nlt, q_eq, q_ne, q_eqr, q_gbt, q_gbf, q_gbd, q_m1lt, q_m1ge, q_m1ne, q_m1eq, q_m1e, Option.bind_some, gLet, nI_add, pk_mul, q_sub, q_m1, q_div, q_modN, nI_clamp, if_true, if_false, Bool.false_eq_true, q_l0, q_l1, q_l2, q_l3, q_l4, q_l5, q_l6, q_l7, q_l8, q_l9, q_l10, q_l11, q_l12, q_l13, q_l14, q_l15, q_l16, q_l19, q_l20, q_l22, q_l24, q_l30, q_l32, q_l34, q_l36, q_l45, q_l47, q_l48, q_l57, q_l58, q_l59, q_l60, q_l61, q_l66, q_l75, q_l76, q_l94, q_l97, q_l99, q_l100, q_l101, q_l104, q_l105, q_l108, q_l109, q_l111, q_l114, q_l115, q_l116, q_l117, q_l118, q_l119, q_l120, q_l126, q_l132, q_l133, q_l135, q_l136, q_l138, q_l146, q_l147, q_l148, q_l149, q_l150, q_l151, q_l152, q_l153, q_l154, q_l155, q_l156, q_l157, q_l158, q_l214, q_l229, q_l244, q_l259, q_l300, q_l999, q_l1813, q_l2072, q_l10000, q_l65536, q_l1000000000, q_gs151, gw_same, gw_gw, mpR_o, mpR_2, h1]
          exact ih
        · have a := w.ship hβ hb h1
          by_cases hd : duN r k < hrN r + 1
          · have : coN r k = ldN r k + 1 := by
              unfold coN
              rw [if_pos ⟨h1, hd⟩]
            rw [this] at en
            rw [← en] at ih
            have ec : ldN r k + 1 = 1 + ldN r k := by omega
            rw [ec] at ih
            simp (disch := omega) only [q_seqr, q_seql, q_ig, q_ni, q_le, q_nle, q_lt, q_nlt, q_eq, q_ne, q_eqr, q_gbt, q_gbf, q_gbd, q_m1lt, q_m1ge, q_m1ne, q_m1eq, q_m1e, Option.bind_some, gLet, nI_add, pk_mul, q_sub, q_m1, q_div, q_modN, nI_clamp, if_true, if_false, Bool.false_eq_true, q_l0, q_l1, q_l2, q_l3, q_l4, q_l5, q_l6, q_l7, q_l8, q_l9, q_l10, q_l11, q_l12, q_l13, q_l14, q_l15, q_l16, q_l19, q_l20, q_l22, q_l24, q_l30, q_l32, q_l34, q_l36, q_l45, q_l47, q_l48, q_l57, q_l58, q_l59, q_l60, q_l61, q_l66, q_l75, q_l76, q_l94, q_l97, q_l99, q_l100, q_l101, q_l104, q_l105, q_l108, q_l109, q_l111, q_l114, q_l115, q_l116, q_l117, q_l118, q_l119, q_l120, q_l126, q_l132, q_l133, q_l135, q_l136, q_l138, q_l146, q_l147, q_l148, q_l149, q_l150, q_l151, q_l152, q_l153, q_l154, q_l155, q_l156, q_l157, q_l158, q_l214, q_l229, q_l244, q_l259, q_l300, q_l999, q_l1813, q_l2072, q_l10000, q_l65536, q_l1000000000, q_gs151, gw_same, gw_gw, mpR_o, mpR_2, mpR_0, h1, a.2.2.2.1, ld]
            exact ih
          · have : coN r k = 0 := by
              unfold coN
              rw [if_neg (fun q => hd q.2)]
            rw [this] at en
            rw [← en] at ih
            simp (disch := omega) only [q_seqr, q_seql, q_ig, q_ni, q_le, q_nle, q_lt, q_nlt, q_eq, q_ne, q_eqr, q_gbt, q_gbf, q_gbd, q_m1lt, q_m1ge, q_m1ne, q_m1eq, q_m1e, Option.bind_some, gLet, nI_add, pk_mul, q_sub, q_m1, q_div, q_modN, nI_clamp, if_true, if_false, Bool.false_eq_true, q_l0, q_l1, q_l2, q_l3, q_l4, q_l5, q_l6, q_l7, q_l8, q_l9, q_l10, q_l11, q_l12, q_l13, q_l14, q_l15, q_l16, q_l19, q_l20, q_l22, q_l24, q_l30, q_l32, q_l34, q_l36, q_l45, q_l47, q_l48, q_l57, q_l58, q_l59, q_l60, q_l61, q_l66, q_l75, q_l76, q_l94, q_l97, q_l99, q_l100, q_l101, q_l104, q_l105, q_l108, q_l109, q_l111, q_l114, q_l115, q_l116, q_l117, q_l118, q_l119, q_l120, q_l126, q_l132, q_l133, q_l135, q_l136, q_l138, q_l146, q_l147, q_l148, q_l149, q_l150, q_l151, q_l152, q_l153, q_l154, q_l155, q_l156, q_l157, q_l158, q_l214, q_l229, q_l244, q_l259, q_l300, q_l999, q_l1813, q_l2072, q_l10000, q_l65536, q_l1000000000, q_gs151, gw_same, gw_gw, mpR_o, mpR_2, mpR_0, h1, a.2.2.2.1]
            exact ih
      have e19 : hpK r k (19 + k) = nI (lkN r k) := by rw [hpK_o r k (by omega) (by omega) (by omega), hl.1]
      rw [f_X7_passesHour_L12, ← rest]
      by_cases l0 : lkN r k = 0
      · have es : upd (hpK r k) (19 + k) (nI 0) = mpR r k := by unfold mpR; rw [l0]
        rw [l0] at e19
        simp (disch := omega) only [q_seqr, q_seql, q_ig, q_ni, q_le, q_nle, q_lt, q_nlt, q_eq, q_ne, q_eqr, q_gbt, q_gbf, q_gbd, q_m1lt, q_m1ge, q_m1ne, q_m1eq, q_m1e, Option.bind_some, gLet, nI_add, pk_mul, q_sub, q_m1, q_div, q_modN, nI_clamp, if_true, if_false, Bool.false_eq_true, q_l0, q_l1, q_l2, q_l3, q_l4, q_l5, q_l6, q_l7, q_l8, q_l9, q_l10, q_l11, q_l12, q_l13, q_l14, q_l15, q_l16, q_l19, q_l20, q_l22, q_l24, q_l30, q_l32, q_l34, q_l36, q_l45, q_l47, q_l48, q_l57, q_l58, q_l59, q_l60, q_l61, q_l66, q_l75, q_l76, q_l94, q_l97, q_l99, q_l100, q_l101, q_l104, q_l105, q_l108, q_l109, q_l111, q_l114, q_l115, q_l116, q_l117, q_l118, q_l119, q_l120, q_l126, q_l132, q_l133, q_l135, q_l136, q_l138, q_l146, q_l147, q_l148, q_l149, q_l150, q_l151, q_l152, q_l153, q_l154, q_l155, q_l156, q_l157, q_l158, q_l214, q_l229, q_l244, q_l259, q_l300, q_l999, q_l1813, q_l2072, q_l10000, q_l65536, q_l1000000000, q_gs151, gw_same, gw_gw, e19, es]
      · have es : upd (hpK r k) (19 + k) (nI (lkN r k - 1)) = mpR r k := rfl
        simp (disch := omega) only [q_seqr, q_seql, q_ig, q_ni, q_le, q_nle, q_lt, q_nlt, q_eq, q_ne, q_eqr, q_gbt, q_gbf, q_gbd, q_m1lt, q_m1ge, q_m1ne, q_m1eq, q_m1e, Option.bind_some, gLet, nI_add, pk_mul, q_sub, q_m1, q_div, q_modN, nI_clamp, if_true, if_false, Bool.false_eq_true, q_l0, q_l1, q_l2, q_l3, q_l4, q_l5, q_l6, q_l7, q_l8, q_l9, q_l10, q_l11, q_l12, q_l13, q_l14, q_l15, q_l16, q_l19, q_l20, q_l22, q_l24, q_l30, q_l32, q_l34, q_l36, q_l45, q_l47, q_l48, q_l57, q_l58, q_l59, q_l60, q_l61, q_l66, q_l75, q_l76, q_l94, q_l97, q_l99, q_l100, q_l101, q_l104, q_l105, q_l108, q_l109, q_l111, q_l114, q_l115, q_l116, q_l117, q_l118, q_l119, q_l120, q_l126, q_l132, q_l133, q_l135, q_l136, q_l138, q_l146, q_l147, q_l148, q_l149, q_l150, q_l151, q_l152, q_l153, q_l154, q_l155, q_l156, q_l157, q_l158, q_l214, q_l229, q_l244, q_l259, q_l300, q_l999, q_l1813, q_l2072, q_l10000, q_l65536, q_l1000000000, q_gs151, gw_same, gw_gw, e19, es]
  unfold f_X7_passesHour
  have e0 : hpK r 0 = upd r 0 (nI (hrN r + 1)) := by
    funext j
    by_cases h0 : j = 0
    · rw [h0, hpK_0, q_ups rfl]
    · rw [q_upn h0]
      by_cases h2 : j = 2
      · rw [h2, hpK_2]
        exact Int32.add_zero _
      · exact hpK_o r 0 h0 h2 (by omega)
  have k0 := key 3 gF 0 rfl (by unfold gF; omega)
  rw [e0] at k0
  rw [q_gLet, q_gs151, hM, hh.1, show nI (hrN r) + 1 = nI (hrN r + 1) from nI_add _ 1]
  exact k0
/-! n hours -/
theorem hpI_ok (w : gRow β r) (hβ : β ≤ 590) {n : Nat} (hn : n ≤ 100) : gRow (β + 1) (hpI r n) ∧ hrN (hpI r n) = hrN r + n ∧ hpI r n 2 = r 2 + nI (coT r n) := by
  have hh := w.hrs (by omega)
  induction n with
  | zero => exact ⟨w.up (by omega), rfl, (Int32.add_zero _).symm⟩
  | succ n ih =>
    have ih := ih (by omega)
    have w1 : gRow (β + 1) (hpI r (n + 1)) := hpK_row ih.1 (by omega) (Nat.le_refl 3) (by rw [ih.2.1]; omega)
    refine ⟨w1, ?_, ?_⟩
    · show hrN (hpK (hpI r n) 3) = _
      rw [hpK_hr ih.1 (by omega), ih.2.1]
      omega
    · show hpI r n 2 + nI (csN (hpI r n) 3) = _
      rw [ih.2.2, Int32.add_assoc, nI_add, coT_succ]
theorem c_hoursPass {o : Nat} (g : gSim M o r) (w : gRow β r) (hβ : β ≤ 590) {n : Nat} (hn : n ≤ 100) : ∃ M1, f_X5_letHoursPass o (nI n) M = some (nI (coT r n), M1) ∧ gFr o M M1 ∧ gSim M1 o (hpI r n) := by
  have hh := w.hrs (by omega)
  have key : ∀ d f k M1, k + d = n → d < f → gFr o M M1 → gSim M1 o (hpI r k) → ∃ M2, f_X5_letHoursPass_L4 o (nI n) f (nI k) (nI (coT r k)) M1 = some (nI (coT r n), M2) ∧ gFr o M M2 ∧ gSim M2 o (hpI r n) := by
    intro d
    induction d with
    | zero =>
      intro f k M1 hk hf fr g1
      obtain ⟨m, rfl⟩ : ∃ m, f = m + 1 := ⟨f - 1, by omega⟩
      have hk : k = n := by omega
      subst hk
      refine ⟨M1, ?_, fr, g1⟩
      rw [f_X5_letHoursPass_L4]
      simp (disch := omega) only [q_seqr, q_seql, q_ig, q_ni, q_le, q_nle, q_lt, q_nlt, q_eq, q_ne, q_eqr, q_gbt, q_gbf, q_gbd, q_m1lt, q_m1ge, q_m1ne, q_m1eq, q_m1e, Option.bind_some, gLet, nI_add, pk_mul, q_sub, q_m1, q_div, q_modN, nI_clamp, if_true, if_false, Bool.false_eq_true, q_l0, q_l1, q_l2, q_l3, q_l4, q_l5, q_l6, q_l7, q_l8, q_l9, q_l10, q_l11, q_l12, q_l13, q_l14, q_l15, q_l16, q_l19, q_l20, q_l22, q_l24, q_l30, q_l32, q_l34, q_l36, q_l45, q_l47, q_l48, q_l57, q_l58, q_l59, q_l60, q_l61, q_l66, q_l75, q_l76, q_l94, q_l97, q_l99, q_l100, q_l101, q_l104, q_l105, q_l108, q_l109, q_l111, q_l114, q_l115, q_l116, q_l117, q_l118, q_l119, q_l120, q_l126, q_l132, q_l133, q_l135, q_l136, q_l138, q_l146, q_l147, q_l148, q_l149, q_l150, q_l151, q_l152, q_l153, q_l154, q_l155, q_l156, q_l157, q_l158, q_l214, q_l229, q_l244, q_l259, q_l300, q_l999, q_l1813, q_l2072, q_l10000, q_l65536, q_l1000000000]
    | succ d ih =>
      intro f k M1 hk hf fr g1
      obtain ⟨m, rfl⟩ : ∃ m, f = m + 1 := ⟨f - 1, by omega⟩
      have ok := hpI_ok w hβ (n := k) (by omega)
      obtain ⟨M2, e, fr2, g2⟩ := c_hourPass g1 ok.1 (by omega) (by rw [ok.2.1]; omega)
      obtain ⟨M3, e3, fr3, g3⟩ := ih m (k + 1) M2 (by omega) (by omega) (fr.tr fr2) g2
      rw [coT_succ] at e3
      refine ⟨M3, ?_, fr3, g3⟩
      rw [f_X5_letHoursPass_L4]
      simp (disch := omega) only [q_seqr, q_seql, q_ig, q_ni, q_le, q_nle, q_lt, q_nlt, q_eq, q_ne, q_eqr, q_gbt, q_gbf, q_gbd, q_m1lt, q_m1ge, q_m1ne, q_m1eq, q_m1e, Option.bind_some, gLet, nI_add, pk_mul, q_sub, q_m1, q_div, q_modN, nI_clamp, if_true, if_false, Bool.false_eq_true, q_l0, q_l1, q_l2, q_l3, q_l4, q_l5, q_l6, q_l7, q_l8, q_l9, q_l10, q_l11, q_l12, q_l13, q_l14, q_l15, q_l16, q_l19, q_l20, q_l22, q_l24, q_l30, q_l32, q_l34, q_l36, q_l45, q_l47, q_l48, q_l57, q_l58, q_l59, q_l60, q_l61, q_l66, q_l75, q_l76, q_l94, q_l97, q_l99, q_l100, q_l101, q_l104, q_l105, q_l108, q_l109, q_l111, q_l114, q_l115, q_l116, q_l117, q_l118, q_l119, q_l120, q_l126, q_l132, q_l133, q_l135, q_l136, q_l138, q_l146, q_l147, q_l148, q_l149, q_l150, q_l151, q_l152, q_l153, q_l154, q_l155, q_l156, q_l157, q_l158, q_l214, q_l229, q_l244, q_l259, q_l300, q_l999, q_l1813, q_l2072, q_l10000, q_l65536, q_l1000000000, e]
      exact e3
  exact key n gF 0 M (by omega) (by unfold gF; omega) gFr.rf g
/-- the reference's hours, at any state that holds the row -/
theorem m_hour (hM : M 151 = r) (w : gRow β r) (hβ : β ≤ 590) {k : Nat} (hk : k < 100) : f_X7_passesHour (gw M 151 (hpI r k)) = some (gw M 151 (hpI r (k + 1))) := by
  have hh := w.hrs (by omega)
  have ok := hpI_ok w hβ (n := k) (by omega)
  rw [m_passesHour (gw_same _ _ _) ok.1 (by omega) (by rw [ok.2.1]; omega), gw_gw]
  rfl
theorem m_passes (hM : M 151 = r) (w : gRow β r) (hβ : β ≤ 590) {n : Nat} (h1 : 1 ≤ n) (hn : n ≤ 100) : f_X7_passes (nI n) M = some (nI (coT r n), gs (gw M 151 (hpI r n)) 150 13 (nI 0)) := by
  have ok := hpI_ok w hβ (n := n) hn
  have key : ∀ d f k, k + d = n → d < f → f_X7_passes_L25 (r 2) (nI n) f (nI k) (gw M 151 (hpI r k)) = some (nI (coT r n), gs (gw M 151 (hpI r n)) 150 13 (nI 0)) := by
    intro d
    induction d with
    | zero =>
      intro f k hk hf
      obtain ⟨m, rfl⟩ : ∃ m, f = m + 1 := ⟨f - 1, by omega⟩
      have hk : k = n := by omega
      subst hk
      rw [f_X7_passes_L25]
      simp (disch := omega) only [q_seqr, q_seql, q_ig, q_ni, q_le, q_nle, q_lt, q_nlt, q_eq, q_ne, q_eqr, q_gbt, q_gbf, q_gbd, q_m1lt, q_m1ge, q_m1ne, q_m1eq, q_m1e, Option.bind_some, gLet, nI_add, pk_mul, q_sub, q_m1, q_div, q_modN, nI_clamp, if_true, if_false, Bool.false_eq_true, q_l0, q_l1, q_l2, q_l3, q_l4, q_l5, q_l6, q_l7, q_l8, q_l9, q_l10, q_l11, q_l12, q_l13, q_l14, q_l15, q_l16, q_l19, q_l20, q_l22, q_l24, q_l30, q_l32, q_l34, q_l36, q_l45, q_l47, q_l48, q_l57, q_l58, q_l59, q_l60, q_l61, q_l66, q_l75, q_l76, q_l94, q_l97, q_l99, q_l100, q_l101, q_l104, q_l105, q_l108, q_l109, q_l111, q_l114, q_l115, q_l116, q_l117, q_l118, q_l119, q_l120, q_l126, q_l132, q_l133, q_l135, q_l136, q_l138, q_l146, q_l147, q_l148, q_l149, q_l150, q_l151, q_l152, q_l153, q_l154, q_l155, q_l156, q_l157, q_l158, q_l214, q_l229, q_l244, q_l259, q_l300, q_l999, q_l1813, q_l2072, q_l10000, q_l65536, q_l1000000000, m_done, gw_same]
      rw [ok.2.2, Int32.add_comm, Int32.add_sub_cancel]
    | succ d ih =>
      intro f k hk hf
      obtain ⟨m, rfl⟩ : ∃ m, f = m + 1 := ⟨f - 1, by omega⟩
      rw [f_X7_passes_L25]
      simp (disch := omega) only [q_seqr, q_seql, q_ig, q_ni, q_le, q_nle, q_lt, q_nlt, q_eq, q_ne, q_eqr, q_gbt, q_gbf, q_gbd, q_m1lt, q_m1ge, q_m1ne, q_m1eq, q_m1e, Option.bind_some, gLet, nI_add, pk_mul, q_sub, q_m1, q_div, q_modN, nI_clamp, if_true, if_false, Bool.false_eq_true, q_l0, q_l1, q_l2, q_l3, q_l4, q_l5, q_l6, q_l7, q_l8, q_l9, q_l10, q_l11, q_l12, q_l13, q_l14, q_l15, q_l16, q_l19, q_l20, q_l22, q_l24, q_l30, q_l32, q_l34, q_l36, q_l45, q_l47, q_l48, q_l57, q_l58, q_l59, q_l60, q_l61, q_l66, q_l75, q_l76, q_l94, q_l97, q_l99, q_l100, q_l101, q_l104, q_l105, q_l108, q_l109, q_l111, q_l114, q_l115, q_l116, q_l117, q_l118, q_l119, q_l120, q_l126, q_l132, q_l133, q_l135, q_l136, q_l138, q_l146, q_l147, q_l148, q_l149, q_l150, q_l151, q_l152, q_l153, q_l154, q_l155, q_l156, q_l157, q_l158, q_l214, q_l229, q_l244, q_l259, q_l300, q_l999, q_l1813, q_l2072, q_l10000, q_l65536, q_l1000000000, m_hour hM w hβ (k := k)]
      exact ih m (k + 1) (by omega) (by omega)
  have k0 := key n gF 0 (by omega) (by unfold gF; omega)
  have e0 : gw M 151 (hpI r 0) = M := by show gw M 151 r = M; rw [← hM, gw_id]
  rw [e0] at k0
  unfold f_X7_passes
  rw [show (1 : Int32) = nI 1 from rfl, show (100 : Int32) = nI 100 by decide, m_in_t h1 hn (by omega), Option.bind_some, if_neg (show ¬ gb true = 0 by decide), q_gLet, hM]
  exact k0
theorem T_pass (w : gRow β r) (hβ : β ≤ 590) (v : Int32) : gCmd β r (fun _ M => f_X6_passingFault v M) (fun o M => f_X5_letHoursPass o v M) (fun o M => (f_X5_letHoursPass o v M).bind fun p => some p.2) (fun M => f_X7_passes v M) (fun _ => 1) kA := by
  rcases q_in3 v 1 100 (by omega) (by omega) with ⟨n, h1, h2, rfl⟩ | hv
  · refine Or.inr ⟨hpI r n, nI (coT r n), (hpI_ok w hβ h2).1, fun M o g => ?_, fun M hM => m_passes hM w hβ h1 h2⟩
    obtain ⟨M1, e, fr, g1⟩ := c_hoursPass g w hβ (n := n) h2
    refine ⟨?_, M1, e, ?_, fr, g1⟩
    · unfold f_X6_passingFault
      simp (disch := omega) only [q_seqr, q_seql, q_ig, q_ni, q_le, q_nle, q_lt, q_nlt, q_eq, q_ne, q_eqr, q_gbt, q_gbf, q_gbd, q_m1lt, q_m1ge, q_m1ne, q_m1eq, q_m1e, Option.bind_some, gLet, nI_add, pk_mul, q_sub, q_m1, q_div, q_modN, nI_clamp, if_true, if_false, Bool.false_eq_true, q_l0, q_l1, q_l2, q_l3, q_l4, q_l5, q_l6, q_l7, q_l8, q_l9, q_l10, q_l11, q_l12, q_l13, q_l14, q_l15, q_l16, q_l19, q_l20, q_l22, q_l24, q_l30, q_l32, q_l34, q_l36, q_l45, q_l47, q_l48, q_l57, q_l58, q_l59, q_l60, q_l61, q_l66, q_l75, q_l76, q_l94, q_l97, q_l99, q_l100, q_l101, q_l104, q_l105, q_l108, q_l109, q_l111, q_l114, q_l115, q_l116, q_l117, q_l118, q_l119, q_l120, q_l126, q_l132, q_l133, q_l135, q_l136, q_l138, q_l146, q_l147, q_l148, q_l149, q_l150, q_l151, q_l152, q_l153, q_l154, q_l155, q_l156, q_l157, q_l158, q_l214, q_l229, q_l244, q_l259, q_l300, q_l999, q_l1813, q_l2072, q_l10000, q_l65536, q_l1000000000]
    · show (f_X5_letHoursPass o (nI n) M).bind (fun p => some p.2) = _
      rw [e, Option.bind_some]
  · refine Or.inl ⟨2, by omega, ⟨rfl, by decide⟩, fun M o g => ?_, fun M hM => ?_⟩
    · unfold f_X6_passingFault
      by_cases h1 : v < nI 1
      · simp (disch := omega) only [q_seqr, q_seql, q_ig, q_ni, q_le, q_nle, q_lt, q_nlt, q_eq, q_ne, q_eqr, q_gbt, q_gbf, q_gbd, q_m1lt, q_m1ge, q_m1ne, q_m1eq, q_m1e, Option.bind_some, gLet, nI_add, pk_mul, q_sub, q_m1, q_div, q_modN, nI_clamp, if_true, if_false, Bool.false_eq_true, q_l0, q_l1, q_l2, q_l3, q_l4, q_l5, q_l6, q_l7, q_l8, q_l9, q_l10, q_l11, q_l12, q_l13, q_l14, q_l15, q_l16, q_l19, q_l20, q_l22, q_l24, q_l30, q_l32, q_l34, q_l36, q_l45, q_l47, q_l48, q_l57, q_l58, q_l59, q_l60, q_l61, q_l66, q_l75, q_l76, q_l94, q_l97, q_l99, q_l100, q_l101, q_l104, q_l105, q_l108, q_l109, q_l111, q_l114, q_l115, q_l116, q_l117, q_l118, q_l119, q_l120, q_l126, q_l132, q_l133, q_l135, q_l136, q_l138, q_l146, q_l147, q_l148, q_l149, q_l150, q_l151, q_l152, q_l153, q_l154, q_l155, q_l156, q_l157, q_l158, q_l214, q_l229, q_l244, q_l259, q_l300, q_l999, q_l1813, q_l2072, q_l10000, q_l65536, q_l1000000000, if_pos h1]
      · obtain ⟨k, k1, k2, rfl⟩ := q_gt (hv.resolve_left h1) (by omega)
        simp (disch := omega) only [q_seqr, q_seql, q_ig, q_ni, q_le, q_nle, q_lt, q_nlt, q_eq, q_ne, q_eqr, q_gbt, q_gbf, q_gbd, q_m1lt, q_m1ge, q_m1ne, q_m1eq, q_m1e, Option.bind_some, gLet, nI_add, pk_mul, q_sub, q_m1, q_div, q_modN, nI_clamp, if_true, if_false, Bool.false_eq_true, q_l0, q_l1, q_l2, q_l3, q_l4, q_l5, q_l6, q_l7, q_l8, q_l9, q_l10, q_l11, q_l12, q_l13, q_l14, q_l15, q_l16, q_l19, q_l20, q_l22, q_l24, q_l30, q_l32, q_l34, q_l36, q_l45, q_l47, q_l48, q_l57, q_l58, q_l59, q_l60, q_l61, q_l66, q_l75, q_l76, q_l94, q_l97, q_l99, q_l100, q_l101, q_l104, q_l105, q_l108, q_l109, q_l111, q_l114, q_l115, q_l116, q_l117, q_l118, q_l119, q_l120, q_l126, q_l132, q_l133, q_l135, q_l136, q_l138, q_l146, q_l147, q_l148, q_l149, q_l150, q_l151, q_l152, q_l153, q_l154, q_l155, q_l156, q_l157, q_l158, q_l214, q_l229, q_l244, q_l259, q_l300, q_l999, q_l1813, q_l2072, q_l10000, q_l65536, q_l1000000000]
    · unfold f_X7_passes
      simp (disch := omega) only [q_seqr, q_seql, q_ig, q_ni, q_le, q_nle, q_lt, q_nlt, q_eq, q_ne, q_eqr, q_gbt, q_gbf, q_gbd, q_m1lt, q_m1ge, q_m1ne, q_m1eq, q_m1e, Option.bind_some, gLet, nI_add, pk_mul, q_sub, q_m1, q_div, q_modN, nI_clamp, if_true, if_false, Bool.false_eq_true, q_l0, q_l1, q_l2, q_l3, q_l4, q_l5, q_l6, q_l7, q_l8, q_l9, q_l10, q_l11, q_l12, q_l13, q_l14, q_l15, q_l16, q_l19, q_l20, q_l22, q_l24, q_l30, q_l32, q_l34, q_l36, q_l45, q_l47, q_l48, q_l57, q_l58, q_l59, q_l60, q_l61, q_l66, q_l75, q_l76, q_l94, q_l97, q_l99, q_l100, q_l101, q_l104, q_l105, q_l108, q_l109, q_l111, q_l114, q_l115, q_l116, q_l117, q_l118, q_l119, q_l120, q_l126, q_l132, q_l133, q_l135, q_l136, q_l138, q_l146, q_l147, q_l148, q_l149, q_l150, q_l151, q_l152, q_l153, q_l154, q_l155, q_l156, q_l157, q_l158, q_l214, q_l229, q_l244, q_l259, q_l300, q_l999, q_l1813, q_l2072, q_l10000, q_l65536, q_l1000000000, m_done, m_fails, m_thrown, m_th, gs_same, q_gsgs, c_raise0, c_raise1, c_raise2, c_raise3, c_raise4, m_in_f hv]
end TQ
