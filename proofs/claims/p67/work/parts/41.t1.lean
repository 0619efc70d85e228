/-! pass -/
def lkN (r : Nat → Int32) (b : Nat) : Nat := (r (19 + b)).toNatClampNeg
def coN (r : Nat → Int32) (b : Nat) : Nat := if r (7 + b) = nI 1 ∧ duN r b < hrN r + 1 then ldN r b + 1 else 0
def csN (r : Nat → Int32) (k : Nat) : Nat := ((List.range k).map (coN r)).sum
/-- an hour's first k berths -/
def hpK (r : Nat → Int32) (k : Nat) : Nat → Int32 := fun j => if j = 0 then nI (hrN r + 1) else if j = 2 then r 2 + nI (csN r k) else if 19 ≤ j ∧ j < 19 + k then nI (lkN r (j - 19) - 1) else r j
def hpI (r : Nat → Int32) : Nat → Nat → Int32
  | 0 => r
  | n + 1 => hpK (hpI r n) 3
def coT (r : Nat → Int32) (n : Nat) : Nat := ((List.range n).map (fun i => csN (hpI r i) 3)).sum
theorem csN_succ (r : Nat → Int32) (k : Nat) : csN r (k + 1) = csN r k + coN r k := by
  unfold csN
  rw [List.range_succ, List.map_append, List.sum_append]
  simp
theorem coT_succ (r : Nat → Int32) (n : Nat) : coT r (n + 1) = coT r n + csN (hpI r n) 3 := by
  unfold coT
  rw [List.range_succ, List.map_append, List.sum_append]
  simp
section TP
variable {r : Nat → Int32} {β : Nat}
theorem lk_eq (w : gRow β r) {b : Nat} (hb : b < 3) : r (19 + b) = nI (lkN r b) ∧ lkN r b ≤ 2 := by
  obtain ⟨t, l, h1, h2, h3, h4⟩ := w.tl hb
  have : lkN r b = l := by unfold lkN; rw [h3]; exact nI_clamp (by omega)
  rw [this]
  exact ⟨h3, h4⟩
theorem hpK_0 (r : Nat → Int32) (k : Nat) : hpK r k 0 = nI (hrN r + 1) := rfl
theorem hpK_2 (r : Nat → Int32) (k : Nat) : hpK r k 2 = r 2 + nI (csN r k) := rfl
theorem hpK_o (r : Nat → Int32) (k : Nat) {j : Nat} (h0 : j ≠ 0) (h2 : j ≠ 2) (h : ¬ (19 ≤ j ∧ j < 19 + k)) : hpK r k j = r j := by unfold hpK; rw [if_neg h0, if_neg h2, if_neg h]
theorem hpK_l (r : Nat → Int32) (k : Nat) {b : Nat} (h : b < k) : hpK r k (19 + b) = nI (lkN r b - 1) := by
  unfold hpK
  rw [if_neg (by omega), if_neg (by omega), if_pos ⟨by omega, by omega⟩, show 19 + b - 19 = b by omega]
theorem hpK_row (w : gRow β r) (hβ : β ≤ 600) {k : Nat} (hk : k ≤ 3) (h : hrN r + 1 ≤ 100 * β) : gRow β (hpK r k) := by
  refine gRow_keep w (Nat.le_refl _) (fun j hj => hpK_o r k (by omega) (by omega) (by omega)) ⟨hrN r + 1, hpK_0 r k, h⟩ (fun b hb => ?_) (fun b hb => ?_)
  · rw [hpK_o r k (by omega) (by omega) (by omega), hpK_o r k (by omega) (by omega) (by omega), hpK_o r k (by omega) (by omega) (by omega)]
    exact w.b hb
  · obtain ⟨t, l, h1, h2, h3, h4⟩ := w.tl hb
    have hl := lk_eq w hb
    rw [hpK_o r k (j := 16 + b) (by omega) (by omega) (by omega)]
    by_cases hbk : b < k
    · rw [hpK_l r k hbk]
      exact ⟨t, lkN r b - 1, h1, h2, rfl, by omega⟩
    · rw [hpK_o r k (j := 19 + b) (by omega) (by omega) (by omega)]
      exact ⟨t, l, h1, h2, h3, h4⟩
theorem hpK_hr (w : gRow β r) (hβ : β ≤ 600) (k : Nat) : hrN (hpK r k) = hrN r + 1 := by
  have := (w.hrs hβ).2
  show (hpK r k 0).toNatClampNeg = _
  rw [hpK_0, nI_clamp (by omega)]
theorem ld_eq {r r' : Nat → Int32} (h : ∀ p, p < 12 → r' (22 + p) = r (22 + p)) {b : Nat} (hb : b < 3) : ldN r' b = ldN r b := by
  unfold ldN
  rw [hN_eq (h _ (by omega)), hN_eq (h _ (by omega)), hN_eq (h _ (by omega)), hN_eq (h _ (by omega))]
/-- the class's state within an hour: the locks of the first k berths are lower by one -/
def lkM (M : gM) (o : Nat) (r : Nat → Int32) (k : Nat) : gM := gw M (o + 11) (fun j => if j < k then nI (lkN r j - 1) else M (o + 11) j)
def qK (r : Nat → Int32) (k : Nat) : Nat → Int32 := upd (hpK r k) 2 (r 2)
theorem qK_row (w : gRow β r) (hβ : β ≤ 600) {k : Nat} (hk : k ≤ 3) (h : hrN r + 1 ≤ 100 * β) : gRow β (qK r k) := by
  have w1 := hpK_row w hβ hk h
  unfold qK
  refine gRow_keep w1 (Nat.le_refl _) (fun j hj => q_upn (by omega)) ?_ (fun b hb => ?_) (fun b hb => ?_)
  · rw [q_upn (by omega)]; exact w1.hr
  · rw [q_upn (by omega), q_upn (by omega), q_upn (by omega)]; exact w1.b hb
  · rw [q_upn (by omega), q_upn (by omega)]; exact w1.tl hb
theorem lkM_sim {M : gM} {o : Nat} (g : gSim M o r) (w : gRow β r) {k : Nat} (hk : k ≤ 3) : gSim (lkM (gs M o 5 (nI (hrN r + 1))) o r k) o (qK r k) := by
  have e : ∀ a, a ≠ o + 11 → lkM (gs M o 5 (nI (hrN r + 1))) o r k a = gs M o 5 (nI (hrN r + 1)) a := fun a ha => by unfold lkM; rw [gw_ne ha]
  have eq : ∀ j, j ≠ 0 → ¬ (19 ≤ j ∧ j < 19 + k) → qK r k j = r j := fun j h0 h => by
    unfold qK
    by_cases h2 : j = 2
    · rw [h2, q_ups rfl]
    · rw [q_upn h2, hpK_o r k h0 h2 h]
  refine gSim_keep g (fun a h1 h2 => by rw [e a (by omega), q_gsn (by omega)]) (fun j hj => eq j (by omega) (by omega)) ?_ (fun b hb => ?_) (fun b hb => ?_)
  · rw [e o (by omega), q_gss rfl, q_gsk (by omega), q_gsk (by omega), q_gsk (by omega), q_gsk (by omega), q_gsk (by omega), eq 2 (by omega) (by omega), eq 1 (by omega) (by omega), eq 3 (by omega) (by omega), eq 4 (by omega) (by omega), eq 5 (by omega) (by omega)]
    refine ⟨?_, g.1.2⟩
    unfold qK
    rw [q_upn (by omega), hpK_0]
  · rw [e (o + 8) (by omega), e (o + 9) (by omega), q_gsn (by omega), q_gsn (by omega), eq (7 + b) (by omega) (by omega), eq (10 + b) (by omega) (by omega), eq (13 + b) (by omega) (by omega)]
    exact g.2.1 b hb
  · rw [e (o + 10) (by omega), q_gsn (by omega), eq (16 + b) (by omega) (by omega)]
    refine ⟨(g.2.2.1 b hb).1, ?_⟩
    unfold lkM
    rw [gw_same]
    by_cases hbk : b < k
    · rw [if_pos hbk]
      unfold qK
      rw [q_upn (by omega), hpK_l r k hbk]
    · rw [if_neg hbk, q_gsn (by omega), eq (19 + b) (by omega) (by omega)]
      exact (g.2.2.1 b hb).2
theorem c_hourPass {M : gM} {o : Nat} (g : gSim M o r) (w : gRow β r) (hβ : β ≤ 600) (h : hrN r + 1 ≤ 100 * β) : ∃ M1, f_X5_letHourPass o M = some (nI (csN r 3), M1) ∧ gFr o M M1 ∧ gSim M1 o (hpK r 3) := by
  have hh := w.hrs hβ
  obtain ⟨M0, hM0⟩ : ∃ M0, M0 = gs M o 5 (nI (hrN r + 1)) := ⟨_, rfl⟩
  have sims : ∀ k, k ≤ 3 → gSim (lkM M0 o r k) o (qK r k) := fun k hk => by rw [hM0]; exact lkM_sim g w hk
  have fees : ∀ k, lkM M0 o r k o 6 = M o 6 := fun k => by unfold lkM; rw [gw_ne (by omega), hM0, q_gsk (by omega)]
  have key : ∀ d n k, k + d = 3 → d < n → f_X5_letHourPass_L14 o n (nI k) (nI (csN r k)) (lkM M0 o r k) = some (nI (csN r 3), gs (lkM M0 o r 3) o 6 (M o 6 + nI (csN r 3))) := by
    intro d
    induction d with
    | zero =>
      intro n k hk hn
      obtain ⟨m, rfl⟩ : ∃ m, n = m + 1 := ⟨n - 1, by omega⟩
      have hk : k = 3 := by omega
      subst hk
      rw [f_X5_letHourPass_L14]
      simp (disch := omega) only [q_seqr, q_seql, q_ig, q_ni, q_le, q_nle, q_lt, q_nlt, q_eq, q_ne, q_eqr, q_gbt, q_gbf, q_gbd, q_m1lt, q_m1ge, q_m1ne, q_m1eq, q_m1e, Option.bind_some, gLet, nI_add, pk_mul, q_sub, q_m1, q_div, q_modN, nI_clamp, if_true, if_false, Bool.false_eq_true, q_l0, q_l1, q_l2, q_l3, q_l4, q_l5, q_l6, q_l7, q_l8, q_l9, q_l10, q_l11, q_l12, q_l13, q_l14, q_l15, q_l16, q_l19, q_l20, q_l22, q_l24, q_l30, q_l32, q_l34, q_l36, q_l45, q_l47, q_l48, q_l57, q_l58, q_l59, q_l60, q_l61, q_l66, q_l75, q_l76, q_l94, q_l97, q_l99, q_l100, q_l101, q_l104, q_l105, q_l108, q_l109, q_l111, q_l114, q_l115, q_l116, q_l117, q_l118, q_l119, q_l120, q_l126, q_l132, q_l133, q_l135, q_l136, q_l138, q_l146, q_l147, q_l148, q_l149, q_l150, q_l151, q_l152, q_l153, q_l154, q_l155, q_l156, q_l157, q_l158, q_l214, q_l229, q_l244, q_l259, q_l300, q_l999, q_l1813, q_l2072, q_l10000, q_l65536, q_l1000000000, fees 3]
    | succ d ih =>
      intro n k hk hn
      obtain ⟨m, rfl⟩ : ∃ m, n = m + 1 := ⟨n - 1, by omega⟩
      have hb : k < 3 := by omega
      have hl := lk_eq w hb
      have l20 := ldN_le w hb
      have gk := sims (k + 1) (by omega)
      have wk := qK_row w hβ (k := k + 1) (by omega) h
      have e5 : lkM M0 o r (k + 1) o 5 = nI (hrN r + 1) := by unfold lkM; rw [gw_ne (by omega), hM0, q_gss rfl]
      have e9 : lkM M0 o r (k + 1) (o + 9) k = M (o + 9) k := by unfold lkM; rw [gw_ne (by omega), hM0, q_gsn (by omega)]
      have eq : ∀ j, j ≠ 0 → ¬ (19 ≤ j ∧ j < 19 + (k + 1)) → qK r (k + 1) j = r j := fun j h0 h => by
        unfold qK
        by_cases h2 : j = 2
        · rw [h2, q_ups rfl]
        · rw [q_upn h2, hpK_o r (k + 1) h0 h2 h]
      have ld : f_X0_loadOf o (nI k) (lkM M0 o r (k + 1)) = some (nI (ldN r k)) := by
        rw [c_loadOf gk wk hb, ld_eq (fun p hp => eq (22 + p) (by omega) (by omega)) hb]
      have rest : ∀ x : Int32, x ≤ 0 ∨ True → ((f_X5_hasShip o (nI k) (lkM M0 o r (k + 1))).bind fun r6 => (if (gb r6) = 0 then f_X5_letHourPass_L14 o m (nI k + 1) (nI (csN r k)) (lkM M0 o r (k + 1)) else if gin (nI k) 3 then (if (lkM M0 o r (k + 1) o 5) ≤ (lkM M0 o r (k + 1) (o + 9) (nI k).toNatClampNeg) then f_X5_letHourPass_L14 o m (nI k + 1) (nI (csN r k)) (lkM M0 o r (k + 1)) else (f_X0_loadOf o (nI k) (lkM M0 o r (k + 1))).bind fun r11 => gLet (nI (csN r k) + (r11 + 1)) fun z13 => f_X5_letHourPass_L14 o m (nI k + 1) z13 (lkM M0 o r (k + 1))) else none)) = some (nI (csN r 3), gs (lkM M0 o r 3) o 6 (M o 6 + nI (csN r 3))) := fun x _ => by
        have ih := ih m (k + 1) (by omega) (by omega)
        rw [csN_succ] at ih
        rcases sim_ship gk wk hb with ⟨h1, h2⟩ | ⟨h1, h2, h3, h4, -⟩
        · rw [eq (7 + k) (by omega) (by omega)] at h1
          have : coN r k = 0 := by
            unfold coN
            rw [h1, if_neg (fun q => absurd q.1 (by decide))]
          rw [this, Nat.add_zero] at ih
          simp (disch := omega) only [q_seqr, q_seql, q_ig, q_ni, q_le, q_nle, q_lt, q_nlt, q_eq, q_ne, q_eqr, q_gbt, q_gbf, q_gbd, q_m1lt, q_m1ge, q_m1ne, q_m1eq, q_m1e, Option.bind_some, gLet, nI_add, pk_mul, q_sub, q_m1, q_div, q_modN, nI_clamp, if_true, if_false, Bool.false_eq_true, q_l0, q_l1, q_l2, q_l3, q_l4, q_l5, q_l6, q_l7, q_l8, q_l9, q_l10, q_l11, q_l12, q_l13, q_l14, q_l15, q_l16, q_l19, q_l20, q_l22, q_l24, q_l30, q_l32, q_l34, q_l36, q_l45, q_l47, q_l48, q_l57, q_l58, q_l59, q_l60, q_l61, q_l66, q_l75, q_l76, q_l94, q_l97, q_l99, q_l100, q_l101, q_l104, q_l105, q_l108, q_l109, q_l111, q_l114, q_l115, q_l116, q_l117, q_l118, q_l119, q_l120, q_l126, q_l132, q_l133, q_l135, q_l136, q_l138, q_l146, q_l147, q_l148, q_l149, q_l150, q_l151, q_l152, q_l153, q_l154, q_l155, q_l156, q_l157, q_l158, q_l214, q_l229, q_l244, q_l259, q_l300, q_l999, q_l1813, q_l2072, q_l10000, q_l65536, q_l1000000000, h2]
          exact ih
        · rw [eq (7 + k) (by omega) (by omega)] at h1
          rw [eq (13 + k) (by omega) (by omega)] at h4
          have a := w.ship hβ hb h1
          rw [a.2.2.2.1] at h4
          by_cases hd : duN r k < hrN r + 1
          · have : coN r k = ldN r k + 1 := by
              unfold coN
              rw [if_pos ⟨h1, hd⟩]
            rw [this] at ih
            simp (disch := omega) only [q_seqr, q_seql, q_ig, q_ni, q_le, q_nle, q_lt, q_nlt, q_eq, q_ne, q_eqr, q_gbt, q_gbf, q_gbd, q_m1lt, q_m1ge, q_m1ne, q_m1eq, q_m1e, Option.bind_some, gLet, nI_add, pk_mul, q_sub, q_m1, q_div, q_modN, nI_clamp, if_true, if_false, Bool.false_eq_true, q_l0, q_l1, q_l2, q_l3, q_l4, q_l5, q_l6, q_l7, q_l8, q_l9, q_l10, q_l11, q_l12, q_l13, q_l14, q_l15, q_l16, q_l19, q_l20, q_l22, q_l24, q_l30, q_l32, q_l34, q_l36, q_l45, q_l47, q_l48, q_l57, q_l58, q_l59, q_l60, q_l61, q_l66, q_l75, q_l76, q_l94, q_l97, q_l99, q_l100, q_l101, q_l104, q_l105, q_l108, q_l109, q_l111, q_l114, q_l115, q_l116, q_l117, q_l118, q_l119, q_l120, q_l126, q_l132, q_l133, q_l135, q_l136, q_l138, q_l146, q_l147, q_l148, q_l149, q_l150, q_l151, q_l152, q_l153, q_l154, q_l155, q_l156, q_l157, q_l158, q_l214, q_l229, q_l244, q_l259, q_l300, q_l999, q_l1813, q_l2072, q_l10000, q_l65536, q_l1000000000, h2, e5, h4, ld]
            exact ih
          · have : coN r k = 0 := by
              unfold coN
              rw [if_neg (fun q => hd q.2)]
            rw [this, Nat.add_zero] at ih
            simp (disch := omega) only [q_seqr, q_seql, q_ig, q_ni, q_le, q_nle, q_lt, q_nlt, q_eq, q_ne, q_eqr, q_gbt, q_gbf, q_gbd, q_m1lt, q_m1ge, q_m1ne, q_m1eq, q_m1e, Option.bind_some, gLet, nI_add, pk_mul, q_sub, q_m1, q_div, q_modN, nI_clamp, if_true, if_false, Bool.false_eq_true, q_l0, q_l1, q_l2, q_l3, q_l4, q_l5, q_l6, q_l7, q_l8, q_l9, q_l10, q_l11, q_l12, q_l13, q_l14, q_l15, q_l16, q_l19, q_l20, q_l22, q_l24, q_l30, q_l32, q_l34, q_l36, q_l45, q_l47, q_l48, q_l57, q_l58, q_l59, q_l60, q_l61, q_l66, q_l75, q_l76, q_l94, q_l97, q_l99, q_l100, q_l101, q_l104, q_l105, q_l108, q_l109, q_l111, q_l114, q_l115, q_l116, q_l117, q_l118, q_l119, q_l120, q_l126, q_l132, q_l133, q_l135, q_l136, q_l138, q_l146, q_l147, q_l148, q_l149, q_l150, q_l151, q_l152, q_l153, q_l154, q_l155, q_l156, q_l157, q_l158, q_l214, q_l229, q_l244, q_l259, q_l300, q_l999, q_l1813, q_l2072, q_l10000, q_l65536, q_l1000000000, h2, e5, h4]
            exact ih
      by_cases l0 : lkN r k = 0
      · have es : lkM M0 o r k = lkM M0 o r (k + 1) := by
          unfold lkM
          congr 1
          funext j
          by_cases h1 : j < k
          · rw [if_pos h1, if_pos (by omega)]
          · by_cases h2 : j < k + 1
            · rw [if_neg h1, if_pos h2]
              have : j = k := by omega
              subst this
              rw [l0, hM0, q_gsn (by omega), (g.2.2.1 j hb).2, hl.1, l0]
            · rw [if_neg h1, if_neg h2]
        have el : lkM M0 o r (k + 1) (o + 11) k = nI 0 := by
          unfold lkM
          rw [gw_same, if_pos (by omega), l0]
        rw [es, f_X5_letHourPass_L14, ← rest 0 (Or.inr trivial)]
        simp (disch := omega) only [q_seqr, q_seql, q_ig, q_ni, q_le, q_nle, q_lt, q_nlt, q_eq, q_ne, q_eqr, q_gbt, q_gbf, q_gbd, q_m1lt, q_m1ge, q_m1ne, q_m1eq, q_m1e, Option.bind_some, gLet, nI_add, pk_mul, q_sub, q_m1, q_div, q_modN, nI_clamp, if_true, if_false, Bool.false_eq_true, q_l0, q_l1, q_l2, q_l3, q_l4, q_l5, q_l6, q_l7, q_l8, q_l9, q_l10, q_l11, q_l12, q_l13, q_l14, q_l15, q_l16, q_l19, q_l20, q_l22, q_l24, q_l30, q_l32, q_l34, q_l36, q_l45, q_l47, q_l48, q_l57, q_l58, q_l59, q_l60, q_l61, q_l66, q_l75, q_l76, q_l94, q_l97, q_l99, q_l100, q_l101, q_l104, q_l105, q_l108, q_l109, q_l111, q_l114, q_l115, q_l116, q_l117, q_l118, q_l119, q_l120, q_l126, q_l132, q_l133, q_l135, q_l136, q_l138, q_l146, q_l147, q_l148, q_l149, q_l150, q_l151, q_l152, q_l153, q_l154, q_l155, q_l156, q_l157, q_l158, q_l214, q_l229, q_l244, q_l259, q_l300, q_l999, q_l1813, q_l2072, q_l10000, q_l65536, q_l1000000000, el]
      · have el : lkM M0 o r k (o + 11) k = nI (lkN r k) := by
          unfold lkM
          rw [gw_same, if_neg (by omega), hM0, q_gsn (by omega), (g.2.2.1 k hb).2, hl.1]
        have es : gs (lkM M0 o r k) (o + 11) k (nI (lkN r k - 1)) = lkM M0 o r (k + 1) := by
          unfold lkM
          show gw _ (o + 11) _ = _
          rw [gw_gw, gw_same]
          congr 1
          funext j
          by_cases h1 : j = k
          · rw [q_ups h1, if_pos (by omega), h1]
          · rw [q_upn h1]
            by_cases h2 : j < k
            · rw [if_pos h2, if_pos (by omega)]
            · rw [if_neg h2, if_neg (by omega)]
        rw [f_X5_letHourPass_L14, ← rest 0 (Or.inr trivial)]
        simp (disch := omega) only [q_seqr, q_seql, q_ig, q_ni, q_le, q_nle, q_lt, q_nlt, q_eq, q_ne, q_eqr, q_gbt, q_gbf, q_gbd, q_m1lt, q_m1ge, q_m1ne, q_m1eq, q_m1e, Option.bind_some, gLet, nI_add, pk_mul, q_sub, q_m1, q_div, q_modN, nI_clamp, if_true, if_false, Bool.false_eq_true, q_l0, q_l1, q_l2, q_l3, q_l4, q_l5, q_l6, q_l7, q_l8, q_l9, q_l10, q_l11, q_l12, q_l13, q_l14, q_l15, q_l16, q_l19, q_l20, q_l22, q_l24, q_l30, q_l32, q_l34, q_l36, q_l45, q_l47, q_l48, q_l57, q_l58, q_l59, q_l60, q_l61, q_l66, q_l75, q_l76, q_l94, q_l97, q_l99, q_l100, q_l101, q_l104, q_l105, q_l108, q_l109, q_l111, q_l114, q_l115, q_l116, q_l117, q_l118, q_l119, q_l120, q_l126, q_l132, q_l133, q_l135, q_l136, q_l138, q_l146, q_l147, q_l148, q_l149, q_l150, q_l151, q_l152, q_l153, q_l154, q_l155, q_l156, q_l157, q_l158, q_l214, q_l229, q_l244, q_l259, q_l300, q_l999, q_l1813, q_l2072, q_l10000, q_l65536, q_l1000000000, el, es]
  refine ⟨gs (lkM M0 o r 3) o 6 (M o 6 + nI (csN r 3)), ?_, ?_, ?_⟩
  · have k0 := key 3 gF 0 rfl (by unfold gF; omega)
    have e0 : lkM M0 o r 0 = M0 := by
      unfold lkM
      have : (fun j => if j < 0 then nI (lkN r j - 1) else M0 (o + 11) j) = M0 (o + 11) := by
        funext j
        rw [if_neg (by omega)]
      rw [this, gw_id]
    rw [e0, hM0] at k0
    unfold f_X5_letHourPass
    rw [q_gLet, g.1.1, hh.1, show nI (hrN r) + 1 = nI (hrN r + 1) from nI_add _ 1]
    rw [hM0]
    exact k0
  · intro a ha
    rw [q_gsn (by omega)]
    unfold lkM
    rw [gw_ne (by omega), hM0, q_gsn (by omega)]
  · have g3 := sims 3 (Nat.le_refl _)
    have eq : ∀ j, j ≠ 2 → hpK r 3 j = qK r 3 j := fun j hj => by unfold qK; rw [q_upn hj]
    refine gSim_keep g3 (fun a h1 h2 => q_gsn (by omega)) (fun j hj => eq j (by omega)) ?_ (fun b hb => ?_) (fun b hb => ?_)
    · rw [q_gsk (by omega), q_gss rfl, q_gsk (by omega), q_gsk (by omega), q_gsk (by omega), q_gsk (by omega), eq 0 (by omega), eq 1 (by omega), eq 3 (by omega), eq 4 (by omega), eq 5 (by omega), hpK_2, g.1.2.1]
      exact ⟨g3.1.1, rfl, g3.1.2.2⟩
    · rw [q_gsn (by omega), q_gsn (by omega), eq (7 + b) (by omega), eq (10 + b) (by omega), eq (13 + b) (by omega)]
      exact g3.2.1 b hb
    · rw [q_gsn (by omega), q_gsn (by omega), eq (16 + b) (by omega), eq (19 + b) (by omega)]
      exact g3.2.2.1 b hb
end TP
