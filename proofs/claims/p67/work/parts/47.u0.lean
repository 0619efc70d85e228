/-! Copies: a state of the class's, a row of the reference's; the history. -/
theorem cpy_in {f g : Nat → Int32} {n j : Nat} (h : j < n) : va_cpy f g 0 0 n j = f j := by
  unfold va_cpy
  rw [if_pos ⟨Nat.zero_le _, by omega⟩, Nat.zero_add, Nat.sub_zero]
def cpA (M : gM) (d s a n : Nat) : gM := gw M (d + a) (va_cpy (M (s + a)) (M (d + a)) 0 0 n)
def cpF (M : gM) (d s i : Nat) : gM := gs M d i (M s i)
theorem cpA_o {M : gM} {d s a n b : Nat} (h : b ≠ d + a) : cpA M d s a n b = M b := by unfold cpA; rw [gw_ne h]
theorem cpA_s {M : gM} {d s a n j : Nat} (h : j < n) : cpA M d s a n (d + a) j = M (s + a) j := by unfold cpA; rw [gw_same, cpy_in h]
theorem cpF_o {M : gM} {d s i b : Nat} (h : b ≠ d) : cpF M d s i b = M b := by unfold cpF; rw [q_gsn h]
theorem cpF_s {M : gM} {d s i : Nat} : cpF M d s i d i = M s i := by unfold cpF; rw [q_gss rfl]
theorem cpF_k {M : gM} {d s i j : Nat} (h : j ≠ i) : cpF M d s i d j = M d j := by unfold cpF; rw [q_gsk h]
def cpM (M : gM) (d s : Nat) : gM := cpF (cpF (cpF (cpF (cpF (cpF (cpA (cpA (cpA (cpA (cpF (cpA (cpA (cpA (cpA (cpA M d s 2 75) d s 3 75) d s 4 75) d s 5 75) d s 6 75) (d + 1) (s + 1) 6) d s 8 3) d s 9 3) d s 10 3) d s 11 3) d s 5) d s 6) d s 7) d s 8) d s 9) d s 10
theorem c_copyFrom (d s : Nat) (M : gM) : f_X5_copyFrom d s M = some (cpM M d s) := rfl
theorem cpM_fr {M : gM} {d s a : Nat} (h : a < d ∨ d + 12 ≤ a ∨ a = d + 7) : cpM M d s a = M a := by
  unfold cpM
  simp (disch := omega) only [cpF_o, cpA_o]
theorem cpM_r {M : gM} {d s : Nat} (h : d + 12 ≤ s ∨ s + 12 ≤ d) {j : Nat} (hj : j < 75) : cpM M d s (d + 2) j = M (s + 2) j ∧ cpM M d s (d + 3) j = M (s + 3) j ∧ cpM M d s (d + 4) j = M (s + 4) j ∧ cpM M d s (d + 5) j = M (s + 5) j ∧ cpM M d s (d + 6) j = M (s + 6) j := by
  unfold cpM
  simp (disch := omega) only [cpF_o, cpA_o, cpA_s, and_self]
theorem cpM_c {M : gM} {d s : Nat} (h : d + 12 ≤ s ∨ s + 12 ≤ d) : cpM M d s (d + 1) 6 = M (s + 1) 6 := by
  unfold cpM
  simp (disch := omega) only [cpF_o, cpA_o, cpF_s]
theorem cpM_b {M : gM} {d s : Nat} (h : d + 12 ≤ s ∨ s + 12 ≤ d) {j : Nat} (hj : j < 3) : cpM M d s (d + 8) j = M (s + 8) j ∧ cpM M d s (d + 9) j = M (s + 9) j ∧ cpM M d s (d + 10) j = M (s + 10) j ∧ cpM M d s (d + 11) j = M (s + 11) j := by
  unfold cpM
  simp (disch := omega) only [cpF_o, cpA_o, cpA_s, and_self]
theorem cpM_f {M : gM} {d s : Nat} (h : d + 12 ≤ s ∨ s + 12 ≤ d) : cpM M d s d 5 = M s 5 ∧ cpM M d s d 6 = M s 6 ∧ cpM M d s d 7 = M s 7 ∧ cpM M d s d 8 = M s 8 ∧ cpM M d s d 9 = M s 9 ∧ cpM M d s d 10 = M s 10 := by
  unfold cpM
  simp (disch := omega) only [cpF_o, cpA_o, cpF_s, cpF_k, and_self]
theorem cpM_sim {M : gM} {d s : Nat} {r : Nat → Int32} (h : d + 12 ≤ s ∨ s + 12 ≤ d) (g : gSim M s r) : gSim (cpM M d s) d r := by
  obtain ⟨g1, g2, g3, c, hc, h75, hP, hp⟩ := g
  have er : tRows (cpM M d s) d c = tRows M s c := by
    unfold tRows
    apply List.map_congr_left
    intro j hj
    have hj := List.mem_range.mp hj
    obtain ⟨a2, a3, a4, a5, a6⟩ := cpM_r (M := M) h (show j < 75 by omega)
    unfold tRow
    rw [a2, a3, a4, a5, a6]
  obtain ⟨f5, f6, f7, f8, f9, f10⟩ := cpM_f (M := M) h
  refine ⟨?_, fun b hb => ?_, fun b hb => ?_, c, ?_, h75, ?_, ?_⟩
  · rw [f5, f6, f7, f8, f9, f10]; exact g1
  · obtain ⟨a8, a9, a10, a11⟩ := cpM_b (M := M) h hb
    rw [a8, a9]; exact g2 b hb
  · obtain ⟨a8, a9, a10, a11⟩ := cpM_b (M := M) h hb
    rw [a10, a11]; exact g3 b hb
  · rw [cpM_c h]; exact hc
  · rw [er]; exact hP
  · rw [er]; exact hp
/-! rows that agree where a row is read -/
def rEq (r r' : Nat → Int32) : Prop := ∀ q, q < 259 → r' q = r q
theorem rEq.all {r r' : Nat → Int32} (h : rEq r r') (hy : yN r ≤ 15) (h6 : r' 6 = r 6 := by assumption) : tAll r' = tAll r := by
  have e1 : tShip r' = tShip r := by
    unfold tShip
    have f : (List.range 60).filter (fullB r') = (List.range 60).filter (fullB r) := List.filter_congr (fun c hc => by
      have hc := List.mem_range.mp hc
      unfold fullB
      rw [hN_eq (h _ (by omega))])
    rw [f]
    apply List.map_congr_left
    intro c hc
    have hc := List.mem_range.mp (List.mem_filter.mp hc).1
    unfold tCell
    rw [h _ (by omega), h _ (by omega), h _ (by omega)]
  have e2 : tYard r' = tYard r := by
    unfold tYard
    have : yN r' = yN r := by unfold yN; rw [h6]
    rw [this]
    apply List.map_congr_left
    intro l hl
    have hl := List.mem_range.mp hl
    unfold tYd
    rw [h _ (by omega), h _ (by omega), h _ (by omega)]
  unfold tAll
  rw [e1, e2]
theorem gRow.ext {β : Nat} {r r' : Nat → Int32} (w : gRow β r) (h : rEq r r') : gRow β r' := by
  have h6 := h 6 (by omega)
  have ea := h.all w.y.2
  have en : nxN r' = nxN r := by unfold nxN; rw [h 1 (by omega)]
  have ey : yN r' = yN r := by unfold yN; rw [h6]
  refine ⟨by rw [h 0 (by omega)]; exact w.hr, by rw [h 1 (by omega), en]; exact w.nx, fun p hp => ?_, by rw [h6, ey]; exact w.y, fun b hb => ?_, fun b hb => ?_, fun t ht => ?_, ?_⟩
  · rw [h (22 + p) (by omega), hN_eq (h (22 + p) (by omega))]; exact w.h hp
  · rw [h (7 + b) (by omega), h (10 + b) (by omega), h (13 + b) (by omega)]; exact w.b hb
  · rw [h (16 + b) (by omega), h (19 + b) (by omega)]; exact w.tl hb
  · rw [ea] at ht; rw [en]; exact w.t ht
  · rw [h 4 (by omega), en, ea]; exact w.dl
theorem gSim.ext {M : gM} {o β : Nat} {r r' : Nat → Int32} (g : gSim M o r) (w : gRow β r) (h : rEq r r') : gSim M o r' := by
  have h6 := h 6 (by omega)
  have ea := h.all w.y.2
  obtain ⟨g1, g2, g3, c, hc, h75, hP, hp⟩ := g
  refine ⟨by rw [h 0 (by omega), h 1 (by omega), h 2 (by omega), h 3 (by omega), h 4 (by omega), h 5 (by omega)]; exact g1, fun b hb => ?_, fun b hb => ?_, c, hc, h75, by rw [ea]; exact hP, hp⟩
  · rw [h (7 + b) (by omega), h (10 + b) (by omega), h (13 + b) (by omega)]; exact g2 b hb
  · rw [h (16 + b) (by omega), h (19 + b) (by omega)]; exact g3 b hb
theorem gSim.frm {M M' : gM} {o : Nat} {r : Nat → Int32} (g : gSim M o r) (h : ∀ a, o ≤ a → a < o + 12 → a ≠ o + 7 → M' a = M a) : gSim M' o r := g.frame h
/-! the reference's copy -/
def cpR (f g : Nat → Int32) (A B n : Nat) : Nat → Int32 := fun j => if B ≤ j ∧ j < B + n then f (A + (j - B)) else g j
theorem cpR_in {f g : Nat → Int32} {A B n j : Nat} (h : j < n) : cpR f g A B n (B + j) = f (A + j) := by
  unfold cpR
  rw [if_pos (by omega), Nat.add_sub_cancel_left]
theorem cpR_out {f g : Nat → Int32} {A B n j : Nat} (h : j < B ∨ B + n ≤ j) : cpR f g A B n j = g j := if_neg (by omega)
theorem m_copy {M : gM} {a b na nb A B : Nat} (hab : a ≠ b) (hA : A + 259 ≤ na) (hB : B + 259 ≤ nb) (hna : na < 2 ^ 31) (hnb : nb < 2 ^ 31) : f_X7_copy a na b nb (nI A) (nI B) M = some (gw M b (cpR (M a) (M b) A B 259)) := by
  have key : ∀ d n k, k + d = 259 → d < n → f_X7_copy_L3 a na b nb (nI A) (nI B) n (nI k) (gw M b (cpR (M a) (M b) A B k)) = some (gw M b (cpR (M a) (M b) A B 259)) := by
    intro d
    induction d with
    | zero =>
      intro n k hk hn
      obtain ⟨m, rfl⟩ : ∃ m, n = m + 1 := ⟨n - 1, by omega⟩
      have hk : k = 259 := by omega
      subst hk
      rw [f_X7_copy_L3, q_l259, if_pos (nI_le (by omega) (by omega))]
    | succ d ih =>
      intro n k hk hn
      obtain ⟨m, rfl⟩ : ∃ m, n = m + 1 := ⟨n - 1, by omega⟩
      have ih := ih m (k + 1) (by omega) (by omega)
      have es : gs (gw M b (cpR (M a) (M b) A B k)) b (B + k) (M a (A + k)) = gw M b (cpR (M a) (M b) A B (k + 1)) := by
        show gw _ b _ = _
        rw [gw_gw, gw_same]
        congr 1
        funext j
        by_cases hj : j = B + k
        · rw [q_ups hj, hj, cpR_in (by omega)]
        · rw [q_upn hj]
          unfold cpR
          by_cases h : B ≤ j ∧ j < B + k
          · rw [if_pos h, if_pos (by omega)]
          · rw [if_neg h, if_neg (by omega)]
      have ea : gw M b (cpR (M a) (M b) A B k) a = M a := gw_ne hab
      rw [f_X7_copy_L3, q_l259, if_neg (nI_ge (show k < 259 by omega) (by omega))]
      simp (disch := omega) only [↓reduceIte, eq_self, Bool.true_eq_false, Bool.false_eq_true, q_seqr, q_seql, v_ig, v_ni, v_le, v_nle, v_lt, v_nlt, v_eq, v_ne, v_gbt, v_gbf, v_gbd, v_m1lt, v_m1ge, v_m1ne, v_m1e, ↓q_bindD, ↓q_gLet, Option.isSome_some, Option.getD_some, nI_add, pk_mul, q_sub, q_m1, q_div, q_modN, nI_clamp, if_true, if_false, q_l0, q_l1, q_l2, q_l3, q_l4, q_l5, q_l6, q_l7, q_l8, q_l9, q_l10, q_l11, q_l12, q_l13, q_l14, q_l15, q_l16, q_l19, q_l20, q_l22, q_l24, q_l30, q_l32, q_l34, q_l36, q_l45, q_l47, q_l48, q_l57, q_l58, q_l59, q_l60, q_l61, q_l66, q_l75, q_l76, q_l94, q_l97, q_l99, q_l100, q_l101, q_l104, q_l105, q_l108, q_l109, q_l111, q_l114, q_l115, q_l116, q_l117, q_l118, q_l119, q_l120, q_l126, q_l132, q_l133, q_l135, q_l136, q_l138, q_l146, q_l147, q_l148, q_l149, q_l150, q_l151, q_l152, q_l153, q_l154, q_l155, q_l156, q_l157, q_l158, q_l214, q_l229, q_l244, q_l259, q_l300, q_l999, q_l1813, q_l2072, q_l10000, q_l65536, q_l1000000000, ea, es]
      exact ih
  have k0 := key 259 gF 0 rfl (by unfold gF; omega)
  have e0 : cpR (M a) (M b) A B 0 = M b := by
    funext j
    exact cpR_out (by omega)
  rw [e0, gw_id] at k0
  exact k0
