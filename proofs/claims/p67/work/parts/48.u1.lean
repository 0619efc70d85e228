/-! The tie of the two sides, with what is saved and the history; a direct change. -/
def hRow (M : gM) (i : Nat) : Nat → Int32 := fun q => M 154 (259 * i + q)
def gTie (β : Nat) (M : gM) : Prop :=
  gSim M 0 (M 151) ∧ gRow β (M 151) ∧
  ((M 132 3 = nI 0 ∧ M 150 6 = nI 0) ∨ (M 132 3 = nI 1 ∧ M 150 6 = nI 1 ∧ gSim M 24 (M 155) ∧ gRow β (M 155))) ∧
  ∃ n x, n ≤ 8 ∧ x < 8 ∧ M 133 2 = nI n ∧ M 150 4 = nI n ∧ M 133 1 = nI x ∧ ∀ i, i < n → gSim M (36 + 12 * ((x + 8 - n + i) % 8)) (hRow M i) ∧ gRow β (hRow M i)
def gKeep (M M2 : gM) : Prop := (∀ a, 134 ≤ a → a < 150 → M2 a = M a) ∧ (∀ a, 156 ≤ a → M2 a = M a) ∧ (∀ k, k ≠ 4 → k ≠ 6 → k ≠ 13 → M2 150 k = M 150 k) ∧ (∀ k, k ≠ 3 → M2 132 k = M 132 k)
theorem gTie.up {β β' : Nat} {M : gM} (t : gTie β M) (h : β ≤ β') : gTie β' M := by
  obtain ⟨g, w, s, n, x, h1, h2, h3, h4, h5, h6⟩ := t
  refine ⟨g, w.up h, ?_, n, x, h1, h2, h3, h4, h5, fun i hi => ⟨(h6 i hi).1, (h6 i hi).2.up h⟩⟩
  rcases s with s | ⟨s1, s2, s3, s4⟩
  · exact Or.inl s
  · exact Or.inr ⟨s1, s2, s3, s4.up h⟩
/-- what the tie reads -/
def gFrT (M M2 : gM) : Prop := (∀ a, a < 132 → a ≠ 7 → ¬ (12 ≤ a ∧ a < 24) → M2 a = M a) ∧ M2 132 3 = M 132 3 ∧ M2 133 1 = M 133 1 ∧ M2 133 2 = M 133 2 ∧ M2 150 4 = M 150 4 ∧ M2 150 6 = M 150 6 ∧ M2 151 = M 151 ∧ M2 154 = M 154 ∧ M2 155 = M 155
theorem gTie.fr {β : Nat} {M M2 : gM} (t : gTie β M) (f : gFrT M M2) : gTie β M2 := by
  obtain ⟨f1, f2, f3, f4, f5, f6, f7, f8, f9⟩ := f
  obtain ⟨g, w, s, n, x, h1, h2, h3, h4, h5, h6⟩ := t
  refine ⟨by rw [f7]; exact g.frm (fun a ha hb hc => f1 a (by omega) (by omega) (by omega)), by rw [f7]; exact w, ?_, n, x, h1, h2, by rw [f4]; exact h3, by rw [f5]; exact h4, by rw [f3]; exact h5, fun i hi => ?_⟩
  · rcases s with ⟨s1, s2⟩ | ⟨s1, s2, s3, s4⟩
    · exact Or.inl ⟨by rw [f2]; exact s1, by rw [f6]; exact s2⟩
    · exact Or.inr ⟨by rw [f2]; exact s1, by rw [f6]; exact s2, by rw [f9]; exact s3.frm (fun a ha hb hc => f1 a (by omega) (by omega) (by omega)), by rw [f9]; exact s4⟩
  · have e : hRow M2 i = hRow M i := by unfold hRow; rw [f8]
    rw [e]
    refine ⟨(h6 i hi).1.frm (fun a ha hb hc => f1 a (by omega) (by omega) (by omega)), (h6 i hi).2⟩
theorem gKeep.rf {M : gM} : gKeep M M := ⟨fun _ _ _ => rfl, fun _ _ => rfl, fun _ _ _ _ => rfl, fun _ _ => rfl⟩
theorem gKeep.tr {M M1 M2 : gM} (h : gKeep M M1) (h2 : gKeep M1 M2) : gKeep M M2 :=
  ⟨fun a p q => (h2.1 a p q).trans (h.1 a p q), fun a p => (h2.2.1 a p).trans (h.2.1 a p), fun k p q s => (h2.2.2.1 k p q s).trans (h.2.2.1 k p q s), fun k p => (h2.2.2.2 k p).trans (h.2.2.2 k p)⟩
/-! the class's history -/
theorem c_push {M : gM} {s n x : Nat} (hn : M 133 2 = nI n) (hx : M 133 1 = nI x) (hn8 : n ≤ 8) (hx8 : x < 8) (hs : s < 36) :
    f_X1_push s M = some (gs (gs (cpM M (36 + 12 * x) s) 133 1 (nI ((x + 1) % 8))) 133 2 (nI (min (n + 1) 8))) := by
  have e1 : cpM M (36 + 12 * x) s 133 1 = nI x := by rw [cpM_fr (by omega)]; exact hx
  have e2 : cpM M (36 + 12 * x) s 133 2 = nI n := by rw [cpM_fr (by omega)]; exact hn
  have hm : x + 1 - (x + 1) / 8 * 8 = (x + 1) % 8 := q_modN _ _
  unfold f_X1_push
  by_cases h : n = 8
  · have : min (n + 1) 8 = n := by omega
    rw [this]
    have e3 : gs (gs (cpM M (36 + 12 * x) s) 133 1 (nI ((x + 1) % 8))) 133 2 (nI n) = gs (cpM M (36 + 12 * x) s) 133 1 (nI ((x + 1) % 8)) := by
      rw [← e2]
      funext a k
      by_cases ha : a = 133
      · subst ha
        by_cases hk : k = 2
        · subst hk; rw [q_gss rfl, q_gsk (by omega)]
        · rw [q_gsk hk]
      · rw [q_gsn ha]
    rw [e3]
    simp (disch := omega) only [↓reduceIte, eq_self, Bool.true_eq_false, Bool.false_eq_true, q_seqr, q_seql, v_ig, v_ni, v_le, v_nle, v_lt, v_nlt, v_eq, v_ne, v_gbt, v_gbf, v_gbd, v_m1lt, v_m1ge, v_m1ne, v_m1e, ↓q_bindD, ↓q_gLet, Option.isSome_some, Option.getD_some, nI_add, pk_mul, q_sub, q_m1, q_div, q_modN, nI_clamp, if_true, if_false, q_l0, q_l1, q_l2, q_l3, q_l4, q_l5, q_l6, q_l7, q_l8, q_l9, q_l10, q_l11, q_l12, q_l13, q_l14, q_l15, q_l16, q_l19, q_l20, q_l22, q_l24, q_l30, q_l32, q_l34, q_l36, q_l45, q_l47, q_l48, q_l57, q_l58, q_l59, q_l60, q_l61, q_l66, q_l75, q_l76, q_l94, q_l97, q_l99, q_l100, q_l101, q_l104, q_l105, q_l108, q_l109, q_l111, q_l114, q_l115, q_l116, q_l117, q_l118, q_l119, q_l120, q_l126, q_l132, q_l133, q_l135, q_l136, q_l138, q_l146, q_l147, q_l148, q_l149, q_l150, q_l151, q_l152, q_l153, q_l154, q_l155, q_l156, q_l157, q_l158, q_l214, q_l229, q_l244, q_l259, q_l300, q_l999, q_l1813, q_l2072, q_l10000, q_l65536, q_l1000000000, hx, c_copyFrom, e1, e2, q_gss, q_gsk, h]
  · have : min (n + 1) 8 = n + 1 := by omega
    rw [this]
    simp (disch := omega) only [↓reduceIte, eq_self, Bool.true_eq_false, Bool.false_eq_true, q_seqr, q_seql, v_ig, v_ni, v_le, v_nle, v_lt, v_nlt, v_eq, v_ne, v_gbt, v_gbf, v_gbd, v_m1lt, v_m1ge, v_m1ne, v_m1e, ↓q_bindD, ↓q_gLet, Option.isSome_some, Option.getD_some, nI_add, pk_mul, q_sub, q_m1, q_div, q_modN, nI_clamp, if_true, if_false, q_l0, q_l1, q_l2, q_l3, q_l4, q_l5, q_l6, q_l7, q_l8, q_l9, q_l10, q_l11, q_l12, q_l13, q_l14, q_l15, q_l16, q_l19, q_l20, q_l22, q_l24, q_l30, q_l32, q_l34, q_l36, q_l45, q_l47, q_l48, q_l57, q_l58, q_l59, q_l60, q_l61, q_l66, q_l75, q_l76, q_l94, q_l97, q_l99, q_l100, q_l101, q_l104, q_l105, q_l108, q_l109, q_l111, q_l114, q_l115, q_l116, q_l117, q_l118, q_l119, q_l120, q_l126, q_l132, q_l133, q_l135, q_l136, q_l138, q_l146, q_l147, q_l148, q_l149, q_l150, q_l151, q_l152, q_l153, q_l154, q_l155, q_l156, q_l157, q_l158, q_l214, q_l229, q_l244, q_l259, q_l300, q_l999, q_l1813, q_l2072, q_l10000, q_l65536, q_l1000000000, hx, c_copyFrom, e1, e2, q_gss, q_gsk]
theorem push_o {M : gM} {s x a : Nat} {u v : Int32} (h : a < 36 + 12 * x ∨ 36 + 12 * x + 12 ≤ a) (h3 : a ≠ 133) : gs (gs (cpM M (36 + 12 * x) s) 133 1 u) 133 2 v a = M a := by
  rw [q_gsn h3, q_gsn h3, cpM_fr (by omega)]
theorem push_sim {M : gM} {s x : Nat} {u v : Int32} {r : Nat → Int32} (hs : s < 25) (hx : x < 8) (g : gSim M s r) : gSim (gs (gs (cpM M (36 + 12 * x) s) 133 1 u) 133 2 v) (36 + 12 * x) r :=
  (cpM_sim (by omega) g).frm (fun a h1 h2 h3 => by rw [q_gsn (by omega), q_gsn (by omega)])
/-! the reference's history -/
theorem m_begin (M : gM) : f_X7_begin M = some (gw M 152 (cpR (M 151) (M 152) 0 0 259)) := by
  unfold f_X7_begin
  rw [show (0 : Int32) = nI 0 from rfl, m_copy (by omega) (by omega) (by omega) (by omega) (by omega), Option.bind_some]
theorem m_kept1 {M : gM} {v : Int32} {z : Nat} (h : M 150 13 = nI z) (hz : 0 < z) (hz2 : z < 2 ^ 31) : f_X7_kept v M = some (nI 0, gw M 151 (cpR (M 152) (M 151) 0 0 259)) := by
  have hne : ¬ nI z = nI 0 := fun q => by have := (nI_eq (by omega) (by omega)).mp q; omega
  unfold f_X7_kept
  rw [show (0 : Int32) = nI 0 from rfl, h, if_neg hne, m_copy (by omega) (by omega) (by omega) (by omega) (by omega), Option.bind_some]
def shH (M : gM) (k : Nat) : gM := gw M 154 (fun j => if j < k then M 154 (j + 259) else M 154 j)
theorem m_keptL {M : gM} {v : Int32} (h4 : M 150 4 = nI 8) : ∀ d n k, k + d = 1813 → d < n → f_X7_kept_L33 v n (nI k) (shH M k) = some (v, gs (gw (shH M 1813) 154 (cpR (M 152) (shH M 1813 154) 0 1813 259)) 150 4 (nI 8)) := by
  intro d
  induction d with
  | zero =>
    intro n k hk hn
    obtain ⟨m, rfl⟩ : ∃ m, n = m + 1 := ⟨n - 1, by omega⟩
    have hk : k = 1813 := by omega
    subst hk
    have e4 : shH M 1813 150 4 = nI 8 := by unfold shH; rw [gw_ne (by omega)]; exact h4
    have e152 : gs (shH M 1813) 150 4 (nI 7) 152 = M 152 := by rw [q_gsn (by omega)]; unfold shH; rw [gw_ne (by omega)]
    have e154 : gs (shH M 1813) 150 4 (nI 7) 154 = shH M 1813 154 := by rw [q_gsn (by omega)]
    have cp := m_copy (M := gs (shH M 1813) 150 4 (nI 7)) (a := 152) (b := 154) (na := 259) (nb := 2072) (A := 0) (B := 1813) (by omega) (by omega) (by omega) (by omega) (by omega)
    rw [e152, e154] at cp
    have ef : gs (gw (gs (shH M 1813) 150 4 (nI 7)) 154 (cpR (M 152) (shH M 1813 154) 0 1813 259)) 150 4 (nI 8) = gs (gw (shH M 1813) 154 (cpR (M 152) (shH M 1813 154) 0 1813 259)) 150 4 (nI 8) := by
      funext a j
      by_cases ha : a = 150
      · subst ha
        by_cases hj : j = 4
        · rw [q_gss hj, q_gss hj]
        · rw [q_gsk hj, q_gsk hj, gw_ne (by omega), gw_ne (by omega), q_gsk hj]
      · rw [q_gsn ha, q_gsn ha]
        by_cases h5 : a = 154
        · subst h5; rw [gw_same, gw_same]
        · rw [gw_ne h5, gw_ne h5, q_gsn ha]
    have e47 : gs (shH M 1813) 150 4 (nI 7) 150 4 = nI 7 := q_gss rfl
    have e7 : gw (gs (shH M 1813) 150 4 (nI 7)) 154 (cpR (M 152) (shH M 1813 154) 0 1813 259) 150 4 = nI 7 := by rw [gw_ne (by omega)]; exact e47
    rw [f_X7_kept_L33]
    simp (disch := omega) only [↓reduceIte, eq_self, Bool.true_eq_false, Bool.false_eq_true, q_seqr, q_seql, v_ig, v_ni, v_le, v_nle, v_lt, v_nlt, v_eq, v_ne, v_gbt, v_gbf, v_gbd, v_m1lt, v_m1ge, v_m1ne, v_m1e, ↓q_bindD, ↓q_gLet, Option.isSome_some, Option.getD_some, nI_add, pk_mul, q_sub, q_m1, q_div, q_modN, nI_clamp, if_true, if_false, q_l0, q_l1, q_l2, q_l3, q_l4, q_l5, q_l6, q_l7, q_l8, q_l9, q_l10, q_l11, q_l12, q_l13, q_l14, q_l15, q_l16, q_l19, q_l20, q_l22, q_l24, q_l30, q_l32, q_l34, q_l36, q_l45, q_l47, q_l48, q_l57, q_l58, q_l59, q_l60, q_l61, q_l66, q_l75, q_l76, q_l94, q_l97, q_l99, q_l100, q_l101, q_l104, q_l105, q_l108, q_l109, q_l111, q_l114, q_l115, q_l116, q_l117, q_l118, q_l119, q_l120, q_l126, q_l132, q_l133, q_l135, q_l136, q_l138, q_l146, q_l147, q_l148, q_l149, q_l150, q_l151, q_l152, q_l153, q_l154, q_l155, q_l156, q_l157, q_l158, q_l214, q_l229, q_l244, q_l259, q_l300, q_l999, q_l1813, q_l2072, q_l10000, q_l65536, q_l1000000000, e4, e47, cp, e7, ef]
  | succ d ih =>
    intro n k hk hn
    obtain ⟨m, rfl⟩ : ∃ m, n = m + 1 := ⟨n - 1, by omega⟩
    have ih := ih m (k + 1) (by omega) (by omega)
    have ea : shH M k 154 (k + 259) = M 154 (k + 259) := by unfold shH; rw [gw_same, if_neg (by omega)]
    have es : gs (shH M k) 154 k (M 154 (k + 259)) = shH M (k + 1) := by
      unfold shH
      show gw _ 154 _ = _
      rw [gw_gw, gw_same]
      congr 1
      funext j
      by_cases hj : j = k
      · rw [q_ups hj, if_pos (by omega), hj]
      · rw [q_upn hj]
        by_cases h : j < k
        · rw [if_pos h, if_pos (by omega)]
        · rw [if_neg h, if_neg (by omega)]
    rw [f_X7_kept_L33, q_l1813, if_neg (nI_ge (show k < 1813 by omega) (by omega))]
    simp (disch := omega) only [↓reduceIte, eq_self, Bool.true_eq_false, Bool.false_eq_true, q_seqr, q_seql, v_ig, v_ni, v_le, v_nle, v_lt, v_nlt, v_eq, v_ne, v_gbt, v_gbf, v_gbd, v_m1lt, v_m1ge, v_m1ne, v_m1e, ↓q_bindD, ↓q_gLet, Option.isSome_some, Option.getD_some, nI_add, pk_mul, q_sub, q_m1, q_div, q_modN, nI_clamp, if_true, if_false, q_l0, q_l1, q_l2, q_l3, q_l4, q_l5, q_l6, q_l7, q_l8, q_l9, q_l10, q_l11, q_l12, q_l13, q_l14, q_l15, q_l16, q_l19, q_l20, q_l22, q_l24, q_l30, q_l32, q_l34, q_l36, q_l45, q_l47, q_l48, q_l57, q_l58, q_l59, q_l60, q_l61, q_l66, q_l75, q_l76, q_l94, q_l97, q_l99, q_l100, q_l101, q_l104, q_l105, q_l108, q_l109, q_l111, q_l114, q_l115, q_l116, q_l117, q_l118, q_l119, q_l120, q_l126, q_l132, q_l133, q_l135, q_l136, q_l138, q_l146, q_l147, q_l148, q_l149, q_l150, q_l151, q_l152, q_l153, q_l154, q_l155, q_l156, q_l157, q_l158, q_l214, q_l229, q_l244, q_l259, q_l300, q_l999, q_l1813, q_l2072, q_l10000, q_l65536, q_l1000000000, ea, es]
    exact ih
theorem m_kept0 {M : gM} {v : Int32} {n : Nat} (h : M 150 13 = nI 0) (h4 : M 150 4 = nI n) (hn : n ≤ 8) : ∃ M2, f_X7_kept v M = some (v, M2) ∧ (∀ a, a ≠ 150 → a ≠ 154 → M2 a = M a) ∧ (∀ k, k ≠ 4 → M2 150 k = M 150 k) ∧ M2 150 4 = nI (min (n + 1) 8) ∧
    (n < 8 → (∀ i, i < n → rEq (hRow M i) (hRow M2 i)) ∧ rEq (M 152) (hRow M2 n)) ∧ (n = 8 → (∀ i, i < 7 → rEq (hRow M (i + 1)) (hRow M2 i)) ∧ rEq (M 152) (hRow M2 7)) := by
  unfold f_X7_kept
  rw [show (0 : Int32) = nI 0 from rfl, h, if_pos rfl]
  by_cases h8 : n = 8
  · subst h8
    have k0 := m_keptL (v := v) h4 1813 gF 0 rfl (by unfold gF; omega)
    have e0 : shH M 0 = M := by
      unfold shH
      have : (fun j => if j < 0 then M 154 (j + 259) else M 154 j) = M 154 := by
        funext j
        rw [if_neg (by omega)]
      rw [this, gw_id]
    rw [e0] at k0
    rw [h4, if_pos (show nI 8 = (8 : Int32) from rfl)]
    refine ⟨_, k0, fun a h1 h2 => ?_, fun k hk => ?_, ?_, fun q => absurd q (by omega), fun _ => ⟨fun i hi q hq => ?_, fun q hq => ?_⟩⟩
    · rw [q_gsn h1, gw_ne h2]; unfold shH; rw [gw_ne h2]
    · rw [q_gsk hk, gw_ne (by omega)]; unfold shH; rw [gw_ne (by omega)]
    · rw [q_gss rfl]; rfl
    · unfold hRow
      rw [q_gsn (by omega), gw_same, cpR_out (by omega)]
      unfold shH
      rw [gw_same, if_pos (by omega), show 259 * (i + 1) + q = 259 * i + q + 259 by omega]
    · unfold hRow
      rw [q_gsn (by omega), gw_same]
      have := cpR_in (f := M 152) (g := shH M 1813 154) (A := 0) (B := 1813) hq
      rw [show 259 * 7 + q = 1813 + q by omega, this, Nat.zero_add]
  · have hne : ¬ nI n = (8 : Int32) := fun q => by
      have := (nI_eq (show n < 2 ^ 31 by omega) (show 8 < 2 ^ 31 by omega)).mp q
      omega
    rw [h4, if_neg hne, q_l259, pk_mul, m_copy (by omega) (by omega) (by omega) (by omega) (by omega), Option.bind_some, q_gLet, gw_ne (by omega), h4, show nI n + 1 = nI (n + 1) from nI_add _ 1]
    refine ⟨_, rfl, fun a h1 h2 => ?_, fun k hk => ?_, ?_, fun _ => ⟨fun i hi q hq => ?_, fun q hq => ?_⟩, fun q => absurd q h8⟩
    · rw [q_gsn h1, gw_ne h2]
    · rw [q_gsk hk, gw_ne (by omega)]
    · rw [q_gss rfl, show min (n + 1) 8 = n + 1 by omega]
    · unfold hRow
      rw [q_gsn (by omega), gw_same, cpR_out (by omega)]
    · unfold hRow
      rw [q_gsn (by omega), gw_same]
      have := cpR_in (f := M 152) (g := M 154) (A := 0) (B := n * 259) hq
      rw [show 259 * n + q = n * 259 + q by omega, this, Nat.zero_add]
/-! a direct change -/
theorem c_raiseE (M : gM) {f : Nat} (h0 : f ≠ 0) (h4 : f ≤ 4) : f_X6_raise (nI f) M = some (.inl (eN f), M) := by
  have : f = 1 ∨ f = 2 ∨ f = 3 ∨ f = 4 := by omega
  rcases this with rfl | rfl | rfl | rfl
  · exact c_raise1 M
  · exact c_raise2 M
  · exact c_raise3 M
  · exact c_raise4 M
theorem cpR_back {f g h : Nat → Int32} (e : rEq f g) : cpR g f 0 0 259 = f := by
  funext j
  unfold cpR
  by_cases h : 0 ≤ j ∧ j < 0 + 259
  · rw [if_pos h, Nat.zero_add, Nat.sub_zero]
    exact e j (by omega)
  · rw [if_neg h]
theorem cpR_rEq (f g : Nat → Int32) : rEq f (cpR f g 0 0 259) := fun q hq => by
  unfold cpR
  rw [if_pos (by omega), Nat.zero_add, Nat.sub_zero]
/-- a change's two sides end in a tie again, their histories with it -/
theorem tie_next {β n x : Nat} {M M2 : gM} (t : gTie β M)
    (hn8 : n ≤ 8) (hx8 : x < 8) (hn : M 133 2 = nI n) (h4 : M 150 4 = nI n) (hx : M 133 1 = nI x) (hh : ∀ i, i < n → gSim M (36 + 12 * ((x + 8 - n + i) % 8)) (hRow M i) ∧ gRow β (hRow M i))
    (f1 : ∀ a, 24 ≤ a → a < 132 → (a < 36 + 12 * x ∨ 36 + 12 * x + 12 ≤ a) → M2 a = M a) (f3 : M2 132 3 = M 132 3) (f4 : M2 133 1 = nI ((x + 1) % 8)) (f5 : M2 133 2 = nI (min (n + 1) 8)) (f6 : M2 150 4 = nI (min (n + 1) 8)) (f7 : M2 150 6 = M 150 6) (f8 : M2 155 = M 155)
    (g1 : gSim M2 (36 + 12 * x) (M 151)) (g2 : gSim M2 0 (M2 151)) (w2 : gRow (β + 1) (M2 151))
    (k1 : n < 8 → (∀ i, i < n → rEq (hRow M i) (hRow M2 i)) ∧ rEq (M 151) (hRow M2 n)) (k2 : n = 8 → (∀ i, i < 7 → rEq (hRow M (i + 1)) (hRow M2 i)) ∧ rEq (M 151) (hRow M2 7)) : gTie (β + 1) M2 := by
  have w := t.2.1
  have wu := w.up (show β ≤ β + 1 by omega)
  refine ⟨g2, w2, ?_, min (n + 1) 8, (x + 1) % 8, by omega, by omega, f5, f6, f4, fun i hi => ?_⟩
  · rcases t.2.2.1 with ⟨s1, s2⟩ | ⟨s1, s2, s3, s4⟩
    · exact Or.inl ⟨by rw [f3]; exact s1, by rw [f7]; exact s2⟩
    · exact Or.inr ⟨by rw [f3]; exact s1, by rw [f7]; exact s2, by rw [f8]; exact s3.frm (fun a ha hb hc => f1 a (by omega) (by omega) (by omega)), by rw [f8]; exact s4.up (by omega)⟩
  · by_cases h8 : n = 8
    · subst h8
      obtain ⟨k2, k3⟩ := k2 rfl
      by_cases hi7 : i = 7
      · subst hi7
        rw [show ((x + 1) % 8 + 8 - min (8 + 1) 8 + 7) % 8 = x by omega]
        exact ⟨g1.ext w k3, wu.ext k3⟩
      · obtain ⟨a, b⟩ := hh (i + 1) (by omega)
        have e := k2 i (by omega)
        rw [show (x + 8 - 8 + (i + 1)) % 8 = ((x + 1) % 8 + 8 - min (8 + 1) 8 + i) % 8 by omega] at a
        have a' := a.ext b e
        refine ⟨a'.frm (fun c hc hd he => f1 c (by omega) (by omega) (by omega)), (b.up (by omega)).ext e⟩
    · obtain ⟨k1, k3⟩ := k1 (by omega)
      by_cases hin : i = n
      · subst hin
        rw [show ((x + 1) % 8 + 8 - min (i + 1) 8 + i) % 8 = x by omega]
        exact ⟨g1.ext w k3, wu.ext k3⟩
      · obtain ⟨a, b⟩ := hh i (by omega)
        have e := k1 i (by omega)
        rw [show (x + 8 - n + i) % 8 = ((x + 1) % 8 + 8 - min (n + 1) 8 + i) % 8 by omega] at a
        have a' := a.ext b e
        refine ⟨a'.frm (fun c hc hd he => f1 c (by omega) (by omega) (by omega)), (b.up (by omega)).ext e⟩
theorem T_call {β : Nat} {M : gM} {cf : Nat → gM → Option Int32} {cd : Nat → gM → Option (Int32 × gM)} {cr : Nat → gM → Option gM} {m : gM → Option (Int32 × gM)} {code : Nat → Nat} {codes : List String} {F : gM → Option ((String ⊕ Int32) × gM)} {G : gM → Option (Int32 × gM)}
    (t : gTie β M) (c : gCmd β (M 151) cf cd cr m code codes) (hc4 : ∀ f, f ≤ 4 → code f < 100)
    (hF : F M = (cf 0 M).bind fun r1 => gSeq (f_X6_raise r1 M) fun _ M5 => (f_X1_push 0 M5).bind fun r6 => (cd 0 r6).bind fun p => some (.inr p.1, p.2))
    (hG : ∀ M, G M = (f_X7_begin M).bind fun r1 => (m r1).bind fun r3 => (f_X7_kept r3.1 r3.2).bind fun r5 => some (r5.1, r5.2)) :
    ∃ oc M1 z b M2, F M = some (oc, M1) ∧ G M1 = some (b, M2) ∧ M2 150 13 = z ∧ gAns codes oc z b ∧ gTie (β + 1) M2 ∧ gKeep M M2 := by
  obtain ⟨g, w, s, n, x, hn8, hx8, hn, h4, hx, hh⟩ := id t
  rcases c with ⟨f, h0, ⟨hok, hpos, hf4⟩, hcf, hm⟩ | ⟨r', v, w', hc, hm⟩
  · have e1 := m_begin M
    obtain ⟨Mb, hMb⟩ : ∃ Mb, Mb = gw M 152 (cpR (M 151) (M 152) 0 0 259) := ⟨_, rfl⟩
    rw [← hMb] at e1
    have b151 : Mb 151 = M 151 := by rw [hMb, gw_ne (by omega)]
    have e2 := hm Mb b151
    have e3 := m_kept1 (M := gs Mb 150 13 (nI (code f))) (v := nI 0) (q_gss rfl) hpos (by have := hc4 f hf4; omega)
    have er : cpR (gs Mb 150 13 (nI (code f)) 152) (gs Mb 150 13 (nI (code f)) 151) 0 0 259 = M 151 := by
      rw [q_gsn (by omega), q_gsn (by omega), b151]
      refine cpR_back (h := M 151) ?_
      rw [hMb, gw_same]
      exact cpR_rEq _ _
    rw [er] at e3
    refine ⟨.inl (eN f), M, nI (code f), nI 0, gw (gs Mb 150 13 (nI (code f))) 151 (M 151), ?_, ?_, ?_, ?_, ?_, ?_⟩
    · rw [hF, hcf M 0 g, Option.bind_some, c_raiseE M h0 hf4]
      rfl
    · rw [hG, e1, Option.bind_some, e2, Option.bind_some, e3, Option.bind_some]
    · rw [gw_ne (by omega), q_gss rfl]
    · have := gAns_l (b := nI 0) (code f - 1) hok
      rw [show code f - 1 + 1 = code f by omega] at this
      exact this
    · refine (t.up (show β ≤ β + 1 by omega)).fr ⟨fun a h1 h2 h3 => ?_, ?_, ?_, ?_, ?_, ?_, ?_, ?_, ?_⟩
      · rw [gw_ne (by omega), q_gsn (by omega), hMb, gw_ne (by omega)]
      · rw [gw_ne (by omega), q_gsn (by omega), hMb, gw_ne (by omega)]
      · rw [gw_ne (by omega), q_gsn (by omega), hMb, gw_ne (by omega)]
      · rw [gw_ne (by omega), q_gsn (by omega), hMb, gw_ne (by omega)]
      · rw [gw_ne (by omega), q_gsk (by omega), hMb, gw_ne (by omega)]
      · rw [gw_ne (by omega), q_gsk (by omega), hMb, gw_ne (by omega)]
      · rw [gw_same]
      · rw [gw_ne (by omega), q_gsn (by omega), hMb, gw_ne (by omega)]
      · rw [gw_ne (by omega), q_gsn (by omega), hMb, gw_ne (by omega)]
    · refine ⟨fun a h1 h2 => ?_, fun a h1 => ?_, fun k h1 h2 h3 => ?_, fun k h1 => ?_⟩
      · rw [gw_ne (by omega), q_gsn (by omega), hMb, gw_ne (by omega)]
      · rw [gw_ne (by omega), q_gsn (by omega), hMb, gw_ne (by omega)]
      · rw [gw_ne (by omega), q_gsk (by omega), hMb, gw_ne (by omega)]
      · rw [gw_ne (by omega), q_gsn (by omega), hMb, gw_ne (by omega)]
  · obtain ⟨Mp, hMp⟩ : ∃ Mp, Mp = gs (gs (cpM M (36 + 12 * x) 0) 133 1 (nI ((x + 1) % 8))) 133 2 (nI (min (n + 1) 8)) := ⟨_, rfl⟩
    have ep := c_push (s := 0) hn hx hn8 hx8 (by omega)
    rw [← hMp] at ep
    have po : ∀ a, (a < 36 + 12 * x ∨ 36 + 12 * x + 12 ≤ a) → a ≠ 133 → Mp a = M a := fun a h1 h2 => by rw [hMp]; exact push_o h1 h2
    have p0 : gSim Mp 0 (M 151) := g.frm (fun a h1 h2 h3 => po a (by omega) (by omega))
    have ps : gSim Mp (36 + 12 * x) (M 151) := by rw [hMp]; exact push_sim (by omega) hx8 g
    obtain ⟨hcf0, -⟩ := hc M 0 g
    obtain ⟨-, Mc, hcd, -, fr, gc⟩ := hc Mp 0 p0
    have e1 := m_begin Mc
    obtain ⟨Mb, hMb⟩ : ∃ Mb, Mb = gw Mc 152 (cpR (Mc 151) (Mc 152) 0 0 259) := ⟨_, rfl⟩
    rw [← hMb] at e1
    have c151 : Mc 151 = M 151 := by rw [fr 151 (by omega), po 151 (by omega) (by omega)]
    have b151 : Mb 151 = M 151 := by rw [hMb, gw_ne (by omega), c151]
    have e2 := hm Mb b151
    obtain ⟨Mm, hMm⟩ : ∃ Mm, Mm = gs (gw Mb 151 r') 150 13 (nI 0) := ⟨_, rfl⟩
    rw [← hMm] at e2
    have mo : ∀ a, 12 ≤ a → a ≠ 150 → a ≠ 151 → a ≠ 152 → Mm a = Mp a := fun a h1 h2 h3 h4 => by
      rw [hMm, q_gsn h2, gw_ne h3, hMb, gw_ne h4, fr a (by omega)]
    have mo0 : ∀ a, a < 12 → Mm a = Mc a := fun a h1 => by
      rw [hMm, q_gsn (by omega), gw_ne (by omega), hMb, gw_ne (by omega)]
    have m150 : ∀ k, k ≠ 13 → Mm 150 k = M 150 k := fun k hk => by
      rw [hMm, q_gsk hk, gw_ne (by omega), hMb, gw_ne (by omega), fr 150 (by omega), po 150 (by omega) (by omega)]
    have m151 : Mm 151 = r' := by rw [hMm, q_gsn (by omega), gw_same]
    have m152 : rEq (M 151) (Mm 152) := by
      rw [hMm, q_gsn (by omega), gw_ne (by omega), hMb, gw_same, c151]
      exact cpR_rEq _ _
    have mh : ∀ i, hRow Mm i = hRow M i := fun i => by
      unfold hRow
      rw [mo 154 (by omega) (by omega) (by omega) (by omega), po 154 (by omega) (by omega)]
    obtain ⟨M2, e3, o1, o2, o3, o4, o5⟩ := m_kept0 (M := Mm) (v := v) (n := n) (by rw [hMm]; exact q_gss rfl) (by rw [m150 4 (by omega)]; exact h4) hn8
    have all : ∀ a, 12 ≤ a → a ≠ 150 → a ≠ 151 → a ≠ 152 → a ≠ 154 → (a < 36 + 12 * x ∨ 36 + 12 * x + 12 ≤ a) → a ≠ 133 → M2 a = M a := fun a h1 h2 h3 h4 h5 h6 h7 => by
      rw [o1 a h2 h5, mo a h1 h2 h3 h4, po a h6 h7]
    have a133 : M2 133 = Mp 133 := by rw [o1 133 (by omega) (by omega), mo 133 (by omega) (by omega) (by omega) (by omega)]
    have a151 : M2 151 = r' := by rw [o1 151 (by omega) (by omega), m151]
    refine ⟨.inr v, Mc, nI 0, v, M2, ?_, ?_, ?_, gAns_r, ?_, ?_⟩
    · rw [hF, hcf0, Option.bind_some, c_raise0, q_seqr, ep, Option.bind_some, hcd, Option.bind_some]
    · rw [hG, e1, Option.bind_some, e2, Option.bind_some, e3, Option.bind_some]
    · rw [o2 13 (by omega), hMm, q_gss rfl]
    · refine tie_next t hn8 hx8 hn h4 hx hh (fun a h1 h2 h3 => all a (by omega) (by omega) (by omega) (by omega) (by omega) h3 (by omega)) ?_ ?_ ?_ o3 ?_ ?_ ?_ ?_ (by rw [a151]; exact w') (fun h => ?_) (fun h => ?_)
      · rw [all 132 (by omega) (by omega) (by omega) (by omega) (by omega) (by omega) (by omega)]
      · rw [a133, hMp, q_gsk (by omega), q_gss rfl]
      · rw [a133, hMp, q_gss rfl]
      · rw [o2 6 (by omega), m150 6 (by omega)]
      · rw [all 155 (by omega) (by omega) (by omega) (by omega) (by omega) (by omega) (by omega)]
      · exact ps.frm (fun a h1 h2 h3 => by rw [o1 a (by omega) (by omega), mo a (by omega) (by omega) (by omega) (by omega)])
      · rw [a151]
        exact gc.frm (fun a h1 h2 h3 => by rw [o1 a (by omega) (by omega), mo0 a (by omega)])
      · obtain ⟨q1, q2⟩ := o4 h
        refine ⟨fun i hi => by rw [← mh i]; exact q1 i hi, fun q hq => by rw [q2 q hq, m152 q hq]⟩
      · obtain ⟨q1, q2⟩ := o5 h
        refine ⟨fun i hi => by rw [← mh (i + 1)]; exact q1 i hi, fun q hq => by rw [q2 q hq, m152 q hq]⟩
    · refine ⟨fun a h1 h2 => all a (by omega) (by omega) (by omega) (by omega) (by omega) (by omega) (by omega), fun a h1 => all a (by omega) (by omega) (by omega) (by omega) (by omega) (by omega) (by omega), fun k h1 h2 h3 => ?_, fun k h1 => ?_⟩
      · rw [o2 k h1, m150 k h3]
      · rw [all 132 (by omega) (by omega) (by omega) (by omega) (by omega) (by omega) (by omega)]
