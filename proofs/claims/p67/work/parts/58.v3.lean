/-! The reference's reading. -/
def mT (M : gM) (tx : Nat → Nat) (t : Nat) : Prop := M 150 8 = nI t ∧ t ≤ 60 ∧ ∀ i, i < t → M 156 i = nI (tx i) ∧ tx i < 128
def mFr (M S : gM) : Prop := (∀ a, a ≠ 150 → a ≠ 158 → S a = M a) ∧ (∀ k, k ≠ 14 → k ≠ 15 → S 150 k = M 150 k)
def mF (M S : gM) (e : Nat) : Prop := S 150 15 = nI 1 ∧ S 150 14 = nI e ∧ mFr M S
def mS (M S : gM) (t p q : Nat) (vs : List Nat) : Prop := S 150 15 = nI 0 ∧ S 150 14 = nI p ∧ p ≤ t ∧ mFr M S ∧ (∀ j c, vs[j]? = some c → S 158 (q + 1 + j) = nI c) ∧ (∀ j, j ≤ q → S 158 j = M 158 j)
def mX (q : Nat) : Nat → List (Nat × Nat) → gM → Option gM
  | _, [], M => some M
  | i, (0, c) :: r, M => (f_X7_needs (nI c) M).bind fun M1 => mX q i r M1
  | i, (k + 1, _) :: r, M => (f_X7_digits (nI (k + 1)) M).bind fun z => if gin (nI q + nI (i + 1)) 300 then gLet (gs z.2 158 (nI q + nI (i + 1)).toNatClampNeg z.1) fun M1 => mX q (i + 1) r M1 else none
theorem mFr.rf {M : gM} : mFr M M := ⟨fun _ _ _ => rfl, fun _ _ _ => rfl⟩
theorem mFr.tr {M M1 M2 : gM} (h : mFr M M1) (h2 : mFr M1 M2) : mFr M M2 := ⟨fun a p q => (h2.1 a p q).trans (h.1 a p q), fun k p q => (h2.2 k p q).trans (h.2 k p q)⟩
theorem mFr.p {M S : gM} (h : mFr M S) (v : Int32) : mFr M (gs S 150 14 v) := ⟨fun a p q => by rw [q_gsn p]; exact h.1 a p q, fun k p q => by rw [q_gsk p]; exact h.2 k p q⟩
theorem mFr.w {M S : gM} (h : mFr M S) (v : Int32) : mFr M (gs S 150 15 v) := ⟨fun a p q => by rw [q_gsn p]; exact h.1 a p q, fun k p q => by rw [q_gsk q]; exact h.2 k p q⟩
theorem mFr.l {M S : gM} (h : mFr M S) (j : Nat) (v : Int32) : mFr M (gs S 158 j v) := ⟨fun a p q => by rw [q_gsn q]; exact h.1 a p q, fun k p q => by rw [q_gsn (by omega)]; exact h.2 k p q⟩
theorem mFr.mT {M S : gM} {tx : Nat → Nat} {t : Nat} (h : mFr M S) (x : mT M tx t) : mT S tx t := ⟨by rw [h.2 8 (by omega) (by omega)]; exact x.1, x.2.1, by rw [h.1 156 (by omega) (by omega)]; exact x.2.2⟩
section RM
variable {M S : gM} {tx : Nat → Nat} {t p q : Nat} {vs : List Nat}
theorem m_here (x : mT S tx t) (hp : S 150 14 = nI p) (hpt : p ≤ t) : f_X7_here S = some (if p < t then nI (tx p) else -nI 1) := by
  obtain ⟨x1, x2, x3⟩ := x
  unfold f_X7_here
  by_cases h : p < t
  · rw [if_pos h]
    obtain ⟨a, b⟩ := x3 p h
    simp (disch := omega) only [↓reduceIte, eq_self, Bool.true_eq_false, Bool.false_eq_true, q_seqr, q_seql, v_ig, v_ni, v_le, v_nle, v_lt, v_nlt, v_eq, v_ne, v_gbt, v_gbf, v_gbd, v_m1lt, v_m1ge, v_m1ne, v_m1e, ↓q_bindD, ↓q_gLet, Option.isSome_some, Option.getD_some, nI_add, pk_mul, q_sub, q_m1, q_div, q_modN, nI_clamp, if_true, if_false, q_l0, q_l1, q_l2, q_l3, q_l4, q_l5, q_l6, q_l7, q_l8, q_l9, q_l10, q_l11, q_l12, q_l13, q_l14, q_l15, q_l16, q_l19, q_l20, q_l22, q_l24, q_l30, q_l32, q_l34, q_l36, q_l45, q_l47, q_l48, q_l57, q_l58, q_l59, q_l60, q_l61, q_l66, q_l75, q_l76, q_l94, q_l97, q_l99, q_l100, q_l101, q_l104, q_l105, q_l108, q_l109, q_l111, q_l114, q_l115, q_l116, q_l117, q_l118, q_l119, q_l120, q_l126, q_l132, q_l133, q_l135, q_l136, q_l138, q_l146, q_l147, q_l148, q_l149, q_l150, q_l151, q_l152, q_l153, q_l154, q_l155, q_l156, q_l157, q_l158, q_l214, q_l229, q_l244, q_l259, q_l300, q_l999, q_l1813, q_l2072, q_l10000, q_l65536, q_l1000000000, x1, hp, a]
  · rw [if_neg h]
    simp (disch := omega) only [↓reduceIte, eq_self, Bool.true_eq_false, Bool.false_eq_true, q_seqr, q_seql, v_ig, v_ni, v_le, v_nle, v_lt, v_nlt, v_eq, v_ne, v_gbt, v_gbf, v_gbd, v_m1lt, v_m1ge, v_m1ne, v_m1e, ↓q_bindD, ↓q_gLet, Option.isSome_some, Option.getD_some, nI_add, pk_mul, q_sub, q_m1, q_div, q_modN, nI_clamp, if_true, if_false, q_l0, q_l1, q_l2, q_l3, q_l4, q_l5, q_l6, q_l7, q_l8, q_l9, q_l10, q_l11, q_l12, q_l13, q_l14, q_l15, q_l16, q_l19, q_l20, q_l22, q_l24, q_l30, q_l32, q_l34, q_l36, q_l45, q_l47, q_l48, q_l57, q_l58, q_l59, q_l60, q_l61, q_l66, q_l75, q_l76, q_l94, q_l97, q_l99, q_l100, q_l101, q_l104, q_l105, q_l108, q_l109, q_l111, q_l114, q_l115, q_l116, q_l117, q_l118, q_l119, q_l120, q_l126, q_l132, q_l133, q_l135, q_l136, q_l138, q_l146, q_l147, q_l148, q_l149, q_l150, q_l151, q_l152, q_l153, q_l154, q_l155, q_l156, q_l157, q_l158, q_l214, q_l229, q_l244, q_l259, q_l300, q_l999, q_l1813, q_l2072, q_l10000, q_l65536, q_l1000000000, x1, hp]
theorem m_needsF {e : Nat} (h : mF M S e) (c : Int32) : ∃ S', f_X7_needs c S = some S' ∧ mF M S' e := by
  obtain ⟨h1, h2, h3⟩ := h
  refine ⟨gs (gs S 150 15 (nI 1)) 150 14 (nI e), ?_, ?_, q_gss rfl, (h3.w _).p _⟩
  · unfold f_X7_needs
    simp (disch := omega) only [↓reduceIte, eq_self, Bool.true_eq_false, Bool.false_eq_true, q_seqr, q_seql, v_ig, v_ni, v_le, v_nle, v_lt, v_nlt, v_eq, v_ne, v_gbt, v_gbf, v_gbd, v_m1lt, v_m1ge, v_m1ne, v_m1e, ↓q_bindD, ↓q_gLet, Option.isSome_some, Option.getD_some, nI_add, pk_mul, q_sub, q_m1, q_div, q_modN, nI_clamp, if_true, if_false, q_l0, q_l1, q_l2, q_l3, q_l4, q_l5, q_l6, q_l7, q_l8, q_l9, q_l10, q_l11, q_l12, q_l13, q_l14, q_l15, q_l16, q_l19, q_l20, q_l22, q_l24, q_l30, q_l32, q_l34, q_l36, q_l45, q_l47, q_l48, q_l57, q_l58, q_l59, q_l60, q_l61, q_l66, q_l75, q_l76, q_l94, q_l97, q_l99, q_l100, q_l101, q_l104, q_l105, q_l108, q_l109, q_l111, q_l114, q_l115, q_l116, q_l117, q_l118, q_l119, q_l120, q_l126, q_l132, q_l133, q_l135, q_l136, q_l138, q_l146, q_l147, q_l148, q_l149, q_l150, q_l151, q_l152, q_l153, q_l154, q_l155, q_l156, q_l157, q_l158, q_l214, q_l229, q_l244, q_l259, q_l300, q_l999, q_l1813, q_l2072, q_l10000, q_l65536, q_l1000000000, h1, h2, q_gss, q_gsk, Nat.add_zero]
  · rw [q_gsk (by omega), q_gss rfl]
theorem m_needs (x : mT M tx t) (h : mS M S t p q vs) {c : Nat} (hc : c < 128) (hc0 : 0 < c) : (p < t ∧ tx p = c ∧ ∃ S', f_X7_needs (nI c) S = some S' ∧ mS M S' t (p + 1) q vs) ∨ (¬ (p < t ∧ tx p = c) ∧ ∃ S', f_X7_needs (nI c) S = some S' ∧ mF M S' p) := by
  obtain ⟨h1, h2, h3, h4, h5, h6⟩ := h
  have hh := m_here (h4.mT x) h2 h3
  by_cases g : p < t ∧ tx p = c
  · refine Or.inl ⟨g.1, g.2, gs (gs S 150 15 (nI 0)) 150 14 (nI (p + 1)), ?_, ?_, q_gss rfl, by omega, (h4.w _).p _, ?_, ?_⟩
    · rw [if_pos g.1, g.2] at hh
      unfold f_X7_needs
      simp (disch := omega) only [↓reduceIte, eq_self, Bool.true_eq_false, Bool.false_eq_true, q_seqr, q_seql, v_ig, v_ni, v_le, v_nle, v_lt, v_nlt, v_eq, v_ne, v_gbt, v_gbf, v_gbd, v_m1lt, v_m1ge, v_m1ne, v_m1e, ↓q_bindD, ↓q_gLet, Option.isSome_some, Option.getD_some, nI_add, pk_mul, q_sub, q_m1, q_div, q_modN, nI_clamp, if_true, if_false, q_l0, q_l1, q_l2, q_l3, q_l4, q_l5, q_l6, q_l7, q_l8, q_l9, q_l10, q_l11, q_l12, q_l13, q_l14, q_l15, q_l16, q_l19, q_l20, q_l22, q_l24, q_l30, q_l32, q_l34, q_l36, q_l45, q_l47, q_l48, q_l57, q_l58, q_l59, q_l60, q_l61, q_l66, q_l75, q_l76, q_l94, q_l97, q_l99, q_l100, q_l101, q_l104, q_l105, q_l108, q_l109, q_l111, q_l114, q_l115, q_l116, q_l117, q_l118, q_l119, q_l120, q_l126, q_l132, q_l133, q_l135, q_l136, q_l138, q_l146, q_l147, q_l148, q_l149, q_l150, q_l151, q_l152, q_l153, q_l154, q_l155, q_l156, q_l157, q_l158, q_l214, q_l229, q_l244, q_l259, q_l300, q_l999, q_l1813, q_l2072, q_l10000, q_l65536, q_l1000000000, h1, h2, hh, q_gss, q_gsk]
    · rw [q_gsk (by omega), q_gss rfl]
    · rw [q_gsn (by omega), q_gsn (by omega)]; exact h5
    · rw [q_gsn (by omega), q_gsn (by omega)]; exact h6
  · refine Or.inr ⟨g, gs (gs S 150 15 (nI 1)) 150 14 (nI p), ?_, ?_, q_gss rfl, (h4.w _).p _⟩
    · unfold f_X7_needs
      by_cases hp : p < t
      · have hx := (x.2.2 p hp).2
        have hx2 : ¬ tx p = c := fun z => g ⟨hp, z⟩
        rw [if_pos hp] at hh
        simp (disch := omega) only [↓reduceIte, eq_self, Bool.true_eq_false, Bool.false_eq_true, q_seqr, q_seql, v_ig, v_ni, v_le, v_nle, v_lt, v_nlt, v_eq, v_ne, v_gbt, v_gbf, v_gbd, v_m1lt, v_m1ge, v_m1ne, v_m1e, ↓q_bindD, ↓q_gLet, Option.isSome_some, Option.getD_some, nI_add, pk_mul, q_sub, q_m1, q_div, q_modN, nI_clamp, if_true, if_false, q_l0, q_l1, q_l2, q_l3, q_l4, q_l5, q_l6, q_l7, q_l8, q_l9, q_l10, q_l11, q_l12, q_l13, q_l14, q_l15, q_l16, q_l19, q_l20, q_l22, q_l24, q_l30, q_l32, q_l34, q_l36, q_l45, q_l47, q_l48, q_l57, q_l58, q_l59, q_l60, q_l61, q_l66, q_l75, q_l76, q_l94, q_l97, q_l99, q_l100, q_l101, q_l104, q_l105, q_l108, q_l109, q_l111, q_l114, q_l115, q_l116, q_l117, q_l118, q_l119, q_l120, q_l126, q_l132, q_l133, q_l135, q_l136, q_l138, q_l146, q_l147, q_l148, q_l149, q_l150, q_l151, q_l152, q_l153, q_l154, q_l155, q_l156, q_l157, q_l158, q_l214, q_l229, q_l244, q_l259, q_l300, q_l999, q_l1813, q_l2072, q_l10000, q_l65536, q_l1000000000, h1, h2, hh, q_gss, q_gsk, Nat.add_zero]
      · rw [if_neg hp] at hh
        simp (disch := omega) only [↓reduceIte, eq_self, Bool.true_eq_false, Bool.false_eq_true, q_seqr, q_seql, v_ig, v_ni, v_le, v_nle, v_lt, v_nlt, v_eq, v_ne, v_gbt, v_gbf, v_gbd, v_m1lt, v_m1ge, v_m1ne, v_m1e, ↓q_bindD, ↓q_gLet, Option.isSome_some, Option.getD_some, nI_add, pk_mul, q_sub, q_m1, q_div, q_modN, nI_clamp, if_true, if_false, q_l0, q_l1, q_l2, q_l3, q_l4, q_l5, q_l6, q_l7, q_l8, q_l9, q_l10, q_l11, q_l12, q_l13, q_l14, q_l15, q_l16, q_l19, q_l20, q_l22, q_l24, q_l30, q_l32, q_l34, q_l36, q_l45, q_l47, q_l48, q_l57, q_l58, q_l59, q_l60, q_l61, q_l66, q_l75, q_l76, q_l94, q_l97, q_l99, q_l100, q_l101, q_l104, q_l105, q_l108, q_l109, q_l111, q_l114, q_l115, q_l116, q_l117, q_l118, q_l119, q_l120, q_l126, q_l132, q_l133, q_l135, q_l136, q_l138, q_l146, q_l147, q_l148, q_l149, q_l150, q_l151, q_l152, q_l153, q_l154, q_l155, q_l156, q_l157, q_l158, q_l214, q_l229, q_l244, q_l259, q_l300, q_l999, q_l1813, q_l2072, q_l10000, q_l65536, q_l1000000000, h1, h2, hh, q_gss, q_gsk, Nat.add_zero]
    · rw [q_gsk (by omega), q_gss rfl]
theorem m_digitsF {e : Nat} (h : mF M S e) (k : Int32) : ∃ z S', f_X7_digits k S = some (z, S') ∧ mF M S' e := by
  obtain ⟨h1, h2, h3⟩ := h
  obtain ⟨F, hF⟩ : ∃ F, gF = F + 1 := ⟨3999, rfl⟩
  refine ⟨nI 0, gs S 150 15 (nI 1), ?_, q_gss rfl, by rw [q_gsk (by omega)]; exact h2, h3.w _⟩
  unfold f_X7_digits
  rw [h1, if_neg (show ¬ nI 1 = (0 : Int32) by decide), q_gLet, hF, f_X7_digits_L34]
  simp (disch := omega) only [↓reduceIte, eq_self, Bool.true_eq_false, Bool.false_eq_true, q_seqr, q_seql, v_ig, v_ni, v_le, v_nle, v_lt, v_nlt, v_eq, v_ne, v_gbt, v_gbf, v_gbd, v_m1lt, v_m1ge, v_m1ne, v_m1e, ↓q_bindD, ↓q_gLet, Option.isSome_some, Option.getD_some, nI_add, pk_mul, q_sub, q_m1, q_div, q_modN, nI_clamp, if_true, if_false, q_l0, q_l1, q_l2, q_l3, q_l4, q_l5, q_l6, q_l7, q_l8, q_l9, q_l10, q_l11, q_l12, q_l13, q_l14, q_l15, q_l16, q_l19, q_l20, q_l22, q_l24, q_l30, q_l32, q_l34, q_l36, q_l45, q_l47, q_l48, q_l57, q_l58, q_l59, q_l60, q_l61, q_l66, q_l75, q_l76, q_l94, q_l97, q_l99, q_l100, q_l101, q_l104, q_l105, q_l108, q_l109, q_l111, q_l114, q_l115, q_l116, q_l117, q_l118, q_l119, q_l120, q_l126, q_l132, q_l133, q_l135, q_l136, q_l138, q_l146, q_l147, q_l148, q_l149, q_l150, q_l151, q_l152, q_l153, q_l154, q_l155, q_l156, q_l157, q_l158, q_l214, q_l229, q_l244, q_l259, q_l300, q_l999, q_l1813, q_l2072, q_l10000, q_l65536, q_l1000000000, q_gss]
theorem m_digL (x : mT M tx t) {k : Nat} (hk : k ≤ 3) : ∀ d n i v p S, i + d = k → d < n → v < 10 ^ i → mS M S t p q vs → ∃ S', f_X7_digits_L34 (nI k) n (nI i) (nI v) S = some (nI (dN tx t d p v).1, S') ∧ mS M S' t (dN tx t d p v).2 q vs := by
  intro d
  induction d with
  | zero =>
    intro n i v p S hi hn hv h
    obtain ⟨m, rfl⟩ : ∃ m, n = m + 1 := ⟨n - 1, by omega⟩
    have hi : i = k := by omega
    subst hi
    refine ⟨S, ?_, h⟩
    rw [f_X7_digits_L34]
    simp (disch := omega) only [↓reduceIte, eq_self, Bool.true_eq_false, Bool.false_eq_true, q_seqr, q_seql, v_ig, v_ni, v_le, v_nle, v_lt, v_nlt, v_eq, v_ne, v_gbt, v_gbf, v_gbd, v_m1lt, v_m1ge, v_m1ne, v_m1e, ↓q_bindD, ↓q_gLet, Option.isSome_some, Option.getD_some, nI_add, pk_mul, q_sub, q_m1, q_div, q_modN, nI_clamp, if_true, if_false, q_l0, q_l1, q_l2, q_l3, q_l4, q_l5, q_l6, q_l7, q_l8, q_l9, q_l10, q_l11, q_l12, q_l13, q_l14, q_l15, q_l16, q_l19, q_l20, q_l22, q_l24, q_l30, q_l32, q_l34, q_l36, q_l45, q_l47, q_l48, q_l57, q_l58, q_l59, q_l60, q_l61, q_l66, q_l75, q_l76, q_l94, q_l97, q_l99, q_l100, q_l101, q_l104, q_l105, q_l108, q_l109, q_l111, q_l114, q_l115, q_l116, q_l117, q_l118, q_l119, q_l120, q_l126, q_l132, q_l133, q_l135, q_l136, q_l138, q_l146, q_l147, q_l148, q_l149, q_l150, q_l151, q_l152, q_l153, q_l154, q_l155, q_l156, q_l157, q_l158, q_l214, q_l229, q_l244, q_l259, q_l300, q_l999, q_l1813, q_l2072, q_l10000, q_l65536, q_l1000000000, h.1]
    rfl
  | succ d ih =>
    intro n i v p S hi hn hv h
    obtain ⟨m, rfl⟩ : ∃ m, n = m + 1 := ⟨n - 1, by omega⟩
    obtain ⟨h1, h2, h3, h4, h5, h6⟩ := id h
    have hh := m_here (h4.mT x) h2 h3
    have h10 : 10 ^ i ≤ 1000 := Nat.pow_le_pow_right (n := 10) (by omega) (show i ≤ 3 by omega)
    by_cases g : p < t ∧ 48 ≤ tx p ∧ tx p ≤ 57
    · have ed : dN tx t (d + 1) p v = dN tx t d (p + 1) (v * 10 + (tx p - 48)) := by rw [dN, if_pos g]
      obtain ⟨S', e1, e2⟩ := ih m (i + 1) (v * 10 + (tx p - 48)) (p + 1) (gs S 150 14 (nI (p + 1))) (by omega) (by omega) (by rw [Nat.pow_succ]; omega)
        ⟨by rw [q_gsk (by omega)]; exact h1, q_gss rfl, by omega, h4.p _, by rw [q_gsn (by omega)]; exact h5, by rw [q_gsn (by omega)]; exact h6⟩
      refine ⟨S', ?_, by rw [ed]; exact e2⟩
      rw [if_pos g.1] at hh
      have ev : 10 * v + tx p - 48 = v * 10 + (tx p - 48) := by omega
      have g48 := g.2.1
      have g57 := g.2.2
      rw [ed, ← e1, f_X7_digits_L34]
      simp (disch := omega) only [↓reduceIte, eq_self, Bool.true_eq_false, Bool.false_eq_true, q_seqr, q_seql, v_ig, v_ni, v_le, v_nle, v_lt, v_nlt, v_eq, v_ne, v_gbt, v_gbf, v_gbd, v_m1lt, v_m1ge, v_m1ne, v_m1e, ↓q_bindD, ↓q_gLet, Option.isSome_some, Option.getD_some, nI_add, pk_mul, q_sub, q_m1, q_div, q_modN, nI_clamp, if_true, if_false, q_l0, q_l1, q_l2, q_l3, q_l4, q_l5, q_l6, q_l7, q_l8, q_l9, q_l10, q_l11, q_l12, q_l13, q_l14, q_l15, q_l16, q_l19, q_l20, q_l22, q_l24, q_l30, q_l32, q_l34, q_l36, q_l45, q_l47, q_l48, q_l57, q_l58, q_l59, q_l60, q_l61, q_l66, q_l75, q_l76, q_l94, q_l97, q_l99, q_l100, q_l101, q_l104, q_l105, q_l108, q_l109, q_l111, q_l114, q_l115, q_l116, q_l117, q_l118, q_l119, q_l120, q_l126, q_l132, q_l133, q_l135, q_l136, q_l138, q_l146, q_l147, q_l148, q_l149, q_l150, q_l151, q_l152, q_l153, q_l154, q_l155, q_l156, q_l157, q_l158, q_l214, q_l229, q_l244, q_l259, q_l300, q_l999, q_l1813, q_l2072, q_l10000, q_l65536, q_l1000000000, h1, hh, m_in_t, h2, ev]
    · have ed : dN tx t (d + 1) p v = (v, p) := by rw [dN, if_neg g]
      refine ⟨S, ?_, by rw [ed]; exact h⟩
      have hin : f_X7_in (if p < t then nI (tx p) else -nI 1) (nI 48) (nI 57) S = some false := by
        by_cases hp : p < t
        · have hx := (x.2.2 p hp).2
          rw [if_pos hp]
          refine m_in_f ?_ S
          by_cases a : tx p < 48
          · exact Or.inl (nI_lt a (by omega))
          · exact Or.inr (nI_lt (by omega) (by omega))
        · rw [if_neg hp]
          exact m_in_f (Or.inl (by decide)) S
      rw [ed, f_X7_digits_L34]
      simp (disch := omega) only [↓reduceIte, eq_self, Bool.true_eq_false, Bool.false_eq_true, q_seqr, q_seql, v_ig, v_ni, v_le, v_nle, v_lt, v_nlt, v_eq, v_ne, v_gbt, v_gbf, v_gbd, v_m1lt, v_m1ge, v_m1ne, v_m1e, ↓q_bindD, ↓q_gLet, Option.isSome_some, Option.getD_some, nI_add, pk_mul, q_sub, q_m1, q_div, q_modN, nI_clamp, if_true, if_false, q_l0, q_l1, q_l2, q_l3, q_l4, q_l5, q_l6, q_l7, q_l8, q_l9, q_l10, q_l11, q_l12, q_l13, q_l14, q_l15, q_l16, q_l19, q_l20, q_l22, q_l24, q_l30, q_l32, q_l34, q_l36, q_l45, q_l47, q_l48, q_l57, q_l58, q_l59, q_l60, q_l61, q_l66, q_l75, q_l76, q_l94, q_l97, q_l99, q_l100, q_l101, q_l104, q_l105, q_l108, q_l109, q_l111, q_l114, q_l115, q_l116, q_l117, q_l118, q_l119, q_l120, q_l126, q_l132, q_l133, q_l135, q_l136, q_l138, q_l146, q_l147, q_l148, q_l149, q_l150, q_l151, q_l152, q_l153, q_l154, q_l155, q_l156, q_l157, q_l158, q_l214, q_l229, q_l244, q_l259, q_l300, q_l999, q_l1813, q_l2072, q_l10000, q_l65536, q_l1000000000, h1, hh, hin]
theorem m_digits (x : mT M tx t) (h : mS M S t p q vs) {k : Nat} (hk : k ≤ 3) : ((p < t ∧ 48 ≤ tx p ∧ tx p ≤ 57) ∧ ∃ S', f_X7_digits (nI k) S = some (nI (dN tx t k p 0).1, S') ∧ mS M S' t (dN tx t k p 0).2 q vs) ∨ (¬ (p < t ∧ 48 ≤ tx p ∧ tx p ≤ 57) ∧ ∃ z S', f_X7_digits (nI k) S = some (z, S') ∧ mF M S' p) := by
  obtain ⟨h1, h2, h3, h4, h5, h6⟩ := id h
  have hh := m_here (h4.mT x) h2 h3
  obtain ⟨F, hF⟩ : ∃ F, gF = F + 1 := ⟨3999, rfl⟩
  by_cases g : p < t ∧ 48 ≤ tx p ∧ tx p ≤ 57
  · obtain ⟨S', e1, e2⟩ := m_digL (q := q) (vs := vs) x hk k gF 0 0 p (gs S 150 15 (nI 0)) (by omega) (by unfold gF; omega) (by omega)
      ⟨q_gss rfl, by rw [q_gsk (by omega)]; exact h2, h3, h4.w _, by rw [q_gsn (by omega)]; exact h5, by rw [q_gsn (by omega)]; exact h6⟩
    refine Or.inl ⟨g, S', ?_, e2⟩
    rw [if_pos g.1] at hh
    unfold f_X7_digits
    rw [h1, if_pos (show nI 0 = (0 : Int32) from rfl), hh, Option.bind_some, q_l48, q_l57, m_in_t g.2.1 g.2.2 (by omega), Option.bind_some, if_neg (show ¬ gb true = 0 by decide), q_gLet]
    exact e1
  · refine Or.inr ⟨g, nI 0, gs S 150 15 (nI 1), ?_, q_gss rfl, by rw [q_gsk (by omega)]; exact h2, h4.w _⟩
    have hin : f_X7_in (if p < t then nI (tx p) else -nI 1) (nI 48) (nI 57) S = some false := by
      by_cases hp : p < t
      · have hx := (x.2.2 p hp).2
        rw [if_pos hp]
        refine m_in_f ?_ S
        by_cases a : tx p < 48
        · exact Or.inl (nI_lt a (by omega))
        · exact Or.inr (nI_lt (by omega) (by omega))
      · rw [if_neg hp]
        exact m_in_f (Or.inl (by decide)) S
    unfold f_X7_digits
    rw [h1, if_pos (show nI 0 = (0 : Int32) from rfl), hh, Option.bind_some, q_l48, q_l57, hin, Option.bind_some, if_pos (show gb false = 0 from rfl), q_gLet, hF, f_X7_digits_L34]
    simp (disch := omega) only [↓reduceIte, eq_self, Bool.true_eq_false, Bool.false_eq_true, q_seqr, q_seql, v_ig, v_ni, v_le, v_nle, v_lt, v_nlt, v_eq, v_ne, v_gbt, v_gbf, v_gbd, v_m1lt, v_m1ge, v_m1ne, v_m1e, ↓q_bindD, ↓q_gLet, Option.isSome_some, Option.getD_some, nI_add, pk_mul, q_sub, q_m1, q_div, q_modN, nI_clamp, if_true, if_false, q_l0, q_l1, q_l2, q_l3, q_l4, q_l5, q_l6, q_l7, q_l8, q_l9, q_l10, q_l11, q_l12, q_l13, q_l14, q_l15, q_l16, q_l19, q_l20, q_l22, q_l24, q_l30, q_l32, q_l34, q_l36, q_l45, q_l47, q_l48, q_l57, q_l58, q_l59, q_l60, q_l61, q_l66, q_l75, q_l76, q_l94, q_l97, q_l99, q_l100, q_l101, q_l104, q_l105, q_l108, q_l109, q_l111, q_l114, q_l115, q_l116, q_l117, q_l118, q_l119, q_l120, q_l126, q_l132, q_l133, q_l135, q_l136, q_l138, q_l146, q_l147, q_l148, q_l149, q_l150, q_l151, q_l152, q_l153, q_l154, q_l155, q_l156, q_l157, q_l158, q_l214, q_l229, q_l244, q_l259, q_l300, q_l999, q_l1813, q_l2072, q_l10000, q_l65536, q_l1000000000, q_gss]
theorem mX_fail {e : Nat} (hq : q ≤ 200) : ∀ (its : List (Nat × Nat)) (i : Nat) (S : gM), i + itN its ≤ 4 → mF M S e → ∃ S', mX q i its S = some S' ∧ mF M S' e := by
  intro its
  induction its with
  | nil => intro i S _ h; exact ⟨S, rfl, h⟩
  | cons it r ih =>
    intro i S hi h
    obtain ⟨k, c⟩ := it
    match k, hi with
    | 0, hi =>
      obtain ⟨S1, e1, h1⟩ := m_needsF h (nI c)
      obtain ⟨S2, e2, h2⟩ := ih i S1 hi h1
      exact ⟨S2, by rw [mX, e1, Option.bind_some, e2], h2⟩
    | k + 1, hi =>
      have hi : i + (itN r + 1) ≤ 4 := hi
      obtain ⟨z, S1, e1, h1⟩ := m_digitsF h (nI (k + 1))
      obtain ⟨S2, e2, h2⟩ := ih (i + 1) (gs S1 158 (q + (i + 1)) z) (by omega) ⟨by rw [q_gsn (by omega)]; exact h1.1, by rw [q_gsn (by omega)]; exact h1.2.1, h1.2.2.l _ _⟩
      refine ⟨S2, ?_, h2⟩
      rw [mX, e1, Option.bind_some, nI_add, if_pos (show gin (nI (q + (i + 1))) 300 from ⟨by rw [nI_toInt (by omega)]; omega, by rw [nI_toInt (by omega)]; omega⟩), q_gLet, nI_clamp (by omega)]
      exact e2
theorem mX_ok (x : mT M tx t) (hq : q ≤ 200) : ∀ (its : List (Nat × Nat)) (p : Nat) (vs : List Nat) (S : gM), itOK its → vs.length + itN its ≤ 4 → mS M S t p q vs →
    (∃ p' vs' S', pI tx t its p vs = (true, p', vs') ∧ mX q vs.length its S = some S' ∧ mS M S' t p' q vs') ∨ (∃ e vs' S', pI tx t its p vs = (false, e, vs') ∧ mX q vs.length its S = some S' ∧ mF M S' e) := by
  intro its
  induction its with
  | nil => intro p vs S _ _ h; exact Or.inl ⟨p, vs, S, rfl, rfl, h⟩
  | cons it r ih =>
    intro p vs S ho hv h
    obtain ⟨k, c⟩ := it
    match k, ho, hv with
    | 0, ho, hv =>
      obtain ⟨⟨hc0, hc⟩, ho⟩ := ho
      have hv : vs.length + itN r ≤ 4 := hv
      rcases m_needs x h hc hc0 with ⟨g1, g2, S1, e1, h1⟩ | ⟨g, S1, e1, h1⟩
      · have ep : pI tx t ((0, c) :: r) p vs = pI tx t r (p + 1) vs := by rw [pI, if_pos ⟨g1, g2⟩]
        have em : mX q vs.length ((0, c) :: r) S = mX q vs.length r S1 := by rw [mX, e1, Option.bind_some]
        rw [ep, em]
        exact ih (p + 1) vs S1 ho hv h1
      · obtain ⟨S2, e2, h2⟩ := mX_fail hq r vs.length S1 hv h1
        exact Or.inr ⟨p, vs, S2, by rw [pI, if_neg g], by rw [mX, e1, Option.bind_some, e2], h2⟩
    | k + 1, ho, hv =>
      have hv : vs.length + (itN r + 1) ≤ 4 := hv
      have ho' : k + 1 ≤ 3 ∧ itOK r := by
        match k, ho with
        | 0, ho => exact ⟨by omega, ho⟩
        | 1, ho => exact False.elim ho
        | 2, ho => exact ⟨by omega, ho⟩
        | k + 3, ho => exact False.elim ho
      have hg : gin (nI (q + (vs.length + 1))) 300 := ⟨by rw [nI_toInt (by omega)]; omega, by rw [nI_toInt (by omega)]; omega⟩
      rcases m_digits x h ho'.1 with ⟨g, S1, e1, h1⟩ | ⟨g, z, S1, e1, h1⟩
      · obtain ⟨a1, a2, a3, a4, a5, a6⟩ := h1
        have ep : pI tx t ((k + 1, c) :: r) p vs = pI tx t r (dN tx t (k + 1) p 0).2 (vs ++ [(dN tx t (k + 1) p 0).1]) := by rw [pI, if_pos g]
        have em : mX q vs.length ((k + 1, c) :: r) S = mX q (vs ++ [(dN tx t (k + 1) p 0).1]).length r (gs S1 158 (q + (vs.length + 1)) (nI (dN tx t (k + 1) p 0).1)) := by
          rw [mX, e1, Option.bind_some, nI_add, if_pos hg, q_gLet, nI_clamp (by omega), List.length_append]
          rfl
        rw [ep, em]
        refine ih _ _ _ ho'.2 (by rw [List.length_append, List.length_cons, List.length_nil]; omega) ⟨by rw [q_gsn (by omega)]; exact a1, by rw [q_gsn (by omega)]; exact a2, a3, a4.l _ _, fun j c hj => ?_, fun j hj => by rw [q_gsk (by omega)]; exact a6 j hj⟩
        by_cases hjl : j < vs.length
        · rw [List.getElem?_append_left hjl] at hj
          rw [q_gsk (by omega)]
          exact a5 j c hj
        · rw [List.getElem?_append_right (by omega)] at hj
          have hj0 : j = vs.length := by
            by_cases y : j = vs.length
            · exact y
            · rw [List.getElem?_eq_none (by simp; omega)] at hj
              cases hj
          subst hj0
          rw [Nat.sub_self] at hj
          have e := Option.some.inj hj
          rw [q_gss (by omega)]
          exact congrArg nI e
      · obtain ⟨S2, e2, h2⟩ := mX_fail hq r (vs.length + 1) (gs S1 158 (q + (vs.length + 1)) z) (by omega) ⟨by rw [q_gsn (by omega)]; exact h1.1, by rw [q_gsn (by omega)]; exact h1.2.1, h1.2.2.l _ _⟩
        refine Or.inr ⟨p, vs, S2, by rw [pI, if_neg g], ?_, h2⟩
        rw [mX, e1, Option.bind_some, nI_add, if_pos hg, q_gLet, nI_clamp (by omega)]
        exact e2
end RM
