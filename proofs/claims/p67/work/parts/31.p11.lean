/-! The heaviest above; the ranks by weight. -/
def idN (t : tC) : Nat := t.1.toNatClampNeg
/-- t comes before t' in the order of weights -/
def hvT (t t' : tC) : Bool := decide (wN t' < wN t ∨ (wN t = wN t' ∧ idN t < idN t'))
theorem hv_irr (t : tC) : hvT t t = false := by simp [hvT]
theorem hv_trans {a b c : tC} (h1 : hvT a b = true) (h2 : hvT b c = true) : hvT a c = true := by
  simp only [hvT, decide_eq_true_eq] at h1 h2 ⊢
  omega
theorem countP_lt {α : Type} {L : List α} {P Q : α → Bool} (h : ∀ x ∈ L, P x = true → Q x = true) {y : α} (hy : y ∈ L) (hQ : Q y = true) (hP : P y = false) : L.countP P < L.countP Q := by
  induction L with
  | nil => cases hy
  | cons a L ih =>
    rw [List.countP_cons, List.countP_cons]
    have hle : L.countP P ≤ L.countP Q := List.countP_mono_left (fun x hx => h x (List.mem_cons_of_mem _ hx))
    rcases List.mem_cons.mp hy with rfl | hy
    · rw [hQ, hP, if_neg Bool.false_ne_true, if_pos rfl]
      omega
    · have := ih (fun x hx => h x (List.mem_cons_of_mem _ hx)) hy
      have ha := h a List.mem_cons_self
      by_cases e : P a = true
      · rw [if_pos e, if_pos (ha e)]
        omega
      · rw [if_neg e]
        split <;> omega
section PH
variable {M : gM} {o : Nat} {r : Nat → Int32} {β : Nat}
theorem idwt (w : gRow β r) (hβ : β ≤ 600) {t : tC} (ht : t ∈ tAll r) : t.1 = nI (idN t) ∧ idN t ≤ 600 ∧ t.2.1 = nI (wN t) ∧ 1 ≤ wN t ∧ wN t ≤ 30 := by
  obtain ⟨⟨i, i1, i2⟩, ⟨u, u1, u2, u3⟩, -⟩ := w.t ht
  have hn := w.nx.2
  have e1 : idN t = i := by unfold idN; rw [i1]; exact nI_clamp (by omega)
  have e2 : wN t = u := by unfold wN; rw [u1]; exact nI_clamp (by omega)
  rw [e1, e2]
  exact ⟨i1, by omega, u1, u2, u3⟩
theorem all_uniq (g : gSim M o r) {t t' : tC} (ht : t ∈ tAll r) (ht' : t' ∈ tAll r) (h : t.1 = t'.1) : t = t' := by
  obtain ⟨c, hc, h75, hP, hp⟩ := g.rows
  obtain ⟨i, hi, rfl⟩ := rows_of hP ht
  obtain ⟨j, hj, rfl⟩ := rows_of hP ht'
  rw [rows_inj hp hi hj h]
theorem hv_tri (g : gSim M o r) (w : gRow β r) (hβ : β ≤ 600) {t t' : tC} (ht : t ∈ tAll r) (ht' : t' ∈ tAll r) : hvT t t' = true ∨ t = t' ∨ hvT t' t = true := by
  have a := idwt w hβ ht
  have a' := idwt w hβ ht'
  simp only [hvT, decide_eq_true_eq]
  by_cases e : idN t = idN t'
  · exact Or.inr (Or.inl (all_uniq g ht ht' (by rw [a.1, a'.1, e])))
  · omega
/-- rows' order is the order of ids -/
theorem row_id (w : gRow β r) (hβ : β ≤ 600) {c : Nat} (hP : (tRows M o c).Perm (tAll r)) (hp : (tRows M o c).Pairwise (fun x y => x.1 < y.1)) {i j : Nat} (hi : i < c) (hj : j < c) : i < j ↔ idN (tRow M o i) < idN (tRow M o j) := by
  have key : ∀ i j, i < j → j < c → idN (tRow M o i) < idN (tRow M o j) := fun i j hij hj => by
    have h := (List.pairwise_iff_getElem.mp hp) i j (by rw [tRows_len]; omega) (by rw [tRows_len]; omega) hij
    have h : (tRow M o i).1 < (tRow M o j).1 := by simpa [tRows] using h
    have a := idwt w hβ (of_rows hP (show i < c by omega))
    have a' := idwt w hβ (of_rows hP hj)
    rw [a.1, a'.1, nI_ltI (by omega) (by omega)] at h
    exact h
  constructor
  · exact fun h => key i j h hj
  · intro h
    rcases Nat.lt_trichotomy i j with h1 | h1 | h1
    · exact h1
    · subst h1; omega
    · have := key j i h1 hi
      omega
theorem m_isHeavier (hr : M 151 = r) (w : gRow β r) (hβ : β ≤ 600) {q q' : Nat} (hq : q < 60) (hq' : q' < 60) (hf : fullB r q = true) (hf' : fullB r q' = true) : f_X7_isHeavier (nI q) (nI q') M = some (hvT (tCell r q) (tCell r q')) := by
  have a := idwt w hβ (cell_mem hq hf)
  have a' := idwt w hβ (cell_mem hq' hf')
  have a1 : r (94 + q) = nI (wN (tCell r q)) := a.2.2.1
  have a2 : r (94 + q') = nI (wN (tCell r q')) := a'.2.2.1
  have a3 : r (34 + q) = nI (idN (tCell r q)) := a.1
  have a4 : r (34 + q') = nI (idN (tCell r q')) := a'.1
  unfold f_X7_isHeavier hvT
  simp (disch := omega) only [q_seqr, q_seql, q_ig, q_ni, q_le, q_nle, q_lt, q_nlt, q_eq, q_ne, q_eqr, q_gbt, q_gbf, q_gbd, q_m1lt, q_m1ge, q_m1ne, q_m1eq, q_m1e, Option.bind_some, gLet, nI_add, pk_mul, q_sub, q_m1, q_div, q_modN, nI_clamp, if_true, if_false, Bool.false_eq_true, q_l0, q_l1, q_l2, q_l3, q_l4, q_l5, q_l6, q_l7, q_l8, q_l9, q_l10, q_l11, q_l12, q_l13, q_l14, q_l15, q_l16, q_l19, q_l20, q_l22, q_l24, q_l30, q_l32, q_l34, q_l36, q_l45, q_l47, q_l48, q_l57, q_l58, q_l59, q_l60, q_l61, q_l66, q_l75, q_l76, q_l94, q_l97, q_l99, q_l100, q_l101, q_l104, q_l105, q_l108, q_l109, q_l111, q_l114, q_l115, q_l116, q_l117, q_l118, q_l119, q_l120, q_l126, q_l132, q_l133, q_l135, q_l136, q_l138, q_l146, q_l147, q_l148, q_l149, q_l150, q_l151, q_l152, q_l153, q_l154, q_l155, q_l156, q_l157, q_l158, q_l214, q_l229, q_l244, q_l259, q_l300, q_l999, q_l1813, q_l2072, q_l10000, q_l65536, q_l1000000000, hr, a1, a2, a3, a4]
  by_cases e : wN (tCell r q') < wN (tCell r q)
  · simp (disch := omega) only [q_seqr, q_seql, q_ig, q_ni, q_le, q_nle, q_lt, q_nlt, q_eq, q_ne, q_eqr, q_gbt, q_gbf, q_gbd, q_m1lt, q_m1ge, q_m1ne, q_m1eq, q_m1e, Option.bind_some, gLet, nI_add, pk_mul, q_sub, q_m1, q_div, q_modN, nI_clamp, if_true, if_false, Bool.false_eq_true, q_l0, q_l1, q_l2, q_l3, q_l4, q_l5, q_l6, q_l7, q_l8, q_l9, q_l10, q_l11, q_l12, q_l13, q_l14, q_l15, q_l16, q_l19, q_l20, q_l22, q_l24, q_l30, q_l32, q_l34, q_l36, q_l45, q_l47, q_l48, q_l57, q_l58, q_l59, q_l60, q_l61, q_l66, q_l75, q_l76, q_l94, q_l97, q_l99, q_l100, q_l101, q_l104, q_l105, q_l108, q_l109, q_l111, q_l114, q_l115, q_l116, q_l117, q_l118, q_l119, q_l120, q_l126, q_l132, q_l133, q_l135, q_l136, q_l138, q_l146, q_l147, q_l148, q_l149, q_l150, q_l151, q_l152, q_l153, q_l154, q_l155, q_l156, q_l157, q_l158, q_l214, q_l229, q_l244, q_l259, q_l300, q_l999, q_l1813, q_l2072, q_l10000, q_l65536, q_l1000000000, q_spos]
    simp [e]
  · simp (disch := omega) only [q_seqr, q_seql, q_ig, q_ni, q_le, q_nle, q_lt, q_nlt, q_eq, q_ne, q_eqr, q_gbt, q_gbf, q_gbd, q_m1lt, q_m1ge, q_m1ne, q_m1eq, q_m1e, Option.bind_some, gLet, nI_add, pk_mul, q_sub, q_m1, q_div, q_modN, nI_clamp, if_true, if_false, Bool.false_eq_true, q_l0, q_l1, q_l2, q_l3, q_l4, q_l5, q_l6, q_l7, q_l8, q_l9, q_l10, q_l11, q_l12, q_l13, q_l14, q_l15, q_l16, q_l19, q_l20, q_l22, q_l24, q_l30, q_l32, q_l34, q_l36, q_l45, q_l47, q_l48, q_l57, q_l58, q_l59, q_l60, q_l61, q_l66, q_l75, q_l76, q_l94, q_l97, q_l99, q_l100, q_l101, q_l104, q_l105, q_l108, q_l109, q_l111, q_l114, q_l115, q_l116, q_l117, q_l118, q_l119, q_l120, q_l126, q_l132, q_l133, q_l135, q_l136, q_l138, q_l146, q_l147, q_l148, q_l149, q_l150, q_l151, q_l152, q_l153, q_l154, q_l155, q_l156, q_l157, q_l158, q_l214, q_l229, q_l244, q_l259, q_l300, q_l999, q_l1813, q_l2072, q_l10000, q_l65536, q_l1000000000, q_sneg]
    by_cases e2 : wN (tCell r q) = wN (tCell r q')
    · simp (disch := omega) only [q_seqr, q_seql, q_ig, q_ni, q_le, q_nle, q_lt, q_nlt, q_eq, q_ne, q_eqr, q_gbt, q_gbf, q_gbd, q_m1lt, q_m1ge, q_m1ne, q_m1eq, q_m1e, Option.bind_some, gLet, nI_add, pk_mul, q_sub, q_m1, q_div, q_modN, nI_clamp, if_true, if_false, Bool.false_eq_true, q_l0, q_l1, q_l2, q_l3, q_l4, q_l5, q_l6, q_l7, q_l8, q_l9, q_l10, q_l11, q_l12, q_l13, q_l14, q_l15, q_l16, q_l19, q_l20, q_l22, q_l24, q_l30, q_l32, q_l34, q_l36, q_l45, q_l47, q_l48, q_l57, q_l58, q_l59, q_l60, q_l61, q_l66, q_l75, q_l76, q_l94, q_l97, q_l99, q_l100, q_l101, q_l104, q_l105, q_l108, q_l109, q_l111, q_l114, q_l115, q_l116, q_l117, q_l118, q_l119, q_l120, q_l126, q_l132, q_l133, q_l135, q_l136, q_l138, q_l146, q_l147, q_l148, q_l149, q_l150, q_l151, q_l152, q_l153, q_l154, q_l155, q_l156, q_l157, q_l158, q_l214, q_l229, q_l244, q_l259, q_l300, q_l999, q_l1813, q_l2072, q_l10000, q_l65536, q_l1000000000, e2]
      by_cases e3 : idN (tCell r q') ≤ idN (tCell r q)
      · simp (disch := omega) only [q_seqr, q_seql, q_ig, q_ni, q_le, q_nle, q_lt, q_nlt, q_eq, q_ne, q_eqr, q_gbt, q_gbf, q_gbd, q_m1lt, q_m1ge, q_m1ne, q_m1eq, q_m1e, Option.bind_some, gLet, nI_add, pk_mul, q_sub, q_m1, q_div, q_modN, nI_clamp, if_true, if_false, Bool.false_eq_true, q_l0, q_l1, q_l2, q_l3, q_l4, q_l5, q_l6, q_l7, q_l8, q_l9, q_l10, q_l11, q_l12, q_l13, q_l14, q_l15, q_l16, q_l19, q_l20, q_l22, q_l24, q_l30, q_l32, q_l34, q_l36, q_l45, q_l47, q_l48, q_l57, q_l58, q_l59, q_l60, q_l61, q_l66, q_l75, q_l76, q_l94, q_l97, q_l99, q_l100, q_l101, q_l104, q_l105, q_l108, q_l109, q_l111, q_l114, q_l115, q_l116, q_l117, q_l118, q_l119, q_l120, q_l126, q_l132, q_l133, q_l135, q_l136, q_l138, q_l146, q_l147, q_l148, q_l149, q_l150, q_l151, q_l152, q_l153, q_l154, q_l155, q_l156, q_l157, q_l158, q_l214, q_l229, q_l244, q_l259, q_l300, q_l999, q_l1813, q_l2072, q_l10000, q_l65536, q_l1000000000]
        simp; omega
      · simp (disch := omega) only [q_seqr, q_seql, q_ig, q_ni, q_le, q_nle, q_lt, q_nlt, q_eq, q_ne, q_eqr, q_gbt, q_gbf, q_gbd, q_m1lt, q_m1ge, q_m1ne, q_m1eq, q_m1e, Option.bind_some, gLet, nI_add, pk_mul, q_sub, q_m1, q_div, q_modN, nI_clamp, if_true, if_false, Bool.false_eq_true, q_l0, q_l1, q_l2, q_l3, q_l4, q_l5, q_l6, q_l7, q_l8, q_l9, q_l10, q_l11, q_l12, q_l13, q_l14, q_l15, q_l16, q_l19, q_l20, q_l22, q_l24, q_l30, q_l32, q_l34, q_l36, q_l45, q_l47, q_l48, q_l57, q_l58, q_l59, q_l60, q_l61, q_l66, q_l75, q_l76, q_l94, q_l97, q_l99, q_l100, q_l101, q_l104, q_l105, q_l108, q_l109, q_l111, q_l114, q_l115, q_l116, q_l117, q_l118, q_l119, q_l120, q_l126, q_l132, q_l133, q_l135, q_l136, q_l138, q_l146, q_l147, q_l148, q_l149, q_l150, q_l151, q_l152, q_l153, q_l154, q_l155, q_l156, q_l157, q_l158, q_l214, q_l229, q_l244, q_l259, q_l300, q_l999, q_l1813, q_l2072, q_l10000, q_l65536, q_l1000000000]
        simp; omega
    · simp (disch := omega) only [q_seqr, q_seql, q_ig, q_ni, q_le, q_nle, q_lt, q_nlt, q_eq, q_ne, q_eqr, q_gbt, q_gbf, q_gbd, q_m1lt, q_m1ge, q_m1ne, q_m1eq, q_m1e, Option.bind_some, gLet, nI_add, pk_mul, q_sub, q_m1, q_div, q_modN, nI_clamp, if_true, if_false, Bool.false_eq_true, q_l0, q_l1, q_l2, q_l3, q_l4, q_l5, q_l6, q_l7, q_l8, q_l9, q_l10, q_l11, q_l12, q_l13, q_l14, q_l15, q_l16, q_l19, q_l20, q_l22, q_l24, q_l30, q_l32, q_l34, q_l36, q_l45, q_l47, q_l48, q_l57, q_l58, q_l59, q_l60, q_l61, q_l66, q_l75, q_l76, q_l94, q_l97, q_l99, q_l100, q_l101, q_l104, q_l105, q_l108, q_l109, q_l111, q_l114, q_l115, q_l116, q_l117, q_l118, q_l119, q_l120, q_l126, q_l132, q_l133, q_l135, q_l136, q_l138, q_l146, q_l147, q_l148, q_l149, q_l150, q_l151, q_l152, q_l153, q_l154, q_l155, q_l156, q_l157, q_l158, q_l214, q_l229, q_l244, q_l259, q_l300, q_l999, q_l1813, q_l2072, q_l10000, q_l65536, q_l1000000000, q_sz]
      simp; omega
theorem m_isHeavier_s (hr : M 151 = r) {q q' : Nat} (hq : q < 60) (hq' : q' < 60) : ∃ b, f_X7_isHeavier (nI q) (nI q') M = some b := by
  unfold f_X7_isHeavier
  simp (disch := omega) only [q_seqr, q_seql, q_ig, q_ni, q_le, q_nle, q_lt, q_nlt, q_eq, q_ne, q_eqr, q_gbt, q_gbf, q_gbd, q_m1lt, q_m1ge, q_m1ne, q_m1eq, q_m1e, Option.bind_some, gLet, nI_add, pk_mul, q_sub, q_m1, q_div, q_modN, nI_clamp, if_true, if_false, Bool.false_eq_true, q_l0, q_l1, q_l2, q_l3, q_l4, q_l5, q_l6, q_l7, q_l8, q_l9, q_l10, q_l11, q_l12, q_l13, q_l14, q_l15, q_l16, q_l19, q_l20, q_l22, q_l24, q_l30, q_l32, q_l34, q_l36, q_l45, q_l47, q_l48, q_l57, q_l58, q_l59, q_l60, q_l61, q_l66, q_l75, q_l76, q_l94, q_l97, q_l99, q_l100, q_l101, q_l104, q_l105, q_l108, q_l109, q_l111, q_l114, q_l115, q_l116, q_l117, q_l118, q_l119, q_l120, q_l126, q_l132, q_l133, q_l135, q_l136, q_l138, q_l146, q_l147, q_l148, q_l149, q_l150, q_l151, q_l152, q_l153, q_l154, q_l155, q_l156, q_l157, q_l158, q_l214, q_l229, q_l244, q_l259, q_l300, q_l999, q_l1813, q_l2072, q_l10000, q_l65536, q_l1000000000, hr]
  (repeat' split) <;> exact ⟨_, rfl⟩
/-- the class's search for the heaviest above -/
def hbStep (M : gM) (o j k : Nat) (a : Option Nat) : Option Nat :=
  if M (o + 5) k = M (o + 5) j ∧ M (o + 6) j < M (o + 6) k then (match a with | none => some k | some b => if wN (tRow M o b) < wN (tRow M o k) then some k else some b) else a
theorem c_heaviest (g : gSim M o r) (w : gRow β r) (hβ : β ≤ 600) {c : Nat} (hc : M (o + 1) 6 = nI c) (h75 : c ≤ 75) (hP : (tRows M o c).Perm (tAll r)) (hp : (tRows M o c).Pairwise (fun x y => x.1 < y.1)) {j : Nat} (hj : j < c) :
    ∃ a, f_X0_heaviestRowAbove o (nI j) M = some (encO a) ∧ (a = none → ∀ i, i < c → ¬ (M (o + 5) i = M (o + 5) j ∧ M (o + 6) j < M (o + 6) i)) ∧
      ∀ b, a = some b → b < c ∧ (M (o + 5) b = M (o + 5) j ∧ M (o + 6) j < M (o + 6) b) ∧ ∀ i, i < c → (M (o + 5) i = M (o + 5) j ∧ M (o + 6) j < M (o + 6) i) → i = b ∨ hvT (tRow M o b) (tRow M o i) = true := by
  have wt : ∀ k, k < c → M (o + 3) k = nI (wN (tRow M o k)) ∧ wN (tRow M o k) ≤ 30 := fun k hk => by
    have a := idwt w hβ (of_rows hP hk)
    exact ⟨a.2.2.1, a.2.2.2.2⟩
  obtain ⟨a, hI, -, h⟩ := lp_fold (fun n k a => f_X0_heaviestRowAbove_L4 o M (nI j) n k (encO a)) encO (fun k a => hbStep M o j k a)
    (fun k a => (a = none → ∀ i, i < k → ¬ (M (o + 5) i = M (o + 5) j ∧ M (o + 6) j < M (o + 6) i)) ∧ ∀ b, a = some b → b < k ∧ (M (o + 5) b = M (o + 5) j ∧ M (o + 6) j < M (o + 6) b) ∧ ∀ i, i < k → (M (o + 5) i = M (o + 5) j ∧ M (o + 6) j < M (o + 6) i) → wN (tRow M o i) < wN (tRow M o b) ∨ (wN (tRow M o i) = wN (tRow M o b) ∧ b ≤ i)) c (fun n k a hk hI => by
    show f_X0_heaviestRowAbove_L4 o M (nI j) (n + 1) (nI k) (encO a) = f_X0_heaviestRowAbove_L4 o M (nI j) n (nI (k + 1)) (encO (hbStep M o j k a)) ∧ _
    rw [f_X0_heaviestRowAbove_L4]
    by_cases e : M (o + 5) k = M (o + 5) j ∧ M (o + 6) j < M (o + 6) k
    · have ed : decide (M (o + 5) k = M (o + 5) j ∧ M (o + 6) j < M (o + 6) k) = true := decide_eq_true e
      cases a with
      | none =>
        have hs : hbStep M o j k none = some k := by unfold hbStep; rw [if_pos e]
        rw [hs]
        refine ⟨?_, ⟨fun h => (by cases h), fun b hb => ?_⟩⟩
        · simp (disch := omega) only [q_seqr, q_seql, q_ig, q_ni, q_le, q_nle, q_lt, q_nlt, q_eq, q_ne, q_eqr, q_gbt, q_gbf, q_gbd, q_m1lt, q_m1ge, q_m1ne, q_m1eq, q_m1e, Option.bind_some, gLet, nI_add, pk_mul, q_sub, q_m1, q_div, q_modN, nI_clamp, if_true, if_false, Bool.false_eq_true, q_l0, q_l1, q_l2, q_l3, q_l4, q_l5, q_l6, q_l7, q_l8, q_l9, q_l10, q_l11, q_l12, q_l13, q_l14, q_l15, q_l16, q_l19, q_l20, q_l22, q_l24, q_l30, q_l32, q_l34, q_l36, q_l45, q_l47, q_l48, q_l57, q_l58, q_l59, q_l60, q_l61, q_l66, q_l75, q_l76, q_l94, q_l97, q_l99, q_l100, q_l101, q_l104, q_l105, q_l108, q_l109, q_l111, q_l114, q_l115, q_l116, q_l117, q_l118, q_l119, q_l120, q_l126, q_l132, q_l133, q_l135, q_l136, q_l138, q_l146, q_l147, q_l148, q_l149, q_l150, q_l151, q_l152, q_l153, q_l154, q_l155, q_l156, q_l157, q_l158, q_l214, q_l229, q_l244, q_l259, q_l300, q_l999, q_l1813, q_l2072, q_l10000, q_l65536, q_l1000000000, hc, c_isAbove hc h75 hk hj, ed, encO]
        · cases hb
          refine ⟨by omega, e, fun i hi hab => ?_⟩
          by_cases ik : i = k
          · subst ik; exact Or.inr ⟨rfl, Nat.le_refl _⟩
          · exact absurd hab (hI.1 rfl i (by omega))
      | some b =>
        obtain ⟨b1, b2, b3⟩ := hI.2 b rfl
        have wk := wt k hk
        have wb := wt b (by omega)
        by_cases e2 : wN (tRow M o b) < wN (tRow M o k)
        · have hs : hbStep M o j k (some b) = some k := by unfold hbStep; rw [if_pos e]; simp [e2]
          rw [hs]
          refine ⟨?_, ⟨fun h => (by cases h), fun b' hb' => ?_⟩⟩
          · simp (disch := omega) only [q_seqr, q_seql, q_ig, q_ni, q_le, q_nle, q_lt, q_nlt, q_eq, q_ne, q_eqr, q_gbt, q_gbf, q_gbd, q_m1lt, q_m1ge, q_m1ne, q_m1eq, q_m1e, Option.bind_some, gLet, nI_add, pk_mul, q_sub, q_m1, q_div, q_modN, nI_clamp, if_true, if_false, Bool.false_eq_true, q_l0, q_l1, q_l2, q_l3, q_l4, q_l5, q_l6, q_l7, q_l8, q_l9, q_l10, q_l11, q_l12, q_l13, q_l14, q_l15, q_l16, q_l19, q_l20, q_l22, q_l24, q_l30, q_l32, q_l34, q_l36, q_l45, q_l47, q_l48, q_l57, q_l58, q_l59, q_l60, q_l61, q_l66, q_l75, q_l76, q_l94, q_l97, q_l99, q_l100, q_l101, q_l104, q_l105, q_l108, q_l109, q_l111, q_l114, q_l115, q_l116, q_l117, q_l118, q_l119, q_l120, q_l126, q_l132, q_l133, q_l135, q_l136, q_l138, q_l146, q_l147, q_l148, q_l149, q_l150, q_l151, q_l152, q_l153, q_l154, q_l155, q_l156, q_l157, q_l158, q_l214, q_l229, q_l244, q_l259, q_l300, q_l999, q_l1813, q_l2072, q_l10000, q_l65536, q_l1000000000, hc, c_isAbove hc h75 hk hj, ed, encO, s_weight hc h75 hk, s_weight hc h75 (show b < c by omega), wk.1, wb.1]
          · cases hb'
            refine ⟨by omega, e, fun i hi hab => ?_⟩
            by_cases ik : i = k
            · subst ik; exact Or.inr ⟨rfl, Nat.le_refl _⟩
            · have := b3 i (by omega) hab
              omega
        · have hs : hbStep M o j k (some b) = some b := by unfold hbStep; rw [if_pos e]; simp [e2]
          rw [hs]
          refine ⟨?_, ⟨fun h => (by cases h), fun b' hb' => ?_⟩⟩
          · simp (disch := omega) only [q_seqr, q_seql, q_ig, q_ni, q_le, q_nle, q_lt, q_nlt, q_eq, q_ne, q_eqr, q_gbt, q_gbf, q_gbd, q_m1lt, q_m1ge, q_m1ne, q_m1eq, q_m1e, Option.bind_some, gLet, nI_add, pk_mul, q_sub, q_m1, q_div, q_modN, nI_clamp, if_true, if_false, Bool.false_eq_true, q_l0, q_l1, q_l2, q_l3, q_l4, q_l5, q_l6, q_l7, q_l8, q_l9, q_l10, q_l11, q_l12, q_l13, q_l14, q_l15, q_l16, q_l19, q_l20, q_l22, q_l24, q_l30, q_l32, q_l34, q_l36, q_l45, q_l47, q_l48, q_l57, q_l58, q_l59, q_l60, q_l61, q_l66, q_l75, q_l76, q_l94, q_l97, q_l99, q_l100, q_l101, q_l104, q_l105, q_l108, q_l109, q_l111, q_l114, q_l115, q_l116, q_l117, q_l118, q_l119, q_l120, q_l126, q_l132, q_l133, q_l135, q_l136, q_l138, q_l146, q_l147, q_l148, q_l149, q_l150, q_l151, q_l152, q_l153, q_l154, q_l155, q_l156, q_l157, q_l158, q_l214, q_l229, q_l244, q_l259, q_l300, q_l999, q_l1813, q_l2072, q_l10000, q_l65536, q_l1000000000, hc, c_isAbove hc h75 hk hj, ed, encO, s_weight hc h75 hk, s_weight hc h75 (show b < c by omega), wk.1, wb.1]
          · cases hb'
            refine ⟨by omega, b2, fun i hi hab => ?_⟩
            by_cases ik : i = k
            · subst ik; omega
            · exact b3 i (by omega) hab
    · have ed : decide (M (o + 5) k = M (o + 5) j ∧ M (o + 6) j < M (o + 6) k) = false := decide_eq_false e
      have hs : hbStep M o j k a = a := by unfold hbStep; rw [if_neg e]
      rw [hs]
      refine ⟨?_, ⟨fun h i hi hab => ?_, fun b hb => ?_⟩⟩
      · simp (disch := omega) only [q_seqr, q_seql, q_ig, q_ni, q_le, q_nle, q_lt, q_nlt, q_eq, q_ne, q_eqr, q_gbt, q_gbf, q_gbd, q_m1lt, q_m1ge, q_m1ne, q_m1eq, q_m1e, Option.bind_some, gLet, nI_add, pk_mul, q_sub, q_m1, q_div, q_modN, nI_clamp, if_true, if_false, Bool.false_eq_true, q_l0, q_l1, q_l2, q_l3, q_l4, q_l5, q_l6, q_l7, q_l8, q_l9, q_l10, q_l11, q_l12, q_l13, q_l14, q_l15, q_l16, q_l19, q_l20, q_l22, q_l24, q_l30, q_l32, q_l34, q_l36, q_l45, q_l47, q_l48, q_l57, q_l58, q_l59, q_l60, q_l61, q_l66, q_l75, q_l76, q_l94, q_l97, q_l99, q_l100, q_l101, q_l104, q_l105, q_l108, q_l109, q_l111, q_l114, q_l115, q_l116, q_l117, q_l118, q_l119, q_l120, q_l126, q_l132, q_l133, q_l135, q_l136, q_l138, q_l146, q_l147, q_l148, q_l149, q_l150, q_l151, q_l152, q_l153, q_l154, q_l155, q_l156, q_l157, q_l158, q_l214, q_l229, q_l244, q_l259, q_l300, q_l999, q_l1813, q_l2072, q_l10000, q_l65536, q_l1000000000, hc, c_isAbove hc h75 hk hj, ed]
      · by_cases ik : i = k
        · subst ik; exact e hab
        · exact hI.1 h i (by omega) hab
      · obtain ⟨b1, b2, b3⟩ := hI.2 b hb
        refine ⟨by omega, b2, fun i hi hab => ?_⟩
        by_cases ik : i = k
        · subst ik; exact absurd hab e
        · exact b3 i (by omega) hab) (fun n a hI => by
    show f_X0_heaviestRowAbove_L4 o M (nI j) (n + 1) (nI c) (encO a) = _
    rw [f_X0_heaviestRowAbove_L4]
    simp (disch := omega) only [q_seqr, q_seql, q_ig, q_ni, q_le, q_nle, q_lt, q_nlt, q_eq, q_ne, q_eqr, q_gbt, q_gbf, q_gbd, q_m1lt, q_m1ge, q_m1ne, q_m1eq, q_m1e, Option.bind_some, gLet, nI_add, pk_mul, q_sub, q_m1, q_div, q_modN, nI_clamp, if_true, if_false, Bool.false_eq_true, q_l0, q_l1, q_l2, q_l3, q_l4, q_l5, q_l6, q_l7, q_l8, q_l9, q_l10, q_l11, q_l12, q_l13, q_l14, q_l15, q_l16, q_l19, q_l20, q_l22, q_l24, q_l30, q_l32, q_l34, q_l36, q_l45, q_l47, q_l48, q_l57, q_l58, q_l59, q_l60, q_l61, q_l66, q_l75, q_l76, q_l94, q_l97, q_l99, q_l100, q_l101, q_l104, q_l105, q_l108, q_l109, q_l111, q_l114, q_l115, q_l116, q_l117, q_l118, q_l119, q_l120, q_l126, q_l132, q_l133, q_l135, q_l136, q_l138, q_l146, q_l147, q_l148, q_l149, q_l150, q_l151, q_l152, q_l153, q_l154, q_l155, q_l156, q_l157, q_l158, q_l214, q_l229, q_l244, q_l259, q_l300, q_l999, q_l1813, q_l2072, q_l10000, q_l65536, q_l1000000000, hc]) c gF 0 none (by omega) (by unfold gF; omega) ⟨fun _ i hi => by omega, fun b hb => by cases hb⟩
  refine ⟨a, ?_, hI.1, fun b hb => ?_⟩
  · unfold f_X0_heaviestRowAbove
    rw [show (0 : Int32) = nI 0 from rfl, show (-1 : Int32) = encO none from rfl]
    exact h
  · obtain ⟨b1, b2, b3⟩ := hI.2 b hb
    refine ⟨b1, b2, fun i hi hab => ?_⟩
    by_cases ib : i = b
    · exact Or.inl ib
    · right
      have := b3 i hi hab
      have hid := row_id w hβ hP hp b1 hi
      simp only [hvT, decide_eq_true_eq]
      omega
/-- the reference's -/
theorem m_heaviest {v : Int32} (hr : M 151 = r) (w : gRow β r) (hβ : β ≤ 600) {q : Nat} (hq : q < 60) (hf : fullB r q = true) (ha : 1 ≤ hN r (q / 5) - 1 - q % 5) :
    ∃ m, 1 ≤ m ∧ m ≤ hN r (q / 5) - 1 - q % 5 ∧ f_X7_heaviestAbove_L32 (nI q) v gF (nI 2) (nI (q + 1)) M = some (r (34 + (q + m)), gs M 150 13 (nI 0)) ∧ ∀ m', 1 ≤ m' → m' ≤ hN r (q / 5) - 1 - q % 5 → hvT (tCell r (q + m')) (tCell r (q + m)) = false := by
  have h5 := (w.h (p := q / 5) (by omega)).2
  have hab := m_above hr w hq hf
  have full : ∀ m, m ≤ hN r (q / 5) - 1 - q % 5 → q + m < 60 ∧ fullB r (q + m) = true := fun m hm => by
    have e1 : (q + m) / 5 = q / 5 := by omega
    have e2 : (q + m) % 5 = q % 5 + m := by omega
    refine ⟨by omega, ?_⟩
    unfold fullB
    rw [e1, e2]
    exact decide_eq_true (by omega)
  obtain ⟨m, ⟨m1, m2, m3⟩, -, h⟩ := lp_fold (fun n k a => f_X7_heaviestAbove_L32 (nI q) v n k (nI (q + a)) M) (fun a => (r (34 + (q + a)), gs M 150 13 (nI 0))) (fun k a => if hvT (tCell r (q + k)) (tCell r (q + a)) = true then k else a)
    (fun k a => 1 ≤ a ∧ a < k ∧ ∀ m', 1 ≤ m' → m' < k → hvT (tCell r (q + m')) (tCell r (q + a)) = false) (hN r (q / 5) - 1 - q % 5 + 1) (fun n k a hk hI => by
    obtain ⟨i1, i2, i3⟩ := hI
    obtain ⟨f1, f2⟩ := full k (by omega)
    obtain ⟨g1, g2⟩ := full a (by omega)
    have hh := m_isHeavier hr w hβ f1 g1 f2 g2
    show f_X7_heaviestAbove_L32 (nI q) v (n + 1) (nI k) (nI (q + a)) M = f_X7_heaviestAbove_L32 (nI q) v n (nI (k + 1)) (nI (q + if hvT (tCell r (q + k)) (tCell r (q + a)) = true then k else a)) M ∧ _
    rw [f_X7_heaviestAbove_L32]
    cases e : hvT (tCell r (q + k)) (tCell r (q + a)) with
    | true =>
      rw [if_pos rfl]
      refine ⟨?_, by omega, by omega, fun m' h1 h2 => ?_⟩
      · simp (disch := omega) only [q_seqr, q_seql, q_ig, q_ni, q_le, q_nle, q_lt, q_nlt, q_eq, q_ne, q_eqr, q_gbt, q_gbf, q_gbd, q_m1lt, q_m1ge, q_m1ne, q_m1eq, q_m1e, Option.bind_some, gLet, nI_add, pk_mul, q_sub, q_m1, q_div, q_modN, nI_clamp, if_true, if_false, Bool.false_eq_true, q_l0, q_l1, q_l2, q_l3, q_l4, q_l5, q_l6, q_l7, q_l8, q_l9, q_l10, q_l11, q_l12, q_l13, q_l14, q_l15, q_l16, q_l19, q_l20, q_l22, q_l24, q_l30, q_l32, q_l34, q_l36, q_l45, q_l47, q_l48, q_l57, q_l58, q_l59, q_l60, q_l61, q_l66, q_l75, q_l76, q_l94, q_l97, q_l99, q_l100, q_l101, q_l104, q_l105, q_l108, q_l109, q_l111, q_l114, q_l115, q_l116, q_l117, q_l118, q_l119, q_l120, q_l126, q_l132, q_l133, q_l135, q_l136, q_l138, q_l146, q_l147, q_l148, q_l149, q_l150, q_l151, q_l152, q_l153, q_l154, q_l155, q_l156, q_l157, q_l158, q_l214, q_l229, q_l244, q_l259, q_l300, q_l999, q_l1813, q_l2072, q_l10000, q_l65536, q_l1000000000, hab, hh, e]
      · by_cases ik : m' = k
        · subst ik; exact hv_irr _
        · have := i3 m' h1 (by omega)
          cases e3 : hvT (tCell r (q + m')) (tCell r (q + k)) with
          | false => rfl
          | true => rw [hv_trans e3 e] at this; exact this
    | false =>
      rw [if_neg Bool.false_ne_true]
      refine ⟨?_, i1, by omega, fun m' h1 h2 => ?_⟩
      · simp (disch := omega) only [q_seqr, q_seql, q_ig, q_ni, q_le, q_nle, q_lt, q_nlt, q_eq, q_ne, q_eqr, q_gbt, q_gbf, q_gbd, q_m1lt, q_m1ge, q_m1ne, q_m1eq, q_m1e, Option.bind_some, gLet, nI_add, pk_mul, q_sub, q_m1, q_div, q_modN, nI_clamp, if_true, if_false, Bool.false_eq_true, q_l0, q_l1, q_l2, q_l3, q_l4, q_l5, q_l6, q_l7, q_l8, q_l9, q_l10, q_l11, q_l12, q_l13, q_l14, q_l15, q_l16, q_l19, q_l20, q_l22, q_l24, q_l30, q_l32, q_l34, q_l36, q_l45, q_l47, q_l48, q_l57, q_l58, q_l59, q_l60, q_l61, q_l66, q_l75, q_l76, q_l94, q_l97, q_l99, q_l100, q_l101, q_l104, q_l105, q_l108, q_l109, q_l111, q_l114, q_l115, q_l116, q_l117, q_l118, q_l119, q_l120, q_l126, q_l132, q_l133, q_l135, q_l136, q_l138, q_l146, q_l147, q_l148, q_l149, q_l150, q_l151, q_l152, q_l153, q_l154, q_l155, q_l156, q_l157, q_l158, q_l214, q_l229, q_l244, q_l259, q_l300, q_l999, q_l1813, q_l2072, q_l10000, q_l65536, q_l1000000000, hab, hh, e]
      · by_cases ik : m' = k
        · subst ik; exact e
        · exact i3 m' h1 (by omega)) (fun n a hI => by
    obtain ⟨g1, g2⟩ := full a (by omega)
    show f_X7_heaviestAbove_L32 (nI q) v (n + 1) (nI (hN r (q / 5) - 1 - q % 5 + 1)) (nI (q + a)) M = _
    rw [f_X7_heaviestAbove_L32]
    simp (disch := omega) only [q_seqr, q_seql, q_ig, q_ni, q_le, q_nle, q_lt, q_nlt, q_eq, q_ne, q_eqr, q_gbt, q_gbf, q_gbd, q_m1lt, q_m1ge, q_m1ne, q_m1eq, q_m1e, Option.bind_some, gLet, nI_add, pk_mul, q_sub, q_m1, q_div, q_modN, nI_clamp, if_true, if_false, Bool.false_eq_true, q_l0, q_l1, q_l2, q_l3, q_l4, q_l5, q_l6, q_l7, q_l8, q_l9, q_l10, q_l11, q_l12, q_l13, q_l14, q_l15, q_l16, q_l19, q_l20, q_l22, q_l24, q_l30, q_l32, q_l34, q_l36, q_l45, q_l47, q_l48, q_l57, q_l58, q_l59, q_l60, q_l61, q_l66, q_l75, q_l76, q_l94, q_l97, q_l99, q_l100, q_l101, q_l104, q_l105, q_l108, q_l109, q_l111, q_l114, q_l115, q_l116, q_l117, q_l118, q_l119, q_l120, q_l126, q_l132, q_l133, q_l135, q_l136, q_l138, q_l146, q_l147, q_l148, q_l149, q_l150, q_l151, q_l152, q_l153, q_l154, q_l155, q_l156, q_l157, q_l158, q_l214, q_l229, q_l244, q_l259, q_l300, q_l999, q_l1813, q_l2072, q_l10000, q_l65536, q_l1000000000, m_done, m_fails, m_thrown, m_th, gs_same, q_gsgs, c_raise0, c_raise1, c_raise2, c_raise3, c_raise4, hab, hr]) (hN r (q / 5) - 1 - q % 5 - 1) gF 2 1 (by omega) (by unfold gF; omega) ⟨by omega, by omega, fun m' h1 h2 => by rw [show m' = 1 by omega]; exact hv_irr _⟩
  exact ⟨m, m1, by omega, h, fun m' h1 h2 => m3 m' h1 (by omega)⟩
theorem Q_heaviestAbove (g : gSim M 0 (M 151)) (w : gRow β (M 151)) (hβ : β ≤ 600) (v : Int32) : gQ kN M (f_X6_heaviestAbove v M) (f_X7_heaviestAbove v M) := by
  obtain ⟨c, hc, h75, hP, hp, h⟩ := idCases g w v
  rcases h with ⟨q, j, hq, hf, hj, ht, hv, h1, h2, h3, h4⟩ | ⟨l, j, hl, hj, ht, hv, h1, h2, h3, h4⟩ | ⟨h1, h2, h3, hn, h4⟩
  · have hf' : q % 5 < hN (M 151) (q / 5) := of_decide_eq_true hf
    have h5 := (w.h (p := q / 5) (by omega)).2
    have e1 : M (0 + 5) j = nI (q / 5) := congrArg (fun t => t.2.2.2.1) ht
    have e2 : M (0 + 6) j = nI (q % 5) := congrArg (fun t => t.2.2.2.2) ht
    obtain ⟨a, ha, hnone, hsome⟩ := c_heaviest g w hβ hc h75 hP hp hj
    have hab := m_above (M := M) rfl w hq hf
    -- rows above are the cells above
    have above : ∀ i, i < c → (M (0 + 5) i = M (0 + 5) j ∧ M (0 + 6) j < M (0 + 6) i) → ∃ m, 1 ≤ m ∧ m ≤ hN (M 151) (q / 5) - 1 - q % 5 ∧ tRow M 0 i = tCell (M 151) (q + m) := fun i hi hab => by
      rcases tAll_mem.mp (of_rows hP hi) with ⟨q', hq', hf2, hqt⟩ | ⟨l, hl, hlt⟩
      · have a1 : nI (q' / 5) = nI (q / 5) := (congrArg (fun t => t.2.2.2.1) hqt).trans (hab.1.trans e1)
        have a2 : M (0 + 6) i = nI (q' % 5) := congrArg (fun t => t.2.2.2.2) hqt.symm
        have a1 := (nI_eq (by omega) (by omega)).mp a1
        have a3 := hab.2
        rw [e2, a2, nI_ltI (by omega) (by omega)] at a3
        have hf2 : q' % 5 < hN (M 151) (q' / 5) := of_decide_eq_true hf2
        rw [a1] at hf2
        exact ⟨q' - q, by omega, by omega, by rw [← hqt, show q + (q' - q) = q' by omega]⟩
      · have a1 : nI 12 = nI (q / 5) := (congrArg (fun t => t.2.2.2.1) hlt).trans (hab.1.trans e1)
        have := (nI_eq (by omega) (by omega)).mp a1
        omega
    have cells : ∀ m, 1 ≤ m → m ≤ hN (M 151) (q / 5) - 1 - q % 5 → q + m < 60 ∧ fullB (M 151) (q + m) = true ∧ ∃ i, i < c ∧ tRow M 0 i = tCell (M 151) (q + m) ∧ (M (0 + 5) i = M (0 + 5) j ∧ M (0 + 6) j < M (0 + 6) i) := fun m m1 m2 => by
      have x1 : (q + m) / 5 = q / 5 := by omega
      have x2 : (q + m) % 5 = q % 5 + m := by omega
      have hf2 : fullB (M 151) (q + m) = true := by
        unfold fullB
        rw [x1, x2]
        exact decide_eq_true (by omega)
      obtain ⟨i, hi, hti⟩ := rows_of hP (cell_mem (r := M 151) (q := q + m) (by omega) hf2)
      have y1 : M (0 + 5) i = nI ((q + m) / 5) := congrArg (fun t => t.2.2.2.1) hti
      have y2 : M (0 + 6) i = nI ((q + m) % 5) := congrArg (fun t => t.2.2.2.2) hti
      refine ⟨by omega, hf2, i, hi, hti, ?_, ?_⟩
      · rw [y1, e1, x1]
      · rw [y2, e2, x2, nI_ltI (by omega) (by omega)]
        omega
    by_cases hz : hN (M 151) (q / 5) - 1 - q % 5 = 0
    · have : a = none := by
        cases a with
        | none => rfl
        | some b =>
          obtain ⟨b1, b2, -⟩ := hsome b rfl
          obtain ⟨m, m1, m2, -⟩ := above b b1 b2
          omega
      subst this
      refine gQ_l 0 (nI 0) rfl ?_ ?_
      · unfold f_X6_heaviestAbove; simp (disch := omega) only [q_seqr, q_seql, q_ig, q_ni, q_le, q_nle, q_lt, q_nlt, q_eq, q_ne, q_eqr, q_gbt, q_gbf, q_gbd, q_m1lt, q_m1ge, q_m1ne, q_m1eq, q_m1e, Option.bind_some, gLet, nI_add, pk_mul, q_sub, q_m1, q_div, q_modN, nI_clamp, if_true, if_false, Bool.false_eq_true, q_l0, q_l1, q_l2, q_l3, q_l4, q_l5, q_l6, q_l7, q_l8, q_l9, q_l10, q_l11, q_l12, q_l13, q_l14, q_l15, q_l16, q_l19, q_l20, q_l22, q_l24, q_l30, q_l32, q_l34, q_l36, q_l45, q_l47, q_l48, q_l57, q_l58, q_l59, q_l60, q_l61, q_l66, q_l75, q_l76, q_l94, q_l97, q_l99, q_l100, q_l101, q_l104, q_l105, q_l108, q_l109, q_l111, q_l114, q_l115, q_l116, q_l117, q_l118, q_l119, q_l120, q_l126, q_l132, q_l133, q_l135, q_l136, q_l138, q_l146, q_l147, q_l148, q_l149, q_l150, q_l151, q_l152, q_l153, q_l154, q_l155, q_l156, q_l157, q_l158, q_l214, q_l229, q_l244, q_l259, q_l300, q_l999, q_l1813, q_l2072, q_l10000, q_l65536, q_l1000000000, m_done, m_fails, m_thrown, m_th, gs_same, q_gsgs, c_raise0, c_raise1, c_raise2, c_raise3, c_raise4, h2, c_found, ha, encO, c_found_m]
      · unfold f_X7_heaviestAbove; simp (disch := omega) only [q_seqr, q_seql, q_ig, q_ni, q_le, q_nle, q_lt, q_nlt, q_eq, q_ne, q_eqr, q_gbt, q_gbf, q_gbd, q_m1lt, q_m1ge, q_m1ne, q_m1eq, q_m1e, Option.bind_some, gLet, nI_add, pk_mul, q_sub, q_m1, q_div, q_modN, nI_clamp, if_true, if_false, Bool.false_eq_true, q_l0, q_l1, q_l2, q_l3, q_l4, q_l5, q_l6, q_l7, q_l8, q_l9, q_l10, q_l11, q_l12, q_l13, q_l14, q_l15, q_l16, q_l19, q_l20, q_l22, q_l24, q_l30, q_l32, q_l34, q_l36, q_l45, q_l47, q_l48, q_l57, q_l58, q_l59, q_l60, q_l61, q_l66, q_l75, q_l76, q_l94, q_l97, q_l99, q_l100, q_l101, q_l104, q_l105, q_l108, q_l109, q_l111, q_l114, q_l115, q_l116, q_l117, q_l118, q_l119, q_l120, q_l126, q_l132, q_l133, q_l135, q_l136, q_l138, q_l146, q_l147, q_l148, q_l149, q_l150, q_l151, q_l152, q_l153, q_l154, q_l155, q_l156, q_l157, q_l158, q_l214, q_l229, q_l244, q_l259, q_l300, q_l999, q_l1813, q_l2072, q_l10000, q_l65536, q_l1000000000, m_done, m_fails, m_thrown, m_th, gs_same, q_gsgs, c_raise0, c_raise1, c_raise2, c_raise3, c_raise4, (h4 M rfl).1, hab, hz]
    · obtain ⟨m, m1, m2, hm, hmx⟩ := m_heaviest (v := v) (M := M) rfl w hβ hq hf (by omega)
      obtain ⟨c1, c2, i, hi, hti, hiab⟩ := cells m m1 m2
      cases a with
      | none => exact absurd hiab (hnone rfl i hi)
      | some b =>
        obtain ⟨b1, b2, b3⟩ := hsome b rfl
        obtain ⟨mb, mb1, mb2, hbt⟩ := above b b1 b2
        have hib : i = b := by
          rcases b3 i hi hiab with h | h
          · exact h
          · rw [hbt, hti, hmx mb mb1 mb2] at h
            cases h
        subst hib
        have e : M 2 i = M 151 (34 + (q + m)) := congrArg (fun t => t.1) hti
        refine gQ_r (M 151 (34 + (q + m))) ?_ ?_
        · unfold f_X6_heaviestAbove; simp (disch := omega) only [q_seqr, q_seql, q_ig, q_ni, q_le, q_nle, q_lt, q_nlt, q_eq, q_ne, q_eqr, q_gbt, q_gbf, q_gbd, q_m1lt, q_m1ge, q_m1ne, q_m1eq, q_m1e, Option.bind_some, gLet, nI_add, pk_mul, q_sub, q_m1, q_div, q_modN, nI_clamp, if_true, if_false, Bool.false_eq_true, q_l0, q_l1, q_l2, q_l3, q_l4, q_l5, q_l6, q_l7, q_l8, q_l9, q_l10, q_l11, q_l12, q_l13, q_l14, q_l15, q_l16, q_l19, q_l20, q_l22, q_l24, q_l30, q_l32, q_l34, q_l36, q_l45, q_l47, q_l48, q_l57, q_l58, q_l59, q_l60, q_l61, q_l66, q_l75, q_l76, q_l94, q_l97, q_l99, q_l100, q_l101, q_l104, q_l105, q_l108, q_l109, q_l111, q_l114, q_l115, q_l116, q_l117, q_l118, q_l119, q_l120, q_l126, q_l132, q_l133, q_l135, q_l136, q_l138, q_l146, q_l147, q_l148, q_l149, q_l150, q_l151, q_l152, q_l153, q_l154, q_l155, q_l156, q_l157, q_l158, q_l214, q_l229, q_l244, q_l259, q_l300, q_l999, q_l1813, q_l2072, q_l10000, q_l65536, q_l1000000000, m_done, m_fails, m_thrown, m_th, gs_same, q_gsgs, c_raise0, c_raise1, c_raise2, c_raise3, c_raise4, h2, c_found, ha, encO, s_id hc h75 hi, Nat.zero_add, e]
        · unfold f_X7_heaviestAbove; simp (disch := omega) only [q_seqr, q_seql, q_ig, q_ni, q_le, q_nle, q_lt, q_nlt, q_eq, q_ne, q_eqr, q_gbt, q_gbf, q_gbd, q_m1lt, q_m1ge, q_m1ne, q_m1eq, q_m1e, Option.bind_some, gLet, nI_add, pk_mul, q_sub, q_m1, q_div, q_modN, nI_clamp, if_true, if_false, Bool.false_eq_true, q_l0, q_l1, q_l2, q_l3, q_l4, q_l5, q_l6, q_l7, q_l8, q_l9, q_l10, q_l11, q_l12, q_l13, q_l14, q_l15, q_l16, q_l19, q_l20, q_l22, q_l24, q_l30, q_l32, q_l34, q_l36, q_l45, q_l47, q_l48, q_l57, q_l58, q_l59, q_l60, q_l61, q_l66, q_l75, q_l76, q_l94, q_l97, q_l99, q_l100, q_l101, q_l104, q_l105, q_l108, q_l109, q_l111, q_l114, q_l115, q_l116, q_l117, q_l118, q_l119, q_l120, q_l126, q_l132, q_l133, q_l135, q_l136, q_l138, q_l146, q_l147, q_l148, q_l149, q_l150, q_l151, q_l152, q_l153, q_l154, q_l155, q_l156, q_l157, q_l158, q_l214, q_l229, q_l244, q_l259, q_l300, q_l999, q_l1813, q_l2072, q_l10000, q_l65536, q_l1000000000, m_done, m_fails, m_thrown, m_th, gs_same, q_gsgs, c_raise0, c_raise1, c_raise2, c_raise3, c_raise4, (h4 M rfl).1, hab, hm]
  · refine gQ_l 0 (nI 0) rfl ?_ ?_
    · unfold f_X6_heaviestAbove; simp (disch := omega) only [q_seqr, q_seql, q_ig, q_ni, q_le, q_nle, q_lt, q_nlt, q_eq, q_ne, q_eqr, q_gbt, q_gbf, q_gbd, q_m1lt, q_m1ge, q_m1ne, q_m1eq, q_m1e, Option.bind_some, gLet, nI_add, pk_mul, q_sub, q_m1, q_div, q_modN, nI_clamp, if_true, if_false, Bool.false_eq_true, q_l0, q_l1, q_l2, q_l3, q_l4, q_l5, q_l6, q_l7, q_l8, q_l9, q_l10, q_l11, q_l12, q_l13, q_l14, q_l15, q_l16, q_l19, q_l20, q_l22, q_l24, q_l30, q_l32, q_l34, q_l36, q_l45, q_l47, q_l48, q_l57, q_l58, q_l59, q_l60, q_l61, q_l66, q_l75, q_l76, q_l94, q_l97, q_l99, q_l100, q_l101, q_l104, q_l105, q_l108, q_l109, q_l111, q_l114, q_l115, q_l116, q_l117, q_l118, q_l119, q_l120, q_l126, q_l132, q_l133, q_l135, q_l136, q_l138, q_l146, q_l147, q_l148, q_l149, q_l150, q_l151, q_l152, q_l153, q_l154, q_l155, q_l156, q_l157, q_l158, q_l214, q_l229, q_l244, q_l259, q_l300, q_l999, q_l1813, q_l2072, q_l10000, q_l65536, q_l1000000000, m_done, m_fails, m_thrown, m_th, gs_same, q_gsgs, c_raise0, c_raise1, c_raise2, c_raise3, c_raise4, h2, c_found_m]
    · unfold f_X7_heaviestAbove; simp (disch := omega) only [q_seqr, q_seql, q_ig, q_ni, q_le, q_nle, q_lt, q_nlt, q_eq, q_ne, q_eqr, q_gbt, q_gbf, q_gbd, q_m1lt, q_m1ge, q_m1ne, q_m1eq, q_m1e, Option.bind_some, gLet, nI_add, pk_mul, q_sub, q_m1, q_div, q_modN, nI_clamp, if_true, if_false, Bool.false_eq_true, q_l0, q_l1, q_l2, q_l3, q_l4, q_l5, q_l6, q_l7, q_l8, q_l9, q_l10, q_l11, q_l12, q_l13, q_l14, q_l15, q_l16, q_l19, q_l20, q_l22, q_l24, q_l30, q_l32, q_l34, q_l36, q_l45, q_l47, q_l48, q_l57, q_l58, q_l59, q_l60, q_l61, q_l66, q_l75, q_l76, q_l94, q_l97, q_l99, q_l100, q_l101, q_l104, q_l105, q_l108, q_l109, q_l111, q_l114, q_l115, q_l116, q_l117, q_l118, q_l119, q_l120, q_l126, q_l132, q_l133, q_l135, q_l136, q_l138, q_l146, q_l147, q_l148, q_l149, q_l150, q_l151, q_l152, q_l153, q_l154, q_l155, q_l156, q_l157, q_l158, q_l214, q_l229, q_l244, q_l259, q_l300, q_l999, q_l1813, q_l2072, q_l10000, q_l65536, q_l1000000000, m_done, m_fails, m_thrown, m_th, gs_same, q_gsgs, c_raise0, c_raise1, c_raise2, c_raise3, c_raise4, (h4 M rfl).1]
  · refine gQ_l 0 (nI 0) rfl ?_ ?_
    · unfold f_X6_heaviestAbove; simp (disch := omega) only [q_seqr, q_seql, q_ig, q_ni, q_le, q_nle, q_lt, q_nlt, q_eq, q_ne, q_eqr, q_gbt, q_gbf, q_gbd, q_m1lt, q_m1ge, q_m1ne, q_m1eq, q_m1e, Option.bind_some, gLet, nI_add, pk_mul, q_sub, q_m1, q_div, q_modN, nI_clamp, if_true, if_false, Bool.false_eq_true, q_l0, q_l1, q_l2, q_l3, q_l4, q_l5, q_l6, q_l7, q_l8, q_l9, q_l10, q_l11, q_l12, q_l13, q_l14, q_l15, q_l16, q_l19, q_l20, q_l22, q_l24, q_l30, q_l32, q_l34, q_l36, q_l45, q_l47, q_l48, q_l57, q_l58, q_l59, q_l60, q_l61, q_l66, q_l75, q_l76, q_l94, q_l97, q_l99, q_l100, q_l101, q_l104, q_l105, q_l108, q_l109, q_l111, q_l114, q_l115, q_l116, q_l117, q_l118, q_l119, q_l120, q_l126, q_l132, q_l133, q_l135, q_l136, q_l138, q_l146, q_l147, q_l148, q_l149, q_l150, q_l151, q_l152, q_l153, q_l154, q_l155, q_l156, q_l157, q_l158, q_l214, q_l229, q_l244, q_l259, q_l300, q_l999, q_l1813, q_l2072, q_l10000, q_l65536, q_l1000000000, m_done, m_fails, m_thrown, m_th, gs_same, q_gsgs, c_raise0, c_raise1, c_raise2, c_raise3, c_raise4, h2, c_found_m]
    · unfold f_X7_heaviestAbove; simp (disch := omega) only [q_seqr, q_seql, q_ig, q_ni, q_le, q_nle, q_lt, q_nlt, q_eq, q_ne, q_eqr, q_gbt, q_gbf, q_gbd, q_m1lt, q_m1ge, q_m1ne, q_m1eq, q_m1e, Option.bind_some, gLet, nI_add, pk_mul, q_sub, q_m1, q_div, q_modN, nI_clamp, if_true, if_false, Bool.false_eq_true, q_l0, q_l1, q_l2, q_l3, q_l4, q_l5, q_l6, q_l7, q_l8, q_l9, q_l10, q_l11, q_l12, q_l13, q_l14, q_l15, q_l16, q_l19, q_l20, q_l22, q_l24, q_l30, q_l32, q_l34, q_l36, q_l45, q_l47, q_l48, q_l57, q_l58, q_l59, q_l60, q_l61, q_l66, q_l75, q_l76, q_l94, q_l97, q_l99, q_l100, q_l101, q_l104, q_l105, q_l108, q_l109, q_l111, q_l114, q_l115, q_l116, q_l117, q_l118, q_l119, q_l120, q_l126, q_l132, q_l133, q_l135, q_l136, q_l138, q_l146, q_l147, q_l148, q_l149, q_l150, q_l151, q_l152, q_l153, q_l154, q_l155, q_l156, q_l157, q_l158, q_l214, q_l229, q_l244, q_l259, q_l300, q_l999, q_l1813, q_l2072, q_l10000, q_l65536, q_l1000000000, m_done, m_fails, m_thrown, m_th, gs_same, q_gsgs, c_raise0, c_raise1, c_raise2, c_raise3, c_raise4, (h4 M rfl).1]
end PH
