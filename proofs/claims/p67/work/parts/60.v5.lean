/-! The reference's whole text. -/
theorem dN_one (tx : Nat → Nat) (t k p v : Nat) (h : p < t ∧ 48 ≤ tx p ∧ tx p ≤ 57) : p + 1 ≤ (dN tx t (k + 1) p v).2 := by
  rw [dN, if_pos h]
  exact (dN_val tx t k (p + 1) _).2
theorem pI_len {tx : Nat → Nat} {t : Nat} : ∀ (its : List (Nat × Nat)) (p : Nat) (vs : List Nat) (p' : Nat) (vs' : List Nat), pI tx t its p vs = (true, p', vs') → p + its.length ≤ p' ∧ vs'.length = vs.length + itN its := by
  intro its
  induction its with
  | nil =>
    intro p vs p' vs' h
    have h : (true, p, vs) = (true, p', vs') := h
    have e1 : p = p' := congrArg (fun z => z.2.1) h
    have e2 : vs = vs' := congrArg (fun z => z.2.2) h
    subst e1
    subst e2
    exact ⟨Nat.le_refl _, rfl⟩
  | cons it r ih =>
    intro p vs p' vs' h
    obtain ⟨k, c⟩ := it
    match k, h with
    | 0, h =>
      rw [pI] at h
      by_cases g : p < t ∧ tx p = c
      · rw [if_pos g] at h
        obtain ⟨a, b⟩ := ih _ _ _ _ h
        refine ⟨by rw [List.length_cons]; omega, b⟩
      · rw [if_neg g] at h
        exact absurd (show false = true from congrArg Prod.fst h) (by decide)
    | k + 1, h =>
      rw [pI] at h
      by_cases g : p < t ∧ 48 ≤ tx p ∧ tx p ≤ 57
      · rw [if_pos g] at h
        obtain ⟨a, b⟩ := ih _ _ _ _ h
        have := dN_one tx t k p 0 g
        rw [List.length_append, List.length_cons, List.length_nil] at b
        refine ⟨by rw [List.length_cons]; omega, ?_⟩
        show vs'.length = vs.length + (itN r + 1)
        omega
      · rw [if_neg g] at h
        exact absurd (show false = true from congrArg Prod.fst h) (by decide)
theorem pC_len {tx : Nat → Nat} {t p p' k : Nat} {vs : List Nat} (hk : isK k) (hl : ltr tx t p = k) (h : pC tx t p = (true, p', vs)) : p + 7 ≤ p' ∧ vs.length = itN (its k) ∧ vs.length ≤ 4 := by
  have hk0 : ¬ k = 0 := by
    rcases hk with rfl | rfl | rfl | rfl | rfl | rfl | rfl <;> omega
  unfold pC at h
  rw [hl, if_neg hk0] at h
  obtain ⟨a, b⟩ := pI_len _ _ _ _ _ h
  have ok := its_ok k hk
  rw [List.length_nil, Nat.zero_add] at b
  omega
def mCmds (S : gM) (cs : List (Nat × List Nat)) : Prop := ∀ i k vs, cs[i]? = some (k, vs) → isK k ∧ vs.length = itN (its k) ∧ S 158 (5 * i) = nI k ∧ ∀ j c, vs[j]? = some c → S 158 (5 * i + 1 + j) = nI c
section RL
variable {M : gM} {tx : Nat → Nat} {t : Nat}
theorem m_runW {S : gM} {e n : Nat} {v : Int32} (h15 : S 150 15 = nI 1 ∨ (S 150 15 = nI 0 ∧ e < t)) (h14 : S 150 14 = nI e) (h8 : S 150 8 = nI t) (ht : t ≤ 60) : f_X7_run_L14 (n + 1) (nI 0) v S = some (nI 0, gs (gs (gs (gs S 150 15 (nI 1)) 150 8 (nI 0)) 150 9 (nI e)) 150 13 (nI 1)) := by
  rw [f_X7_run_L14]
  rcases h15 with h | ⟨h, h1⟩
  · simp (disch := omega) only [↓reduceIte, eq_self, Bool.true_eq_false, Bool.false_eq_true, q_seqr, q_seql, v_ig, v_ni, v_le, v_nle, v_lt, v_nlt, v_eq, v_ne, v_gbt, v_gbf, v_gbd, v_m1lt, v_m1ge, v_m1ne, v_m1e, ↓q_bindD, ↓q_gLet, Option.isSome_some, Option.getD_some, nI_add, pk_mul, q_sub, q_m1, q_div, q_modN, nI_clamp, if_true, if_false, q_l0, q_l1, q_l2, q_l3, q_l4, q_l5, q_l6, q_l7, q_l8, q_l9, q_l10, q_l11, q_l12, q_l13, q_l14, q_l15, q_l16, q_l19, q_l20, q_l22, q_l24, q_l30, q_l32, q_l34, q_l36, q_l45, q_l47, q_l48, q_l57, q_l58, q_l59, q_l60, q_l61, q_l66, q_l75, q_l76, q_l94, q_l97, q_l99, q_l100, q_l101, q_l104, q_l105, q_l108, q_l109, q_l111, q_l114, q_l115, q_l116, q_l117, q_l118, q_l119, q_l120, q_l126, q_l132, q_l133, q_l135, q_l136, q_l138, q_l146, q_l147, q_l148, q_l149, q_l150, q_l151, q_l152, q_l153, q_l154, q_l155, q_l156, q_l157, q_l158, q_l214, q_l229, q_l244, q_l259, q_l300, q_l999, q_l1813, q_l2072, q_l10000, q_l65536, q_l1000000000, m_done, m_fails, m_thrown, m_th, gs_same, q_gsgs, c_raise0, c_raise1, c_raise2, c_raise3, c_raise4, h, h14, q_gsk, q_gss]
  · simp (disch := omega) only [↓reduceIte, eq_self, Bool.true_eq_false, Bool.false_eq_true, q_seqr, q_seql, v_ig, v_ni, v_le, v_nle, v_lt, v_nlt, v_eq, v_ne, v_gbt, v_gbf, v_gbd, v_m1lt, v_m1ge, v_m1ne, v_m1e, ↓q_bindD, ↓q_gLet, Option.isSome_some, Option.getD_some, nI_add, pk_mul, q_sub, q_m1, q_div, q_modN, nI_clamp, if_true, if_false, q_l0, q_l1, q_l2, q_l3, q_l4, q_l5, q_l6, q_l7, q_l8, q_l9, q_l10, q_l11, q_l12, q_l13, q_l14, q_l15, q_l16, q_l19, q_l20, q_l22, q_l24, q_l30, q_l32, q_l34, q_l36, q_l45, q_l47, q_l48, q_l57, q_l58, q_l59, q_l60, q_l61, q_l66, q_l75, q_l76, q_l94, q_l97, q_l99, q_l100, q_l101, q_l104, q_l105, q_l108, q_l109, q_l111, q_l114, q_l115, q_l116, q_l117, q_l118, q_l119, q_l120, q_l126, q_l132, q_l133, q_l135, q_l136, q_l138, q_l146, q_l147, q_l148, q_l149, q_l150, q_l151, q_l152, q_l153, q_l154, q_l155, q_l156, q_l157, q_l158, q_l214, q_l229, q_l244, q_l259, q_l300, q_l999, q_l1813, q_l2072, q_l10000, q_l65536, q_l1000000000, m_done, m_fails, m_thrown, m_th, gs_same, q_gsgs, c_raise0, c_raise1, c_raise2, c_raise3, c_raise4, h, h14, h8, q_gsk, q_gss]
theorem m_runR {S : gM} {n : Nat} {v : Int32} (h15 : S 150 15 = nI 0) (h14 : S 150 14 = nI t) (h8 : S 150 8 = nI t) (ht : t ≤ 60) : f_X7_run_L14 (n + 1) (nI 0) v S = (f_X7_begin (gs (gs S 150 15 (nI 0)) 150 8 (nI 0))).bind fun r29 => f_X7_run_L130 (nI 0) v gF (nI 0) r29 := by
  rw [f_X7_run_L14, if_pos (show nI 0 = (0 : Int32) from rfl), h15, if_pos (show nI 0 = (0 : Int32) from rfl), h8, h14, if_pos (nI_le (Nat.le_refl t) (by omega)), q_gLet, q_gLet]
  rw [if_pos (show gs (gs S 150 15 0) 150 8 0 150 15 = 0 by rw [q_gsk (by omega), q_gss rfl])]
  rfl
theorem m_runL (x : mT M tx t) : ∀ d f p (cs : List (Nat × List Nat)) S, cs.length + d = 8 → 8 * cs.length ≤ p → d + 1 < f → S 150 15 = nI 0 → S 150 14 = nI p → p ≤ t → mFr M S → mCmds S cs →
    (∃ S' cs', (∃ p', pA tx t d p cs = (true, p', cs')) ∧ 8 * cs'.length ≤ t + 1 ∧ mFr M S' ∧ mCmds S' cs' ∧ f_X7_run_L14 f (nI 1) (nI cs.length) S = (f_X7_begin (gs (gs S' 150 15 (nI 0)) 150 8 (nI 0))).bind fun r29 => f_X7_run_L130 (nI 0) (nI cs'.length) gF (nI 0) r29) ∨
    (∃ S' e cs', pA tx t d p cs = (false, e, cs') ∧ mFr M S' ∧ f_X7_run_L14 f (nI 1) (nI cs.length) S = some (nI 0, gs (gs (gs (gs S' 150 15 (nI 1)) 150 8 (nI 0)) 150 9 (nI e)) 150 13 (nI 1))) := by
  intro d
  induction d with
  | zero =>
    intro f p cs S hd hp8 hf h15 h14 hpt fr cm
    have := x.2.1
    omega
  | succ d ih =>
    intro f p cs S hd hp8 hf h15 h14 hpt fr cm
    obtain ⟨m, rfl⟩ : ∃ m, f = m + 1 + 1 := ⟨f - 2, by omega⟩
    have t60 := x.2.1
    obtain ⟨S1, e1, ok⟩ := m_cmd (q := 5 * cs.length) (fr.mT x) (by omega) h15 h14 hpt
    have hn10 : ¬ nI 1 = (0 : Int32) := by decide
    rcases ok with ⟨k, p', vs, hk, hl, hp', hpC, a15, a14, afr, aq, av, alow⟩ | ⟨e, vs, hpC, a15, a14, afr⟩
    · obtain ⟨l7, lv, lv4⟩ := pC_len hk hl hpC
      have fr1 : mFr M S1 := fr.tr afr
      have l1 : (cs ++ [(k, vs)]).length = cs.length + 1 := by rw [List.length_append]; rfl
      have cm1 : mCmds S1 (cs ++ [(k, vs)]) := by
        intro i k' vs' hi
        by_cases hlt : i < cs.length
        · rw [List.getElem?_append_left hlt] at hi
          obtain ⟨c1, c2, c3, c4⟩ := cm i k' vs' hi
          have ok' := its_ok k' c1
          refine ⟨c1, c2, by rw [alow (5 * i) (by omega)]; exact c3, fun j c hj => ?_⟩
          have hj4 : j < vs'.length := (List.getElem?_eq_some_iff.mp hj).1
          rw [alow (5 * i + 1 + j) (by omega)]
          exact c4 j c hj
        · rw [List.getElem?_append_right (by omega)] at hi
          have hi0 : i = cs.length := by
            by_cases y : i = cs.length
            · exact y
            · rw [List.getElem?_eq_none (by simp; omega)] at hi
              cases hi
          subst hi0
          rw [Nat.sub_self] at hi
          have e := Option.some.inj hi
          have e1 : k = k' := congrArg Prod.fst e
          have e2 : vs = vs' := congrArg Prod.snd e
          subst e1
          subst e2
          exact ⟨hk, lv, aq, av⟩
      have eA : pA tx t (d + 1) p cs = if p' = t then (true, p', cs ++ [(k, vs)]) else if p' < t ∧ tx p' = 59 then pA tx t d (p' + 1) (cs ++ [(k, vs)]) else (false, p', cs) := by
        rw [pA, hpC, hl, if_pos rfl]
      have hh := m_here (fr1.mT x) a14 hp'
      have h8 : S1 150 8 = nI t := (fr1.mT x).1
      have eF : f_X7_run_L14 (m + 1 + 1) (nI 1) (nI cs.length) S = (if (if p' < t then nI (tx p') else -nI 1) = 59 then f_X7_run_L14 (m + 1) (nI 1) (nI (cs.length + 1)) (gs S1 150 14 (nI (p' + 1))) else f_X7_run_L14 (m + 1) (nI 0) (nI (cs.length + 1)) (gs S1 150 14 (nI p'))) := by
        rw [f_X7_run_L14, if_neg hn10, show (5 : Int32) = nI 5 by decide, pk_mul, e1, Option.bind_some, a15, if_pos (show nI 0 = (0 : Int32) from rfl), hh, Option.bind_some, a14, show nI cs.length + 1 = nI (cs.length + 1) from nI_add _ 1]
        rw [q_gLet, q_gLet, show nI p' + 1 = nI (p' + 1) from nI_add _ 1, show nI p' + 0 = nI p' from Int32.add_zero _]
        rfl
      rw [eA, eF]
      by_cases hpt' : p' = t
      · rw [if_pos hpt', if_neg (show ¬ p' < t by omega), if_neg (show ¬ -nI 1 = (59 : Int32) by decide)]
        refine Or.inl ⟨gs S1 150 14 (nI p'), _, ⟨p', rfl⟩, by rw [l1]; omega, fr1.p _, fun i k' vs' hi => ?_, ?_⟩
        · rw [q_gsn (show 158 ≠ 150 by omega)]
          exact cm1 i k' vs' hi
        · rw [l1]
          exact m_runR (by rw [q_gsk (by omega)]; exact a15) (by rw [q_gss rfl, hpt']) (by rw [q_gsk (by omega)]; exact h8) t60
      · have hlt : p' < t := by omega
        rw [if_neg hpt', if_pos hlt]
        have hx := (x.2.2 p' hlt).2
        by_cases h59 : tx p' = 59
        · rw [if_pos ⟨hlt, h59⟩, h59, if_pos (show nI 59 = (59 : Int32) by decide), ← l1]
          refine ih (m + 1) (p' + 1) _ _ (by rw [l1]; omega) (by rw [l1]; omega) (by omega) (by rw [q_gsk (by omega)]; exact a15) (q_gss rfl) (by omega) (fr1.p _) (fun i k' vs' hi => ?_)
          rw [q_gsn (show 158 ≠ 150 by omega)]
          exact cm1 i k' vs' hi
        · rw [if_neg (fun z => h59 z.2), if_neg (fun z => h59 ((nI_eq (by omega) (by omega)).mp (z.trans (show (59 : Int32) = nI 59 by decide))))]
          exact Or.inr ⟨gs S1 150 14 (nI p'), p', cs, rfl, fr1.p _, m_runW (Or.inr ⟨by rw [q_gsk (by omega)]; exact a15, hlt⟩) (q_gss rfl) (by rw [q_gsk (by omega)]; exact h8) t60⟩
    · have fr1 : mFr M S1 := fr.tr afr
      have h8 : S1 150 8 = nI t := (fr1.mT x).1
      refine Or.inr ⟨gs S1 150 14 (nI e), e, cs, by rw [pA, hpC]; rfl, fr1.p _, ?_⟩
      rw [f_X7_run_L14, if_neg hn10, show (5 : Int32) = nI 5 by decide, pk_mul, e1, Option.bind_some, a15, if_neg hn10, a14, q_gLet, show nI e + 0 = nI e from Int32.add_zero _]
      exact m_runW (Or.inl (by rw [q_gsk (by omega)]; exact a15)) (q_gss rfl) (by rw [q_gsk (by omega)]; exact h8) t60
theorem m_run (x : mT M tx t) :
    (∃ S' cs', (∃ p', pA tx t 8 0 [] = (true, p', cs')) ∧ 8 * cs'.length ≤ t + 1 ∧ mFr M S' ∧ mCmds S' cs' ∧ f_X7_run M = (f_X7_begin (gs (gs S' 150 15 (nI 0)) 150 8 (nI 0))).bind fun r29 => f_X7_run_L130 (nI 0) (nI cs'.length) gF (nI 0) r29) ∨
    (∃ S' e cs', pA tx t 8 0 [] = (false, e, cs') ∧ mFr M S' ∧ f_X7_run M = some (nI 0, gs (gs (gs (gs S' 150 15 (nI 1)) 150 8 (nI 0)) 150 9 (nI e)) 150 13 (nI 1))) := by
  have k0 := m_runL x 8 gF 0 [] (gs (gs M 150 14 (nI 0)) 150 15 (nI 0)) rfl (Nat.le_refl _) (by unfold gF; omega) (q_gss rfl) (by rw [q_gsk (by omega), q_gss rfl]) (Nat.zero_le _) ((mFr.rf.p _).w _) (fun i k vs hi => by cases hi)
  rw [List.length_nil] at k0
  have e : f_X7_run M = f_X7_run_L14 gF (nI 1) (nI 0) (gs (gs M 150 14 (nI 0)) 150 15 (nI 0)) := by
    unfold f_X7_run
    rw [q_gLet, q_gLet, show (0 : Int32) = nI 0 from rfl, show (1 : Int32) = nI 1 from rfl]
  rw [e]
  exact k0
end RL
