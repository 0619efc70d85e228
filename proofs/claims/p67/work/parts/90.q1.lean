/-! The class alone: typing, running; laid by wip/p67/gen/q1.py. -/
theorem x_hours {M : gM} {i a : Nat} (hi : i < 8) (h6 : M 136 i = nI 7) (h0 : M 137 (i * 4 + 0) = nI a) : f_X4_faultOf 12 (nI i) M = f_X6_passingFault (nI a) M ∧ f_X4_carryOut 12 (nI i) M = (f_X5_letHoursPass 12 (nI a) M).bind fun p => some p.2 := by
      have hk : kd 104 = 7 := rfl
      have g0 := c_given hi (show 0 < 4 by omega) M
      have g1 := c_given hi (show 1 < 4 by omega) M
      have g2 := c_given hi (show 2 < 4 by omega) M
      have g3 := c_given hi (show 3 < 4 by omega) M
      have gk := c_kind hi M
      refine ⟨?_, ?_⟩
      · unfold f_X4_faultOf
        simp (disch := omega) only [↓reduceIte, eq_self, Bool.true_eq_false, Bool.false_eq_true, q_seqr, q_seql, v_ig, v_ni, v_le, v_nle, v_lt, v_nlt, v_eq, v_ne, v_gbt, v_gbf, v_gbd, v_m1lt, v_m1ge, v_m1ne, v_m1e, ↓q_gLet, Option.isSome_some, Option.getD_some, nI_add, pk_mul, q_sub, q_m1, q_div, q_modN, nI_clamp, if_true, if_false, q_l0, q_l1, q_l2, q_l3, q_l4, q_l5, q_l6, q_l7, q_l8, q_l9, q_l10, q_l11, q_l12, q_l13, q_l14, q_l15, q_l16, q_l19, q_l20, q_l22, q_l24, q_l30, q_l32, q_l34, q_l36, q_l45, q_l47, q_l48, q_l57, q_l58, q_l59, q_l60, q_l61, q_l66, q_l75, q_l76, q_l94, q_l97, q_l99, q_l100, q_l101, q_l104, q_l105, q_l108, q_l109, q_l111, q_l114, q_l115, q_l116, q_l117, q_l118, q_l119, q_l120, q_l126, q_l132, q_l133, q_l135, q_l136, q_l138, q_l146, q_l147, q_l148, q_l149, q_l150, q_l151, q_l152, q_l153, q_l154, q_l155, q_l156, q_l157, q_l158, q_l214, q_l229, q_l244, q_l259, q_l300, q_l999, q_l1813, q_l2072, q_l10000, q_l65536, q_l1000000000, q_eb, q_eta, Option.bind_some, g0, g1, g2, g3, gk, h6, h0]
      · unfold f_X4_carryOut
        simp (disch := omega) only [↓reduceIte, eq_self, Bool.true_eq_false, Bool.false_eq_true, q_seqr, q_seql, v_ig, v_ni, v_le, v_nle, v_lt, v_nlt, v_eq, v_ne, v_gbt, v_gbf, v_gbd, v_m1lt, v_m1ge, v_m1ne, v_m1e, ↓q_gLet, Option.isSome_some, Option.getD_some, nI_add, pk_mul, q_sub, q_m1, q_div, q_modN, nI_clamp, if_true, if_false, q_l0, q_l1, q_l2, q_l3, q_l4, q_l5, q_l6, q_l7, q_l8, q_l9, q_l10, q_l11, q_l12, q_l13, q_l14, q_l15, q_l16, q_l19, q_l20, q_l22, q_l24, q_l30, q_l32, q_l34, q_l36, q_l45, q_l47, q_l48, q_l57, q_l58, q_l59, q_l60, q_l61, q_l66, q_l75, q_l76, q_l94, q_l97, q_l99, q_l100, q_l101, q_l104, q_l105, q_l108, q_l109, q_l111, q_l114, q_l115, q_l116, q_l117, q_l118, q_l119, q_l120, q_l126, q_l132, q_l133, q_l135, q_l136, q_l138, q_l146, q_l147, q_l148, q_l149, q_l150, q_l151, q_l152, q_l153, q_l154, q_l155, q_l156, q_l157, q_l158, q_l214, q_l229, q_l244, q_l259, q_l300, q_l999, q_l1813, q_l2072, q_l10000, q_l65536, q_l1000000000, q_eb, q_eta, Option.bind_some, g0, g1, g2, g3, gk, h6, h0]
theorem x_leave3 {M : gM} {i : Nat} (hi : i < 8) (h6 : M 136 i = nI 6) (h0 : M 137 (i * 4 + 0) = nI 3) : f_X4_faultOf 12 (nI i) M = some 1 := by
      have e : f_X5_leavingFault 12 (nI 3) M = some 1 := rfl
      have g0 := c_given hi (show 0 < 4 by omega) M
      have g1 := c_given hi (show 1 < 4 by omega) M
      have g2 := c_given hi (show 2 < 4 by omega) M
      have g3 := c_given hi (show 3 < 4 by omega) M
      have gk := c_kind hi M
      unfold f_X4_faultOf
      rw [← e]
      simp (disch := omega) only [↓reduceIte, eq_self, Bool.true_eq_false, Bool.false_eq_true, q_seqr, q_seql, v_ig, v_ni, v_le, v_nle, v_lt, v_nlt, v_eq, v_ne, v_gbt, v_gbf, v_gbd, v_m1lt, v_m1ge, v_m1ne, v_m1e, ↓q_gLet, Option.isSome_some, Option.getD_some, nI_add, pk_mul, q_sub, q_m1, q_div, q_modN, nI_clamp, if_true, if_false, q_l0, q_l1, q_l2, q_l3, q_l4, q_l5, q_l6, q_l7, q_l8, q_l9, q_l10, q_l11, q_l12, q_l13, q_l14, q_l15, q_l16, q_l19, q_l20, q_l22, q_l24, q_l30, q_l32, q_l34, q_l36, q_l45, q_l47, q_l48, q_l57, q_l58, q_l59, q_l60, q_l61, q_l66, q_l75, q_l76, q_l94, q_l97, q_l99, q_l100, q_l101, q_l104, q_l105, q_l108, q_l109, q_l111, q_l114, q_l115, q_l116, q_l117, q_l118, q_l119, q_l120, q_l126, q_l132, q_l133, q_l135, q_l136, q_l138, q_l146, q_l147, q_l148, q_l149, q_l150, q_l151, q_l152, q_l153, q_l154, q_l155, q_l156, q_l157, q_l158, q_l214, q_l229, q_l244, q_l259, q_l300, q_l999, q_l1813, q_l2072, q_l10000, q_l65536, q_l1000000000, q_eb, q_eta, Option.bind_some, g0, g1, g2, g3, gk, h6, h0]
section UR
variable {M : gM} {r : Nat → Int32} {β : Nat} {L : List (Nat → Int32)}
theorem ldN_le' {r : Nat → Int32} (w : gRow β r) {b : Nat} (hb : b < 3) : coN r b ≤ 21 := by
  unfold coN
  have := ldN_le w hb
  split <;> omega
theorem coT_le (w : gRow β r) (hβ : β ≤ 590) : ∀ n, n ≤ 100 → coT r n ≤ 63 * n := by
  intro n
  induction n with
  | zero => intro _; exact Nat.le_refl _
  | succ n ih =>
    intro hn
    have w' := (hpI_ok w hβ (n := n) (by omega)).1
    have h0 := ldN_le' w' (b := 0) (by omega)
    have h1 := ldN_le' w' (b := 1) (by omega)
    have h2 := ldN_le' w' (b := 2) (by omega)
    have hc : csN (hpI r n) 3 = coN (hpI r n) 0 + coN (hpI r n) 1 + coN (hpI r n) 2 := by
      rw [csN_succ, csN_succ, csN_succ]
      show 0 + _ + _ + _ = _
      omega
    rw [coT_succ]
    have := ih (by omega)
    omega
/-- pass -/
theorem u_pass (g : gSim M 0 r) (w : gRow β r) (hβ : β ≤ 590) (h : cH β M L) (h7 : L.length ≤ 7) {n : Nat} (h1 : 1 ≤ n) (hn : n ≤ 100) : ∃ M1, f_X6_pass (nI n) M = some (.inr (nI (coT r n)), M1) ∧ gSim M1 0 (hpI r n) ∧ gRow (β + 1) (hpI r n) ∧ cH (β + 1) M1 (r :: L) := by
  obtain ⟨Mp, ep, p0, ph, p1, p2⟩ := u_push g w h h7
  obtain ⟨Mc, hcd, fr, gc⟩ := c_hoursPass p0 w hβ (n := n) hn
  have hf : f_X6_passingFault (nI n) M = some 0 := by
    unfold f_X6_passingFault
    simp (disch := omega) only [q_seqr, q_seql, q_ig, q_ni, q_le, q_nle, q_lt, q_nlt, q_eq, q_ne, q_eqr, q_gbt, q_gbf, q_gbd, q_m1lt, q_m1ge, q_m1ne, q_m1eq, q_m1e, Option.bind_some, gLet, nI_add, pk_mul, q_sub, q_m1, q_div, q_modN, nI_clamp, if_true, if_false, Bool.false_eq_true, q_l0, q_l1, q_l2, q_l3, q_l4, q_l5, q_l6, q_l7, q_l8, q_l9, q_l10, q_l11, q_l12, q_l13, q_l14, q_l15, q_l16, q_l19, q_l20, q_l22, q_l24, q_l30, q_l32, q_l34, q_l36, q_l45, q_l47, q_l48, q_l57, q_l58, q_l59, q_l60, q_l61, q_l66, q_l75, q_l76, q_l94, q_l97, q_l99, q_l100, q_l101, q_l104, q_l105, q_l108, q_l109, q_l111, q_l114, q_l115, q_l116, q_l117, q_l118, q_l119, q_l120, q_l126, q_l132, q_l133, q_l135, q_l136, q_l138, q_l146, q_l147, q_l148, q_l149, q_l150, q_l151, q_l152, q_l153, q_l154, q_l155, q_l156, q_l157, q_l158, q_l214, q_l229, q_l244, q_l259, q_l300, q_l999, q_l1813, q_l2072, q_l10000, q_l65536, q_l1000000000, m_done, m_fails, m_thrown, m_th, gs_same, q_gsgs, c_raise0, c_raise1, c_raise2, c_raise3, c_raise4]
  refine ⟨Mc, ?_, gc, (hpI_ok w hβ hn).1, (ph.up (by omega)).frm (fun a k1 k2 k3 => fr a (by omega))⟩
  unfold f_X6_pass
  rw [hf, Option.bind_some, show f_X6_raise 0 M = some (.inr (), M) from c_raise0 M]
  show ((f_X1_push 0 M).bind fun r6 => (f_X5_letHoursPass 0 (nI n) r6).bind fun p => (some (Sum.inr p.1, p.2) : Option ((String ⊕ Int32) × gM))) = _
  rw [ep, Option.bind_some, hcd, Option.bind_some]
/-- typing -/
theorem u_append {t c : Nat} (x1 : M 146 1 = nI t) (ht : t < 60) (h1 : 32 ≤ c) (h2 : c ≤ 126) : f_X6_append (nI c) M = some (.inr (nI (t + 1)), gs (gs M 147 t (nI c)) 146 1 (nI (t + 1))) := by
      have hnar := q_nar (show c < 65536 by omega)
      obtain ⟨M1, hM1⟩ : ∃ M1, M1 = gs (gs M 147 t (nI c)) 146 1 (nI (t + 1)) := ⟨_, rfl⟩
      rw [← hM1]
      have hf : f_X6_append (nI c) M = some (.inr (nI (t + 1)), M1) := by
        have ht' : f_X2_take (nI c) M = some M1 := by
          unfold f_X2_take
          simp (disch := omega) only [↓reduceIte, eq_self, Bool.true_eq_false, Bool.false_eq_true, q_seqr, q_seql, v_ig, v_ni, v_le, v_nle, v_lt, v_nlt, v_eq, v_ne, v_gbt, v_gbf, v_gbd, v_m1lt, v_m1ge, v_m1ne, v_m1e, ↓q_bindD, ↓q_gLet, Option.isSome_some, Option.getD_some, nI_add, pk_mul, q_sub, q_m1, q_div, q_modN, nI_clamp, if_true, if_false, q_l0, q_l1, q_l2, q_l3, q_l4, q_l5, q_l6, q_l7, q_l8, q_l9, q_l10, q_l11, q_l12, q_l13, q_l14, q_l15, q_l16, q_l19, q_l20, q_l22, q_l24, q_l30, q_l32, q_l34, q_l36, q_l45, q_l47, q_l48, q_l57, q_l58, q_l59, q_l60, q_l61, q_l66, q_l75, q_l76, q_l94, q_l97, q_l99, q_l100, q_l101, q_l104, q_l105, q_l108, q_l109, q_l111, q_l114, q_l115, q_l116, q_l117, q_l118, q_l119, q_l120, q_l126, q_l132, q_l133, q_l135, q_l136, q_l138, q_l146, q_l147, q_l148, q_l149, q_l150, q_l151, q_l152, q_l153, q_l154, q_l155, q_l156, q_l157, q_l158, q_l214, q_l229, q_l244, q_l259, q_l300, q_l999, q_l1813, q_l2072, q_l10000, q_l65536, q_l1000000000, x1, hnar, q_gsn]
          rw [← hM1]
        have e1 : M1 146 1 = nI (t + 1) := by rw [hM1]; exact q_gss rfl
        unfold f_X6_append
        simp (disch := omega) only [↓reduceIte, eq_self, Bool.true_eq_false, Bool.false_eq_true, q_seqr, q_seql, v_ig, v_ni, v_le, v_nle, v_lt, v_nlt, v_eq, v_ne, v_gbt, v_gbf, v_gbd, v_m1lt, v_m1ge, v_m1ne, v_m1e, ↓q_bindD, ↓q_gLet, Option.isSome_some, Option.getD_some, nI_add, pk_mul, q_sub, q_m1, q_div, q_modN, nI_clamp, if_true, if_false, q_l0, q_l1, q_l2, q_l3, q_l4, q_l5, q_l6, q_l7, q_l8, q_l9, q_l10, q_l11, q_l12, q_l13, q_l14, q_l15, q_l16, q_l19, q_l20, q_l22, q_l24, q_l30, q_l32, q_l34, q_l36, q_l45, q_l47, q_l48, q_l57, q_l58, q_l59, q_l60, q_l61, q_l66, q_l75, q_l76, q_l94, q_l97, q_l99, q_l100, q_l101, q_l104, q_l105, q_l108, q_l109, q_l111, q_l114, q_l115, q_l116, q_l117, q_l118, q_l119, q_l120, q_l126, q_l132, q_l133, q_l135, q_l136, q_l138, q_l146, q_l147, q_l148, q_l149, q_l150, q_l151, q_l152, q_l153, q_l154, q_l155, q_l156, q_l157, q_l158, q_l214, q_l229, q_l244, q_l259, q_l300, q_l999, q_l1813, q_l2072, q_l10000, q_l65536, q_l1000000000, x1, ht', e1]
      exact hf
theorem u_put : ∀ (cs : List Nat) (t : Nat) (M : gM), (∀ c ∈ cs, 32 ≤ c ∧ c ≤ 126) → t + cs.length ≤ 60 → M 146 1 = nI t → ∃ M1, pPut (cs.map nI) M = some M1 ∧ M1 146 1 = nI (t + cs.length) ∧ (∀ i, i < t → M1 147 i = M 147 i) ∧ (∀ i, i < cs.length → M1 147 (t + i) = nI (cs.getD i 0)) ∧ ∀ a, a ≠ 146 → a ≠ 147 → M1 a = M a := by
  intro cs
  induction cs with
  | nil => intro t M _ _ h; exact ⟨M, rfl, h, fun _ _ => rfl, fun i hi => absurd hi (Nat.not_lt_zero _), fun _ _ _ => rfl⟩
  | cons c cs ih =>
    intro t M hc hl h
    rw [List.length_cons] at hl
    obtain ⟨c1, c2⟩ := hc c List.mem_cons_self
    have e := u_append h (by omega) c1 c2
    obtain ⟨M1, e1, e2, e3, e4, e5⟩ := ih (t + 1) (gs (gs M 147 t (nI c)) 146 1 (nI (t + 1))) (fun x hx => hc x (List.mem_cons_of_mem _ hx)) (by omega) (q_gss rfl)
    refine ⟨M1, ?_, ?_, fun i hi => ?_, fun i hi => ?_, fun a k1 k2 => ?_⟩
    · rw [List.map_cons, pPut, e]
      exact e1
    · rw [e2, List.length_cons, show t + 1 + cs.length = t + (cs.length + 1) by omega]
    · rw [e3 i (by omega), q_gsn (by omega), q_gsk (by omega)]
    · cases i with
      | zero => rw [Nat.add_zero, e3 t (by omega), q_gsn (by omega), q_gss rfl]; rfl
      | succ i =>
        rw [List.length_cons] at hi
        rw [show t + (i + 1) = t + 1 + i by omega, e4 i (by omega)]
        rfl
    · rw [e5 a k1 k2, q_gsn k1, q_gsn k2]
/-- run: a text that is none -/
theorem u_runP {tx : Nat → Nat} {t e : Nat} {cs : List (Nat × List Nat)} (h1 : M 146 1 = nI t) (h3 : ∀ i, i < t → M 147 i = nI (tx i) ∧ tx i < 128) (h4 : t ≤ 60) (hp : pA tx t 8 0 [] = (false, e, cs)) :
    ∃ M1, f_X6_run M = some (.inl "java/lang/IllegalArgumentException", M1) ∧ M1 132 8 = nI e ∧ M1 146 1 = nI 0 ∧ (∀ a, a ≠ 132 → ¬ (135 ≤ a ∧ a ≤ 146) → M1 a = M a) ∧ ∀ k, k ≠ 8 → M1 132 k = M 132 k := by
  rcases c_readInto (tx := tx) h1 h3 h4 with ⟨S', p', cs', hpA, hrd, -, -⟩ | ⟨S', e', cs', hpA, he, hrd, he2, hK⟩
  · rw [hp] at hpA
    exact absurd (show false = true from congrArg Prod.fst hpA) (by decide)
  · rw [hp] at hpA
    have ee : e = e' := congrArg (fun z => z.2.1) hpA
    subst ee
    obtain ⟨M1, hM1⟩ : ∃ M1, M1 = gs (gs S' 146 1 (nI 0)) 132 8 (nI e) := ⟨_, rfl⟩
    refine ⟨M1, ?_, by rw [hM1]; exact q_gss rfl, by rw [hM1, q_gsn (by omega)]; exact q_gss rfl, fun a k1 k2 => by rw [hM1, q_gsn k1, q_gsn (by omega), hK.1 a k2], fun k hk => by rw [hM1, q_gsk hk, q_gsn (by omega), hK.1 132 (by omega)]⟩
    have e2 : gs S' 146 1 (nI 0) 146 2 = nI e := by rw [q_gsk (by omega)]; exact he2
    unfold f_X6_run
    rw [hrd, Option.bind_some, q_gLet]
    show (if gb false = 0 then gLet (gs (gs S' 146 1 (nI 0)) 132 8 (gs S' 146 1 (nI 0) 146 2)) _ else _) = _
    rw [if_pos (show gb false = 0 from rfl), q_gLet, e2, ← hM1]
/-- run: its beginning -/
theorem u_runH {tx : Nat → Nat} {t p : Nat} {cs : List (Nat × List Nat)} (g : gSim M 0 r) (h1 : M 146 1 = nI t) (h3 : ∀ i, i < t → M 147 i = nI (tx i) ∧ tx i < 128) (h4 : t ≤ 60) (hp : pA tx t 8 0 [] = (true, p, cs)) :
    ∃ S0, f_X6_run M = (f_X4_firstFailureOn 12 S0).bind (fun r7 => (if r7.1 = (-1) then (f_X1_push 0 r7.2).bind fun r10 => (f_X5_copyFrom 0 12 r10).bind fun r12 => some (.inr (r12 135 2), r12) else gLet (gs r7.2 132 9 r7.1) fun M14 => some (.inl "java/lang/IllegalStateException", M14))) ∧
      gSim S0 12 r ∧ S0 135 2 = nI cs.length ∧ gCmds S0 cs ∧ S0 146 1 = nI 0 ∧ ∀ a, ¬ (12 ≤ a ∧ a < 24) → ¬ (135 ≤ a ∧ a ≤ 146) → S0 a = M a := by
  rcases c_readInto (tx := tx) h1 h3 h4 with ⟨S', p', cs', hpA, hrd, ⟨hT, h135, hK, hCm⟩, hlen⟩ | ⟨S', e', cs', hpA, he, hrd, he2, hK⟩
  · rw [hp] at hpA
    have : cs = cs' := congrArg (fun z => z.2.2) hpA
    subst this
    obtain ⟨M3, hM3⟩ : ∃ M3, M3 = gs S' 146 1 (nI 0) := ⟨_, rfl⟩
    have o3 : ∀ a, ¬ (135 ≤ a ∧ a ≤ 146) → M3 a = M a := fun a ha => by rw [hM3, q_gsn (by omega), hK.1 a ha]
    obtain ⟨S0, hS0⟩ : ∃ S0, S0 = cpM M3 12 0 := ⟨_, rfl⟩
    have g3 : gSim M3 0 r := g.frm (fun a h1 h2 h3 => o3 a (by omega))
    have g0 : gSim S0 12 r := by rw [hS0]; exact cpM_sim (Or.inr (by omega)) g3
    have os : ∀ a, ¬ (12 ≤ a ∧ a < 24) → S0 a = M3 a := fun a ha => by rw [hS0]; exact cpM_fr (by omega)
    refine ⟨S0, ?_, g0, by rw [os 135 (by omega), hM3, q_gsn (by omega)]; exact h135, fun i k' vs' h' => ?_, by rw [os 146 (by omega), hM3]; exact q_gss rfl, fun a k1 k2 => by rw [os a k1, o3 a k2]⟩
    · unfold f_X6_run
      rw [hrd, Option.bind_some, q_gLet]
      show (if gb true = 0 then _ else (f_X5_copyFrom 12 0 (gs S' 146 1 (nI 0))).bind _) = _
      rw [if_neg (show ¬ gb true = 0 by decide), ← hM3, c_copyFrom, Option.bind_some, ← hS0]
    · obtain ⟨c1, c2, c3⟩ := hCm i k' vs' h'
      exact ⟨c1, by rw [os 136 (by omega), hM3, q_gsn (by omega)]; exact c2, fun j c hj4 hj => by rw [os 137 (by omega), hM3, q_gsn (by omega)]; exact c3 j c hj4 hj⟩
  · rw [hp] at hpA
    exact absurd (show true = false from congrArg Prod.fst hpA) (by decide)
/-- run: all is done -/
theorem u_runY {tx : Nat → Nat} {t p : Nat} {cs : List (Nat × List Nat)} {r' : Nat → Int32} (g : gSim M 0 r) (w : gRow β r) (h : cH β M L) (h7 : L.length ≤ 7) (h1 : M 146 1 = nI t) (h3 : ∀ i, i < t → M 147 i = nI (tx i) ∧ tx i < 128) (h4 : t ≤ 60) (hp : pA tx t 8 0 [] = (true, p, cs))
    (oc : ∀ S, gSim S 12 r → S 135 2 = nI cs.length → gCmds S cs → ∃ S', f_X4_firstFailureOn 12 S = some (-nI 1, S') ∧ gFr 12 S S' ∧ gSim S' 12 r') :
    ∃ M1, f_X6_run M = some (.inr (nI cs.length), M1) ∧ gSim M1 0 r' ∧ cH β M1 (r :: L) ∧ M1 146 1 = nI 0 ∧ (∀ a, 24 ≤ a → a < 36 → M1 a = M a) ∧ M1 132 = M 132 := by
  obtain ⟨S0, hr, g0, c135, c0, c146, os⟩ := u_runH g h1 h3 h4 hp
  obtain ⟨S1, e1, fr1, g1⟩ := oc S0 g0 c135 c0
  have o1 : ∀ a, ¬ (12 ≤ a ∧ a < 24) → ¬ (135 ≤ a ∧ a ≤ 146) → S1 a = M a := fun a h1 h2 => by rw [fr1 a (by omega), os a h1 h2]
  obtain ⟨Sp, ep, p0, ph, p1, p2⟩ := u_push (M := S1) (r := r) (g.frm (fun a k1 k2 k3 => o1 a (by omega) (by omega))) w (h.frm (fun a k1 k2 k3 => o1 a (by omega) (by omega))) h7
  have p12 : gSim Sp 12 r' := g1.frm (fun a h1 h2 h3 => p1 a (by omega))
  obtain ⟨Mc, hMc⟩ : ∃ Mc, Mc = cpM Sp 0 12 := ⟨_, rfl⟩
  have gc : gSim Mc 0 r' := by rw [hMc]; exact cpM_sim (Or.inl (by omega)) p12
  have oM : ∀ a, 12 ≤ a → Mc a = Sp a := fun a h1 => by rw [hMc]; exact cpM_fr (by omega)
  refine ⟨Mc, ?_, gc, ph.frm (fun a k1 k2 k3 => oM a (by omega)), by rw [oM 146 (by omega), p2 146 (by omega) (by omega), fr1 146 (by omega)]; exact c146, fun a k1 k2 => by rw [oM a (by omega), p1 a (by omega), o1 a (by omega) (by omega)], by rw [oM 132 (by omega), p2 132 (by omega) (by omega), o1 132 (by omega) (by omega)]⟩
  have m135 : Mc 135 2 = nI cs.length := by rw [oM 135 (by omega), p2 135 (by omega) (by omega), fr1 135 (by omega)]; exact c135
  rw [hr, e1, Option.bind_some, if_pos (show -nI 1 = (-1 : Int32) from rfl), ep, Option.bind_some, c_copyFrom, Option.bind_some, ← hMc, m135]
/-- run: a command is at fault -/
theorem u_runN {tx : Nat → Nat} {t p j : Nat} {cs : List (Nat × List Nat)} (g : gSim M 0 r) (h1 : M 146 1 = nI t) (h3 : ∀ i, i < t → M 147 i = nI (tx i) ∧ tx i < 128) (h4 : t ≤ 60) (hp : pA tx t 8 0 [] = (true, p, cs)) (hj : j < 8)
    (oc : ∀ S, gSim S 12 r → S 135 2 = nI cs.length → gCmds S cs → ∃ S', f_X4_firstFailureOn 12 S = some (nI j, S') ∧ gFr 12 S S') :
    ∃ M1, f_X6_run M = some (.inl "java/lang/IllegalStateException", M1) ∧ M1 132 9 = nI j ∧ M1 146 1 = nI 0 ∧ (∀ a, a ≠ 132 → ¬ (12 ≤ a ∧ a < 24) → ¬ (135 ≤ a ∧ a ≤ 146) → M1 a = M a) ∧ ∀ k, k ≠ 9 → M1 132 k = M 132 k := by
  obtain ⟨S0, hr, g0, c135, c0, c146, os⟩ := u_runH g h1 h3 h4 hp
  obtain ⟨S1, e1, fr1⟩ := oc S0 g0 c135 c0
  have o1 : ∀ a, ¬ (12 ≤ a ∧ a < 24) → ¬ (135 ≤ a ∧ a ≤ 146) → S1 a = M a := fun a h1 h2 => by rw [fr1 a (by omega), os a h1 h2]
  obtain ⟨M1, hM1⟩ : ∃ M1, M1 = gs S1 132 9 (nI j) := ⟨_, rfl⟩
  refine ⟨M1, ?_, by rw [hM1]; exact q_gss rfl, by rw [hM1, q_gsn (by omega), fr1 146 (by omega)]; exact c146, fun a k1 k2 k3 => by rw [hM1, q_gsn k1, o1 a k2 k3], fun k hk => by rw [hM1, q_gsk hk, o1 132 (by omega) (by omega)]⟩
  have hne : ¬ nI j = (-1 : Int32) := fun q => by
    rw [show (-1 : Int32) = -nI 1 from rfl, v_m1ne (by omega)] at q
    exact q
  rw [hr, e1, Option.bind_some, if_neg hne, q_gLet, ← hM1]
/-- a command of hours, on the trial -/
theorem u_hrs {S : gM} {i n a F : Nat} (g : gSim S 12 r) (w : gRow β r) (hβ : β ≤ 590) (h2 : S 135 2 = nI n) (hi : i < n) (hn : n ≤ 8) (h6 : S 136 i = nI 7) (h0 : S 137 (i * 4 + 0) = nI a) (ha : 1 ≤ a) (ha2 : a ≤ 100) :
    ∃ S1, f_X4_firstFailureOn_L2 12 (F + 1) (nI i) S = f_X4_firstFailureOn_L2 12 F (nI (i + 1)) S1 ∧ gFr 12 S S1 ∧ gSim S1 12 (hpI r a) := by
  obtain ⟨e1, e2⟩ := x_hours (by omega) h6 h0
  obtain ⟨S1, e3, fr, g1⟩ := c_hoursPass g w hβ (n := a) ha2
  have hf : f_X6_passingFault (nI a) S = some 0 := by
    unfold f_X6_passingFault
    simp (disch := omega) only [q_seqr, q_seql, q_ig, q_ni, q_le, q_nle, q_lt, q_nlt, q_eq, q_ne, q_eqr, q_gbt, q_gbf, q_gbd, q_m1lt, q_m1ge, q_m1ne, q_m1eq, q_m1e, Option.bind_some, gLet, nI_add, pk_mul, q_sub, q_m1, q_div, q_modN, nI_clamp, if_true, if_false, Bool.false_eq_true, q_l0, q_l1, q_l2, q_l3, q_l4, q_l5, q_l6, q_l7, q_l8, q_l9, q_l10, q_l11, q_l12, q_l13, q_l14, q_l15, q_l16, q_l19, q_l20, q_l22, q_l24, q_l30, q_l32, q_l34, q_l36, q_l45, q_l47, q_l48, q_l57, q_l58, q_l59, q_l60, q_l61, q_l66, q_l75, q_l76, q_l94, q_l97, q_l99, q_l100, q_l101, q_l104, q_l105, q_l108, q_l109, q_l111, q_l114, q_l115, q_l116, q_l117, q_l118, q_l119, q_l120, q_l126, q_l132, q_l133, q_l135, q_l136, q_l138, q_l146, q_l147, q_l148, q_l149, q_l150, q_l151, q_l152, q_l153, q_l154, q_l155, q_l156, q_l157, q_l158, q_l214, q_l229, q_l244, q_l259, q_l300, q_l999, q_l1813, q_l2072, q_l10000, q_l65536, q_l1000000000, m_done, m_fails, m_thrown, m_th, gs_same, q_gsgs, c_raise0, c_raise1, c_raise2, c_raise3, c_raise4]
  refine ⟨S1, ?_, fr, g1⟩
  rw [f_X4_firstFailureOn_L2, h2, if_neg (nI_ge (show i < n by omega) (by omega)), e1, hf, Option.bind_some, if_pos rfl, e2, e3, Option.bind_some, Option.bind_some, show nI i + 1 = nI (i + 1) from nI_add _ 1]
theorem u_end {S : gM} {n F : Nat} (h2 : S 135 2 = nI n) (hn : n ≤ 8) : f_X4_firstFailureOn_L2 12 (F + 1) (nI n) S = some (-nI 1, S) := by
  rw [f_X4_firstFailureOn_L2, h2, if_pos (nI_le (Nat.le_refl _) (by omega))]
  rfl
theorem u_failed {j : Nat} (x6 : M 132 9 = nI j) (hj : j < 100) : f_X6_failedCommand M = some (.inr (nI j), M) := by
  unfold f_X6_failedCommand
  simp (disch := omega) only [↓reduceIte, eq_self, Bool.true_eq_false, Bool.false_eq_true, q_seqr, q_seql, v_ig, v_ni, v_le, v_nle, v_lt, v_nlt, v_eq, v_ne, v_gbt, v_gbf, v_gbd, v_m1lt, v_m1ge, v_m1ne, v_m1e, ↓q_bindD, ↓q_gLet, Option.isSome_some, Option.getD_some, nI_add, pk_mul, q_sub, q_m1, q_div, q_modN, nI_clamp, if_true, if_false, q_l0, q_l1, q_l2, q_l3, q_l4, q_l5, q_l6, q_l7, q_l8, q_l9, q_l10, q_l11, q_l12, q_l13, q_l14, q_l15, q_l16, q_l19, q_l20, q_l22, q_l24, q_l30, q_l32, q_l34, q_l36, q_l45, q_l47, q_l48, q_l57, q_l58, q_l59, q_l60, q_l61, q_l66, q_l75, q_l76, q_l94, q_l97, q_l99, q_l100, q_l101, q_l104, q_l105, q_l108, q_l109, q_l111, q_l114, q_l115, q_l116, q_l117, q_l118, q_l119, q_l120, q_l126, q_l132, q_l133, q_l135, q_l136, q_l138, q_l146, q_l147, q_l148, q_l149, q_l150, q_l151, q_l152, q_l153, q_l154, q_l155, q_l156, q_l157, q_l158, q_l214, q_l229, q_l244, q_l259, q_l300, q_l999, q_l1813, q_l2072, q_l10000, q_l65536, q_l1000000000, x6, c_found]
theorem u_error {j : Nat} (x6 : M 132 8 = nI j) (hj : j < 100) : f_X6_errorPosition M = some (.inr (nI j), M) := by
  unfold f_X6_errorPosition
  simp (disch := omega) only [↓reduceIte, eq_self, Bool.true_eq_false, Bool.false_eq_true, q_seqr, q_seql, v_ig, v_ni, v_le, v_nle, v_lt, v_nlt, v_eq, v_ne, v_gbt, v_gbf, v_gbd, v_m1lt, v_m1ge, v_m1ne, v_m1e, ↓q_bindD, ↓q_gLet, Option.isSome_some, Option.getD_some, nI_add, pk_mul, q_sub, q_m1, q_div, q_modN, nI_clamp, if_true, if_false, q_l0, q_l1, q_l2, q_l3, q_l4, q_l5, q_l6, q_l7, q_l8, q_l9, q_l10, q_l11, q_l12, q_l13, q_l14, q_l15, q_l16, q_l19, q_l20, q_l22, q_l24, q_l30, q_l32, q_l34, q_l36, q_l45, q_l47, q_l48, q_l57, q_l58, q_l59, q_l60, q_l61, q_l66, q_l75, q_l76, q_l94, q_l97, q_l99, q_l100, q_l101, q_l104, q_l105, q_l108, q_l109, q_l111, q_l114, q_l115, q_l116, q_l117, q_l118, q_l119, q_l120, q_l126, q_l132, q_l133, q_l135, q_l136, q_l138, q_l146, q_l147, q_l148, q_l149, q_l150, q_l151, q_l152, q_l153, q_l154, q_l155, q_l156, q_l157, q_l158, q_l214, q_l229, q_l244, q_l259, q_l300, q_l999, q_l1813, q_l2072, q_l10000, q_l65536, q_l1000000000, x6, c_found]
end UR
