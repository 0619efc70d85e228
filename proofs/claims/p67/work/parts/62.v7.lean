/-! The commands of a run, on both sides. -/
def cOK (cs : List (Nat × List Nat)) : Prop := ∀ (i k : Nat) (vs : List Nat), cs[i]? = some (k, vs) → isK k ∧ vs.length = itN (its k)
def xOKc (cs : List (Nat × List Nat)) (d i : Nat) (r r' : Nat → Int32) : Prop := ∀ S f, d < f → gSim S 12 r → S 135 2 = nI cs.length → gCmds S cs → ∃ S', f_X4_firstFailureOn_L2 12 f (nI i) S = some (-nI 1, S') ∧ gFr 12 S S' ∧ gSim S' 12 r'
def xOKm (cs : List (Nat × List Nat)) (d i : Nat) (r r' : Nat → Int32) : Prop := ∀ R f, d < f → R 151 = r → mCmds R cs → ∃ R', f_X7_run_L130 (nI 0) (nI cs.length) f (nI i) R = f_X7_kept (nI cs.length) R' ∧ R' 151 = r' ∧ R' 150 13 = nI 0 ∧ (∀ a, a ≠ 150 → a ≠ 151 → R' a = R a) ∧ (∀ k, k ≠ 13 → R' 150 k = R 150 k)
def xNOc (cs : List (Nat × List Nat)) (d i j : Nat) (r : Nat → Int32) : Prop := ∀ S f, d < f → gSim S 12 r → S 135 2 = nI cs.length → gCmds S cs → ∃ S', f_X4_firstFailureOn_L2 12 f (nI i) S = some (nI j, S') ∧ gFr 12 S S'
def xNOm (cs : List (Nat × List Nat)) (d i j : Nat) (r : Nat → Int32) : Prop := ∀ R f, d < f → R 151 = r → mCmds R cs → ∃ R', f_X7_run_L130 (nI 0) (nI cs.length) f (nI i) R = f_X7_kept (nI 0) R' ∧ R' 150 13 = nI 2 ∧ R' 150 10 = nI j ∧ (∀ a, a ≠ 150 → a ≠ 151 → R' a = R a) ∧ (∀ k, k ≠ 10 → k ≠ 13 → R' 150 k = R 150 k)
theorem x_loop {cs : List (Nat × List Nat)} (h8 : cs.length ≤ 8) (hok : cOK cs) : ∀ d i r β, i + d = cs.length → gRow β r → β + d ≤ 590 →
    (∃ r', gRow (β + d) r' ∧ xOKc cs d i r r' ∧ xOKm cs d i r r') ∨ (∃ j, j < cs.length ∧ xNOc cs d i j r ∧ xNOm cs d i j r) := by
  intro d
  induction d with
  | zero =>
    intro i r β hi w hβ
    have hi : i = cs.length := by omega
    subst hi
    refine Or.inl ⟨r, w, fun S f hf g h2 hc => ⟨S, ?_, gFr.rf, g⟩, fun R f hf hR hc => ⟨gs R 150 13 (nI 0), ?_, by rw [q_gsn (by omega)]; exact hR, q_gss rfl, fun a h1 _ => q_gsn h1, fun k hk => q_gsk hk⟩⟩
    · obtain ⟨m, rfl⟩ : ∃ m, f = m + 1 := ⟨f - 1, by omega⟩
      rw [f_X4_firstFailureOn_L2, h2, if_pos (nI_le (Nat.le_refl _) (by omega))]
      rfl
    · obtain ⟨m, rfl⟩ : ∃ m, f = m + 1 := ⟨f - 1, by omega⟩
      rw [f_X7_run_L130, if_pos (nI_le (Nat.le_refl _) (by omega)), m_done, Option.bind_some]
      exact q_eta _
  | succ d ih =>
    intro i r β hi w hβ
    have hlt : i < cs.length := by omega
    obtain ⟨kv, hcs⟩ : ∃ kv, cs[i] = kv := ⟨_, rfl⟩
    obtain ⟨k, vs⟩ := kv
    have hg : cs[i]? = some (k, vs) := by rw [List.getElem?_eq_getElem hlt, hcs]
    obtain ⟨hk, hv⟩ := hok i k vs hg
    obtain ⟨cf, cd, cr, m, code, codes, hB, hC, hc, hm⟩ := exec1 hk hv
    have hit := (its_ok k hk).2.1
    have cstep : ∀ S f, S 135 2 = nI cs.length → gCmds S cs → f_X4_firstFailureOn_L2 12 (f + 1) (nI i) S = (cf 12 S).bind fun r5 => (if r5 = 0 then (cr 12 S).bind fun r9 => f_X4_firstFailureOn_L2 12 f (nI (i + 1)) r9 else some (nI i, S)) := fun S f h2 hcm => by
      obtain ⟨c1, c2, c3⟩ := hcm i k vs hg
      obtain ⟨e1, e2⟩ := hc S i (by omega) c2 (fun j c hj => c3 j c (by have := (List.getElem?_eq_some_iff.mp hj).1; omega) hj)
      rw [f_X4_firstFailureOn_L2, h2, if_neg (nI_ge (show i < cs.length by omega) (by omega)), e1, e2, show nI i + 1 = nI (i + 1) from nI_add _ 1]
    have mstep : ∀ R f, mCmds R cs → f_X7_run_L130 (nI 0) (nI cs.length) (f + 1) (nI i) R = (m R).bind fun r15 => (if (r15.2 150 13) = 0 then f_X7_run_L130 (nI 0) (nI cs.length) f (nI (i + 1)) r15.2 else gLet (gs r15.2 150 10 (nI i)) fun M18 => gLet (gs M18 150 13 2) fun M19 => (f_X7_kept r15.1 M19).bind fun r20 => some (r20.1, r20.2)) := fun R f hcm => by
      obtain ⟨c1, c2, c3, c4⟩ := hcm i k vs hg
      have e1 := hm R (5 * i) (by omega) c3 c4
      rw [f_X7_run_L130, if_neg (nI_ge (show i < cs.length by omega) (by omega)), show (5 : Int32) = nI 5 by decide, pk_mul, e1, show nI i + 1 = nI (i + 1) from nI_add _ 1]
    rcases hC r β w (by omega) with ⟨f, hf0, ⟨-, hpos, hf4⟩, hcf, hmf⟩ | ⟨r1, v, w1, hcc, hmm⟩
    · refine Or.inr ⟨i, hlt, fun S F hF g h2 hcm => ⟨S, ?_, gFr.rf⟩, fun R F hF hR hcm => ⟨gs (gs (gs R 150 13 (nI (code f))) 150 10 (nI i)) 150 13 (nI 2), ?_, q_gss rfl, ?_, fun a h1 _ => ?_, fun k h1 h2 => ?_⟩⟩
      · obtain ⟨F, rfl⟩ : ∃ m, F = m + 1 := ⟨F - 1, by omega⟩
        have hne : ¬ nI f = (0 : Int32) := fun z => hf0 ((nI_eq (by omega) (by omega)).mp z)
        rw [cstep S F h2 hcm, hcf S 12 g, Option.bind_some, if_neg hne]
      · obtain ⟨F, rfl⟩ : ∃ m, F = m + 1 := ⟨F - 1, by omega⟩
        have hb := hB f hf4
        have hne : ¬ nI (code f) = (0 : Int32) := fun z => by
          have := (nI_eq (show code f < 2 ^ 31 by omega) (show 0 < 2 ^ 31 by omega)).mp z
          omega
        rw [mstep R F hcm, hmf R hR, Option.bind_some]
        show (if gs R 150 13 (nI (code f)) 150 13 = 0 then _ else _) = _
        rw [q_gss rfl, if_neg hne, q_gLet, q_gLet]
        exact q_eta _
      · rw [q_gsk (by omega), q_gss rfl]
      · rw [q_gsn h1, q_gsn h1, q_gsn h1]
      · rw [q_gsk h2, q_gsk h1, q_gsk h2]
    · have stepC : ∀ S F, gSim S 12 r → S 135 2 = nI cs.length → gCmds S cs → ∃ M1, f_X4_firstFailureOn_L2 12 (F + 1) (nI i) S = f_X4_firstFailureOn_L2 12 F (nI (i + 1)) M1 ∧ gFr 12 S M1 ∧ gSim M1 12 r1 ∧ M1 135 2 = nI cs.length ∧ gCmds M1 cs := fun S F g h2 hcm => by
        obtain ⟨e1, M1, -, e2, fr, g1⟩ := hcc S 12 g
        refine ⟨M1, ?_, fr, g1, by rw [fr 135 (by omega)]; exact h2, fun i' k' vs' h' => ?_⟩
        · rw [cstep S F h2 hcm, e1, Option.bind_some, if_pos (show nI 0 = (0 : Int32) from rfl), e2, Option.bind_some]
        · obtain ⟨c1, c2, c3⟩ := hcm i' k' vs' h'
          exact ⟨c1, by rw [fr 136 (by omega)]; exact c2, fun j c hj4 hj => by rw [fr 137 (by omega)]; exact c3 j c hj4 hj⟩
      have stepM : ∀ R F, R 151 = r → mCmds R cs → f_X7_run_L130 (nI 0) (nI cs.length) (F + 1) (nI i) R = f_X7_run_L130 (nI 0) (nI cs.length) F (nI (i + 1)) (gs (gw R 151 r1) 150 13 (nI 0)) ∧ (gs (gw R 151 r1) 150 13 (nI 0)) 151 = r1 ∧ mCmds (gs (gw R 151 r1) 150 13 (nI 0)) cs := fun R F hR hcm => by
        refine ⟨?_, by rw [q_gsn (by omega), gw_same], fun i' k' vs' h' => ?_⟩
        · rw [mstep R F hcm, hmm R hR, Option.bind_some]
          rw [if_pos (show (v, gs (gw R 151 r1) 150 13 (nI 0)).2 150 13 = 0 from (show gs (gw R 151 r1) 150 13 (nI 0) 150 13 = nI 0 from q_gss rfl))]
        · rw [q_gsn (show 158 ≠ 150 by omega), gw_ne (show 158 ≠ 151 by omega)]
          exact hcm i' k' vs' h'
      rcases ih (i + 1) r1 (β + 1) (by omega) w1 (by omega) with ⟨r', w', oc, om⟩ | ⟨j, hj, oc, om⟩
      · refine Or.inl ⟨r', by rw [show β + (d + 1) = β + 1 + d by omega]; exact w', fun S F hF g h2 hcm => ?_, fun R F hF hR hcm => ?_⟩
        · obtain ⟨F, rfl⟩ : ∃ m, F = m + 1 := ⟨F - 1, by omega⟩
          obtain ⟨M1, e, fr, g1, h21, hc1⟩ := stepC S F g h2 hcm
          obtain ⟨S', e2, fr2, g2⟩ := oc M1 F (by omega) g1 h21 hc1
          exact ⟨S', by rw [e, e2], fr.tr fr2, g2⟩
        · obtain ⟨F, rfl⟩ : ∃ m, F = m + 1 := ⟨F - 1, by omega⟩
          obtain ⟨e, hR1, hc1⟩ := stepM R F hR hcm
          obtain ⟨R', e2, q1, q2, q3, q4⟩ := om _ F (by omega) hR1 hc1
          refine ⟨R', by rw [e, e2], q1, q2, fun a h1 h2 => by rw [q3 a h1 h2, q_gsn h1, gw_ne h2], fun k hk => by rw [q4 k hk, q_gsk hk, gw_ne (by omega)]⟩
      · refine Or.inr ⟨j, hj, fun S F hF g h2 hcm => ?_, fun R F hF hR hcm => ?_⟩
        · obtain ⟨F, rfl⟩ : ∃ m, F = m + 1 := ⟨F - 1, by omega⟩
          obtain ⟨M1, e, fr, g1, h21, hc1⟩ := stepC S F g h2 hcm
          obtain ⟨S', e2, fr2⟩ := oc M1 F (by omega) g1 h21 hc1
          exact ⟨S', by rw [e, e2], fr.tr fr2⟩
        · obtain ⟨F, rfl⟩ : ∃ m, F = m + 1 := ⟨F - 1, by omega⟩
          obtain ⟨e, hR1, hc1⟩ := stepM R F hR hcm
          obtain ⟨R', e2, q1, q2, q3, q4⟩ := om _ F (by omega) hR1 hc1
          refine ⟨R', by rw [e, e2], q1, q2, fun a h1 h2 => by rw [q3 a h1 h2, q_gsn h1, gw_ne h2], fun k h1 hk => by rw [q4 k h1 hk, q_gsk hk, gw_ne (by omega)]⟩
