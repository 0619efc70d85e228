/-! The class's whole text. -/
def pA (tx : Nat → Nat) (t : Nat) : Nat → Nat → List (Nat × List Nat) → Bool × Nat × List (Nat × List Nat)
  | 0, p, cs => (false, p, cs)
  | n + 1, p, cs =>
    if (pC tx t p).1 = true then (if (pC tx t p).2.1 = t then (true, (pC tx t p).2.1, cs ++ [(ltr tx t p, (pC tx t p).2.2)])
      else if (pC tx t p).2.1 < t ∧ tx (pC tx t p).2.1 = 59 then pA tx t n ((pC tx t p).2.1 + 1) (cs ++ [(ltr tx t p, (pC tx t p).2.2)]) else (false, (pC tx t p).2.1, cs))
    else (false, (pC tx t p).2.1, cs)
/-- what stands of the commands read: kinds and arguments -/
def gCmds (S : gM) (cs : List (Nat × List Nat)) : Prop := ∀ i k vs, cs[i]? = some (k, vs) → isK k ∧ S 136 i = nI (kd k) ∧ ∀ j c, j < 4 → vs[j]? = some c → S 137 (i * 4 + j) = nI c
def gCS (M0 S : gM) (tx : Nat → Nat) (t p : Nat) (cs : List (Nat × List Nat)) : Prop := tS S tx t p ∧ S 135 2 = nI cs.length ∧ gFrK M0 S ∧ gCmds S cs
theorem lnF_get {f : Nat → Int32} {vs : List Nat} {j c : Nat} (h : vs[j]? = some c) : lnF f vs j = nI c := by
  obtain ⟨hj, e⟩ := List.getElem?_eq_some_iff.mp h
  unfold lnF
  rw [if_pos hj, List.getD_eq_getElem?_getD, h]
  rfl
theorem c_intoL {M0 : gM} {tx : Nat → Nat} {t : Nat} : ∀ d f p (cs : List (Nat × List Nat)) S, cs.length + d = 8 → d < f → gCS M0 S tx t p cs →
    (∃ S' p' cs', pA tx t d p cs = (true, p', cs') ∧ f_X2_readInto_L12 f (nI cs.length) S = some (true, S') ∧ gCS M0 S' tx t p' cs' ∧ cs'.length ≤ 8) ∨
    (∃ S' e cs', pA tx t d p cs = (false, e, cs') ∧ e ≤ t ∧ f_X2_readInto_L12 f (nI cs.length) S = some (false, S') ∧ S' 146 2 = nI e ∧ gFrK M0 S') := by
  intro d
  induction d with
  | zero =>
    intro f p cs S hd hf ⟨h1, h2, h3, h4⟩
    obtain ⟨m, rfl⟩ : ∃ m, f = m + 1 := ⟨f - 1, by omega⟩
    refine Or.inr ⟨S, p, cs, rfl, h1.2.2.2.2, ?_, h1.2.1, h3⟩
    rw [f_X2_readInto_L12, show cs.length = 8 by omega]
    rfl
  | succ d ih =>
    intro f p cs S hd hf ⟨h1, h2, h3, h4⟩
    obtain ⟨m, rfl⟩ : ∃ m, f = m + 1 := ⟨f - 1, by omega⟩
    have hlt : ¬ (8 : Int32) ≤ nI cs.length := nI_ge (show cs.length < 8 by omega) (by decide)
    have trF : ∀ {B : gM}, gFrK S B → gFrK M0 B := fun hB => ⟨fun a ha => (hB.1 a ha).trans (h3.1 a ha), fun j hj => (hB.2 j hj).trans (h3.2 j hj)⟩
    rcases c_cmd h1 h2 (by omega) with ⟨k, p', vs, B, hk, hl, hp', hpC, hr, b136, b135, frB, b136', b138⟩ | ⟨e, vs, M', he, hpC, hr, hM', frM⟩
    · obtain ⟨S1, hS1⟩ : ∃ S1, S1 = cPs B (cs.length + 1) p' vs := ⟨_, rfl⟩
      have o1 : ∀ a, a ≠ 137 → a ≠ 146 → S1 a = B a := fun a ha hb => by rw [hS1, cPs_o ha hb]
      have k1 : ∀ j, j ≠ 2 → S1 146 j = S 146 j := fun j hj => by rw [hS1, cPs_k (by omega) hj, frB.2 j hj]
      have tS1 : tS S1 tx t p' := by
        obtain ⟨a1, a2, a3, a4, a5⟩ := h1
        refine ⟨by rw [k1 1 (by omega)]; exact a1, by rw [hS1]; exact cPs_p, fun i hi => ?_, a4, hp'⟩
        rw [o1 147 (by omega) (by omega), frB.1 147 (by omega)]
        exact a3 i hi
      have fr1 : gFrK M0 S1 := trF ⟨fun a ha => by rw [o1 a (by omega) (by omega), frB.1 a ha], k1⟩
      have cm1 : gCmds S1 (cs ++ [(k, vs)]) := by
        intro i k' vs' hi
        by_cases hlt : i < cs.length
        · rw [List.getElem?_append_left hlt] at hi
          obtain ⟨c1, c2, c3⟩ := h4 i k' vs' hi
          refine ⟨c1, by rw [o1 136 (by omega) (by omega), b136' i (by omega)]; exact c2, fun j c hj4 hj => ?_⟩
          rw [hS1, cPs_v, lnG_o (by omega), b138]
          exact c3 j c hj4 hj
        · rw [List.getElem?_append_right (by omega)] at hi
          have hi0 : i = cs.length := by
            by_cases q : i = cs.length
            · exact q
            · rw [List.getElem?_eq_none (by simp; omega)] at hi
              cases hi
          subst hi0
          rw [Nat.sub_self] at hi
          have e := Option.some.inj hi
          have e1 : k = k' := congrArg Prod.fst e
          have e2 : vs = vs' := congrArg Prod.snd e
          subst e1
          subst e2
          refine ⟨hk, by rw [o1 136 (by omega) (by omega)]; exact b136, fun j c hj4 hj => ?_⟩
          rw [hS1, show cs.length * 4 + j = (cs.length + 1 - 1) * 4 + j by omega, cPs_v]
          exact lnG_get hj
      have l1 : (cs ++ [(k, vs)]).length = cs.length + 1 := by rw [List.length_append]; rfl
      have g1 : gCS M0 S1 tx t p' (cs ++ [(k, vs)]) := ⟨tS1, by rw [l1, o1 135 (by omega) (by omega)]; exact b135, fr1, cm1⟩
      rw [← hS1] at hr
      have eA : pA tx t (d + 1) p cs = if p' = t then (true, p', cs ++ [(k, vs)]) else if p' < t ∧ tx p' = 59 then pA tx t d (p' + 1) (cs ++ [(k, vs)]) else (false, p', cs) := by
        rw [pA, hpC, hl, if_pos rfl]
      have eF : f_X2_readInto_L12 (m + 1) (nI cs.length) S = if nI p' = nI t then some (true, S1) else (f_X2_read 59 S1).bind fun r8 => (if (gb r8.1) = 0 then some (false, r8.2) else f_X2_readInto_L12 m (nI cs.length + 1) r8.2) := by
        rw [f_X2_readInto_L12, if_neg hlt, hr, Option.bind_some, if_neg (show ¬ gb true = 0 by decide)]
        show (if S1 146 2 = S1 146 1 then some (true, S1) else (f_X2_read 59 S1).bind fun r8 => (if (gb r8.1) = 0 then some (false, r8.2) else f_X2_readInto_L12 m (nI cs.length + 1) r8.2)) = _
        rw [tS1.1, tS1.2.1]
      rw [eA, eF]
      by_cases hpt : p' = t
      · rw [if_pos hpt, if_pos (by rw [hpt])]
        exact Or.inl ⟨S1, p', _, rfl, rfl, g1, by rw [l1]; omega⟩
      · have t60 := h1.2.2.2.1
        rw [if_neg hpt, if_neg (fun q => hpt ((nI_eq (by omega) (by omega)).mp q))]
        have rd := c_read tS1 (c := 59) (by omega) (by omega)
        by_cases h59 : p' < t ∧ tx p' = 59
        · rw [if_pos h59] at rd
          rw [if_pos h59, q_l59, rd, Option.bind_some, if_neg (show ¬ gb true = 0 by decide), show nI cs.length + 1 = nI (cs ++ [(k, vs)]).length by rw [l1]; exact nI_add _ 1]
          refine ih m (p' + 1) _ (gs S1 146 2 (nI (p' + 1))) (by rw [l1]; omega) (by omega) ⟨?_, ?_, ?_, ?_⟩
          · obtain ⟨a1, a2, a3, a4, a5⟩ := tS1
            exact ⟨by rw [q_gsk (by omega)]; exact a1, q_gss rfl, by rw [q_gsn (by omega)]; exact a3, a4, by omega⟩
          · rw [q_gsn (by omega)]; exact g1.2.1
          · exact ⟨fun a ha => by rw [q_gsn (by omega)]; exact fr1.1 a ha, fun j hj => by rw [q_gsk hj]; exact fr1.2 j hj⟩
          · intro i k' vs' hi
            obtain ⟨c1, c2, c3⟩ := cm1 i k' vs' hi
            have hi8 : i < (cs ++ [(k, vs)]).length := (List.getElem?_eq_some_iff.mp hi).1
            rw [l1] at hi8
            exact ⟨c1, by rw [q_gsn (by omega)]; exact c2, fun j c hj4 hj => by rw [q_gsn (by omega)]; exact c3 j c hj4 hj⟩
        · rw [if_neg h59] at rd
          rw [if_neg h59, q_l59, rd, Option.bind_some, if_pos (show gb false = 0 from rfl)]
          exact Or.inr ⟨S1, p', cs, rfl, hp', rfl, tS1.2.1, fr1⟩
    · refine Or.inr ⟨M', e, cs, ?_, he, ?_, hM', trF frM⟩
      · rw [pA, hpC]
        rfl
      · rw [f_X2_readInto_L12, if_neg hlt, hr, Option.bind_some, if_pos (show gb false = 0 from rfl)]
theorem c_readInto {M : gM} {tx : Nat → Nat} {t : Nat} (h1 : M 146 1 = nI t) (h3 : ∀ i, i < t → M 147 i = nI (tx i) ∧ tx i < 128) (h4 : t ≤ 60) :
    (∃ S' p' cs', pA tx t 8 0 [] = (true, p', cs') ∧ f_X2_readInto M = some (true, S') ∧ gCS M S' tx t p' cs' ∧ cs'.length ≤ 8) ∨
    (∃ S' e cs', pA tx t 8 0 [] = (false, e, cs') ∧ e ≤ t ∧ f_X2_readInto M = some (false, S') ∧ S' 146 2 = nI e ∧ gFrK M S') := by
  have g0 : gCS M (gs (gs M 146 2 (nI 0)) 135 2 (nI 0)) tx t 0 [] := by
    refine ⟨⟨?_, ?_, fun i hi => ?_, h4, Nat.zero_le _⟩, q_gss rfl, ⟨fun a ha => ?_, fun j hj => ?_⟩, fun i k vs hi => by cases hi⟩
    · rw [q_gsn (by omega), q_gsk (by omega)]; exact h1
    · rw [q_gsn (by omega), q_gss rfl]
    · rw [q_gsn (by omega), q_gsn (by omega)]; exact h3 i hi
    · rw [q_gsn (by omega), q_gsn (by omega)]
    · rw [q_gsn (by omega), q_gsk hj]
  have k0 := c_intoL (M0 := M) 8 gF 0 [] _ rfl (by unfold gF; omega) g0
  unfold f_X2_readInto
  rw [show (0 : Int32) = nI 0 from rfl, q_gLet, q_gLet]
  exact k0
