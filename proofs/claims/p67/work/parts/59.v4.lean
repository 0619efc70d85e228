/-! The reference's commands. -/
theorem m_three (a b c : Int32) (M : gM) : f_X7_needsThree a b c M = (f_X7_needs a M).bind fun r1 => (f_X7_needs b r1).bind fun r3 => f_X7_needs c r3 := by
  unfold f_X7_needsThree
  congr 1
  funext r1
  congr 1
  funext r3
  cases f_X7_needs c r3 <;> rfl
theorem m_after (a k : Int32) (M : gM) : f_X7_digitsAfter a k M = (f_X7_needs a M).bind fun r1 => f_X7_digits k r1 := by
  unfold f_X7_digitsAfter
  congr 1
  funext r1
  exact q_eta _
def it99 : List (Nat × Nat) := [(0, 108), (0, 101), (0, 97), (0, 114), (0, 32), (1, 0), (1, 0), (0, 61), (1, 0)]
def it100 : List (Nat × Nat) := [(0, 101), (0, 108), (0, 105), (0, 118), (0, 101), (0, 114), (0, 32), (3, 0)]
def it104 : List (Nat × Nat) := [(0, 111), (0, 117), (0, 114), (0, 115), (0, 32), (3, 0)]
def it108 : List (Nat × Nat) := [(0, 101), (0, 97), (0, 118), (0, 101), (0, 32), (1, 0)]
def it115 : List (Nat × Nat) := [(0, 116), (0, 111), (0, 119), (0, 32), (1, 0), (1, 0), (0, 32), (3, 0), (0, 47), (3, 0)]
theorem m_clearX (q : Nat) (M : gM) : f_X7_parsesClear (nI q) M = mX q 0 it99 M := by
  unfold f_X7_parsesClear
  simp only [m_three, m_after, Option.bind_assoc]
  rfl
theorem m_stowX (q : Nat) (M : gM) : f_X7_parsesStow (nI q) M = mX q 0 it115 M := by
  unfold f_X7_parsesStow
  simp only [m_three, m_after, Option.bind_assoc]
  rfl
theorem m_delX (q : Nat) (M : gM) : ((f_X7_needsThree 101 108 105 M).bind fun r10 => (f_X7_needsThree 118 101 114 r10).bind fun r12 => (f_X7_digitsAfter 32 3 r12).bind fun r14 => if gin (nI q + 1) 300 then gLet (gs r14.2 158 ((nI q + 1).toNatClampNeg) r14.1) fun M17 => some M17 else none) = mX q 0 it100 M := by
  simp only [m_three, m_after, Option.bind_assoc]
  rfl
theorem m_hourX (q : Nat) (M : gM) : ((f_X7_needsThree 111 117 114 M).bind fun r19 => (f_X7_needs 115 r19).bind fun r21 => (f_X7_digitsAfter 32 3 r21).bind fun r23 => if gin (nI q + 1) 300 then gLet (gs r23.2 158 ((nI q + 1).toNatClampNeg) r23.1) fun M26 => some M26 else none) = mX q 0 it104 M := by
  simp only [m_three, m_after, Option.bind_assoc]
  rfl
theorem m_leaX (q : Nat) (M : gM) : ((f_X7_needsThree 101 97 118 M).bind fun r28 => (f_X7_needs 101 r28).bind fun r30 => (f_X7_digitsAfter 32 1 r30).bind fun r32 => if gin (nI q + 1) 300 then gLet (gs r32.2 158 ((nI q + 1).toNatClampNeg) r32.1) fun M35 => some M35 else none) = mX q 0 it108 M := by
  simp only [m_three, m_after, Option.bind_assoc]
  rfl
theorem m_mX (q : Nat) (M : gM) : f_X7_parsesM (nI q) M = (f_X7_needs (nI 111) M).bind fun r1 => (if (r1 150 15) = nI 0 then (f_X7_here r1).bind fun r20 => (if r20 = nI 118 then if gin (nI q) 300 then mX q 0 itV (gs r1 158 (nI q).toNatClampNeg (nI 118)) else none else mX q 0 itM r1) else mX q 0 itM r1) := by
  unfold f_X7_parsesM
  simp only [m_three, m_after, Option.bind_assoc]
  rfl
section RN
variable {M S : gM} {tx : Nat → Nat} {t p q : Nat}
/-- a command read: where it stands behind it, its letter, its values -/
def mOK (M S : gM) (tx : Nat → Nat) (t p q : Nat) : Prop := (∃ k p' vs, isK k ∧ ltr tx t p = k ∧ p' ≤ t ∧ pC tx t p = (true, p', vs) ∧ S 150 15 = nI 0 ∧ S 150 14 = nI p' ∧ mFr M S ∧ S 158 q = nI k ∧ (∀ j c, vs[j]? = some c → S 158 (q + 1 + j) = nI c) ∧ ∀ j, j < q → S 158 j = M 158 j) ∨ (∃ e vs, pC tx t p = (false, e, vs) ∧ mF M S e)
theorem m_cmdK {B : gM} {k p1 : Nat} {items : List (Nat × Nat)} (x : mT B tx t) (hq : q ≤ 200) (hk : isK k) (hl : ltr tx t p = k) (h15 : B 150 15 = nI 0) (h14 : B 150 14 = nI p1) (hp1 : p1 ≤ t) (fr : mFr M B) (hB : B 158 q = nI k) (hlow : ∀ j, j < q → B 158 j = M 158 j) (ho : itOK items) (hN : itN items ≤ 4) (hp : pC tx t p = pI tx t items p1 []) :
    ∃ S, mX q 0 items B = some S ∧ mOK M S tx t p q := by
  have h0 : mS B B t p1 q [] := ⟨h15, h14, hp1, mFr.rf, fun j c hj => (by cases hj), fun j _ => rfl⟩
  rcases mX_ok x hq items p1 [] B ho (by simpa using hN) h0 with ⟨p', vs, S, e1, e2, a1, a2, a3, a4, a5, a6⟩ | ⟨e, vs, S, e1, e2, a1, a2, a3⟩
  · exact ⟨S, e2, Or.inl ⟨k, p', vs, hk, hl, a3, by rw [hp, e1], a1, a2, fr.tr a4, by rw [a6 q (Nat.le_refl _), hB], a5, fun j hj => by rw [a6 j (by omega), hlow j hj]⟩⟩
  · exact ⟨S, e2, Or.inr ⟨e, vs, by rw [hp, e1], a1, a2, fr.tr a3⟩⟩
theorem m_cmd (x : mT M tx t) (hq : q ≤ 200) (h15 : M 150 15 = nI 0) (h14 : M 150 14 = nI p) (hp : p ≤ t) : ∃ S, f_X7_parsesCommand (nI q) M = some S ∧ mOK M S tx t p q := by
  have hh := m_here x h14 hp
  have t60 := x.2.1
  have hg : gin (nI q) 300 := ⟨by rw [nI_toInt (by omega)]; omega, by rw [nI_toInt (by omega)]; omega⟩
  by_cases hpt : p < t
  · rw [if_pos hpt] at hh
    have hx := (x.2.2 p hpt).2
    have L : ltr tx t p = if tx p = 109 then (if p + 1 < t ∧ tx (p + 1) = 111 ∧ p + 2 < t ∧ tx (p + 2) = 118 then 118 else 109) else if tx p = 99 ∨ tx p = 100 ∨ tx p = 104 ∨ tx p = 108 ∨ tx p = 115 then tx p else 0 := by unfold ltr; rw [if_pos hpt]
    obtain ⟨B, hB⟩ : ∃ B, B = gs (gs M 150 14 (nI (p + 1))) 158 q (nI (tx p)) := ⟨_, rfl⟩
    have fB : mFr M B := by rw [hB]; exact (mFr.rf.p _).l _ _
    have b15 : B 150 15 = nI 0 := by rw [hB, q_gsn (by omega), q_gsk (by omega)]; exact h15
    have b14 : B 150 14 = nI (p + 1) := by rw [hB, q_gsn (by omega), q_gss rfl]
    have bq : B 158 q = nI (tx p) := by rw [hB, q_gss rfl]
    have bl : ∀ j, j < q → B 158 j = M 158 j := fun j hj => by rw [hB, q_gsk (by omega), q_gsn (by omega)]
    have hd : f_X7_parsesCommand (nI q) M = (if nI (tx p) = 99 then mX q 0 it99 B else if nI (tx p) = 100 then mX q 0 it100 B else if nI (tx p) = 104 then mX q 0 it104 B else if nI (tx p) = 108 then mX q 0 it108 B else if nI (tx p) = 109 then f_X7_parsesM (nI q) B else if nI (tx p) = 115 then mX q 0 it115 B else some (gs (gs B 150 15 (nI 1)) 150 14 (gs B 150 15 (nI 1) 150 14 - nI 1))) := by
      unfold f_X7_parsesCommand
      rw [hh, Option.bind_some, q_gLet, if_pos hg, q_gLet, h14, show nI p + 1 = nI (p + 1) from nI_add _ 1, nI_clamp (by omega), ← hB]
      have eb : ∀ y : Option gM, (y.bind fun r => some r) = y := fun y => by cases y <;> rfl
      rw [eb, eb, eb, m_clearX, m_stowX, m_delX, m_hourX, m_leaX]
      rfl
    have one : ∀ k items, isK k → k ≠ 109 → k ≠ 118 → tx p = k → its k = (0, k) :: items → itOK items → itN items ≤ 4 → ltr tx t p = k → ∃ S, mX q 0 items B = some S ∧ mOK M S tx t p q := fun k items hk h9 h8 hxk hi ho hN hl => by
      have hk0 : ¬ k = 0 := by
        rcases hk with rfl | rfl | rfl | rfl | rfl | rfl | rfl <;> omega
      refine m_cmdK (fB.mT x) hq hk hl b15 b14 (by omega) fB (by rw [bq, hxk]) bl ho hN ?_
      unfold pC
      rw [hl, if_neg hk0, hi, pI, if_pos ⟨hpt, hxk⟩]
    by_cases x99 : tx p = 99
    · rw [hd, x99, if_pos (show nI 99 = (99 : Int32) by decide)]
      exact one 99 it99 (by unfold isK; omega) (by omega) (by omega) x99 rfl (by simp [it99, itOK]) (by decide) (by rw [L, if_neg (by omega), if_pos (by omega), x99])
    by_cases x100 : tx p = 100
    · rw [hd, x100, if_neg (show ¬ nI 100 = (99 : Int32) by decide), if_pos (show nI 100 = (100 : Int32) by decide)]
      exact one 100 it100 (by unfold isK; omega) (by omega) (by omega) x100 rfl (by simp [it100, itOK]) (by decide) (by rw [L, if_neg (by omega), if_pos (by omega), x100])
    by_cases x104 : tx p = 104
    · rw [hd, x104, if_neg (show ¬ nI 104 = (99 : Int32) by decide), if_neg (show ¬ nI 104 = (100 : Int32) by decide), if_pos (show nI 104 = (104 : Int32) by decide)]
      exact one 104 it104 (by unfold isK; omega) (by omega) (by omega) x104 rfl (by simp [it104, itOK]) (by decide) (by rw [L, if_neg (by omega), if_pos (by omega), x104])
    by_cases x108 : tx p = 108
    · rw [hd, x108, if_neg (show ¬ nI 108 = (99 : Int32) by decide), if_neg (show ¬ nI 108 = (100 : Int32) by decide), if_neg (show ¬ nI 108 = (104 : Int32) by decide), if_pos (show nI 108 = (108 : Int32) by decide)]
      exact one 108 it108 (by unfold isK; omega) (by omega) (by omega) x108 rfl (by simp [it108, itOK]) (by decide) (by rw [L, if_neg (by omega), if_pos (by omega), x108])
    by_cases x115 : tx p = 115
    · rw [hd, x115, if_neg (show ¬ nI 115 = (99 : Int32) by decide), if_neg (show ¬ nI 115 = (100 : Int32) by decide), if_neg (show ¬ nI 115 = (104 : Int32) by decide), if_neg (show ¬ nI 115 = (108 : Int32) by decide), if_neg (show ¬ nI 115 = (109 : Int32) by decide), if_pos (show nI 115 = (115 : Int32) by decide)]
      exact one 115 it115 (by unfold isK; omega) (by omega) (by omega) x115 rfl (by simp [it115, itOK]) (by decide) (by rw [L, if_neg (by omega), if_pos (by omega), x115])
    by_cases x109 : tx p = 109
    · rw [hd, x109, if_neg (show ¬ nI 109 = (99 : Int32) by decide), if_neg (show ¬ nI 109 = (100 : Int32) by decide), if_neg (show ¬ nI 109 = (104 : Int32) by decide), if_neg (show ¬ nI 109 = (108 : Int32) by decide), if_pos (show nI 109 = (109 : Int32) by decide), m_mX]
      have h0 : mS B B t (p + 1) q [] := ⟨b15, b14, by omega, mFr.rf, fun j c hj => (by cases hj), fun j _ => rfl⟩
      rcases m_needs (fB.mT x) h0 (c := 111) (by omega) (by omega) with ⟨g1, g2, S1, e1, h1⟩ | ⟨g, S1, e1, h1⟩
      · obtain ⟨a1, a2, a3, a4, a5, a6⟩ := h1
        have fS : mFr M S1 := fB.tr a4
        have hh2 := m_here (fS.mT x) a2 a3
        rw [e1, Option.bind_some, if_pos a1, hh2, Option.bind_some]
        have hz : ∀ r, pI tx t ((0, 109) :: (0, 111) :: r) p [] = pI tx t r (p + 1 + 1) [] := fun r => by
          rw [pI, if_pos ⟨hpt, x109⟩, pI, if_pos ⟨g1, g2⟩]
        by_cases x118 : p + 1 + 1 < t ∧ tx (p + 1 + 1) = 118
        · have l1 : ltr tx t p = 118 := by rw [L, if_pos x109, if_pos ⟨g1, g2, x118.1, x118.2⟩]
          rw [if_pos x118.1, x118.2, if_pos rfl, if_pos hg, nI_clamp (by omega)]
          refine m_cmdK (k := 118) (fS.l _ _ |>.mT x) hq (by unfold isK; omega) l1 ?_ ?_ a3 (fS.l _ _) (q_gss rfl) (fun j hj => ?_) (by simp [itV, wI, wdN, itOK]) (by decide) ?_
          · rw [q_gsn (by omega)]; exact a1
          · rw [q_gsn (by omega)]; exact a2
          · rw [q_gsk (by omega), a6 j (by omega), bl j hj]
          · unfold pC
            rw [l1, if_neg (by omega)]
            exact hz itV
        · have l1 : ltr tx t p = 109 := by rw [L, if_pos x109, if_neg (fun z => x118 ⟨z.2.2.1, z.2.2.2⟩)]
          have hne : ¬ (if p + 1 + 1 < t then nI (tx (p + 1 + 1)) else -nI 1) = nI 118 := by
            by_cases z : p + 1 + 1 < t
            · have hx2 := (x.2.2 (p + 1 + 1) z).2
              rw [if_pos z]
              intro y
              exact x118 ⟨z, (nI_eq (by omega) (by omega)).mp y⟩
            · rw [if_neg z]
              decide
          rw [if_neg hne]
          refine m_cmdK (k := 109) (fS.mT x) hq (by unfold isK; omega) l1 a1 a2 a3 fS (by rw [a6 q (Nat.le_refl _), bq, x109]) (fun j hj => by rw [a6 j (by omega), bl j hj]) (by simp [itM, wI, wdN, itOK]) (by decide) ?_
          unfold pC
          rw [l1, if_neg (by omega)]
          exact hz itM
      · have l1 : ltr tx t p = 109 := by rw [L, if_pos x109, if_neg (fun z => g ⟨z.1, z.2.1⟩)]
        have n0 : ¬ S1 150 15 = nI 0 := by rw [h1.1]; decide
        obtain ⟨S2, e2, h2⟩ := mX_fail hq itM 0 S1 (by decide) h1
        rw [e1, Option.bind_some, if_neg n0]
        refine ⟨S2, e2, Or.inr ⟨p + 1, [], ?_, h2.1, h2.2.1, fB.tr h2.2.2⟩⟩
        unfold pC
        rw [l1, if_neg (by omega)]
        show pI tx t ((0, 109) :: (0, 111) :: itM) p [] = _
        rw [pI, if_pos ⟨hpt, x109⟩, pI, if_neg g]
    · have l0 : ltr tx t p = 0 := by rw [L, if_neg x109, if_neg (by omega)]
      have n : ∀ (c : Nat), c < 128 → tx p ≠ c → ¬ nI (tx p) = nI c := fun c hc hne z => hne ((nI_eq (by omega) (by omega)).mp z)
      rw [hd, q_l99, q_l100, q_l104, q_l108, q_l109, q_l115, if_neg (n 99 (by omega) x99), if_neg (n 100 (by omega) x100), if_neg (n 104 (by omega) x104), if_neg (n 108 (by omega) x108), if_neg (n 109 (by omega) x109), if_neg (n 115 (by omega) x115)]
      refine ⟨_, rfl, Or.inr ⟨p, [], by unfold pC; rw [if_pos l0], ?_, ?_, (fB.w _).p _⟩⟩
      · rw [q_gsk (by omega), q_gss rfl]
      · rw [q_gss rfl, q_gsk (by omega), b14, q_sub (by omega), Nat.add_sub_cancel]
  · have l0 : ltr tx t p = 0 := by unfold ltr; rw [if_neg hpt]
    rw [if_neg hpt] at hh
    refine ⟨gs (gs (gs (gs M 150 14 (nI (p + 1))) 158 q (-nI 1)) 150 15 (nI 1)) 150 14 (nI p), ?_, Or.inr ⟨p, [], by unfold pC; rw [if_pos l0], ?_, q_gss rfl, (((mFr.rf.p _).l _ _).w _).p _⟩⟩
    · unfold f_X7_parsesCommand
      simp (disch := omega) only [↓reduceIte, eq_self, Bool.true_eq_false, Bool.false_eq_true, q_seqr, q_seql, v_ig, v_ni, v_le, v_nle, v_lt, v_nlt, v_eq, v_ne, v_gbt, v_gbf, v_gbd, v_m1lt, v_m1ge, v_m1ne, v_m1e, ↓q_bindD, ↓q_gLet, Option.isSome_some, Option.getD_some, nI_add, pk_mul, q_sub, q_m1, q_div, q_modN, nI_clamp, if_true, if_false, q_l0, q_l1, q_l2, q_l3, q_l4, q_l5, q_l6, q_l7, q_l8, q_l9, q_l10, q_l11, q_l12, q_l13, q_l14, q_l15, q_l16, q_l19, q_l20, q_l22, q_l24, q_l30, q_l32, q_l34, q_l36, q_l45, q_l47, q_l48, q_l57, q_l58, q_l59, q_l60, q_l61, q_l66, q_l75, q_l76, q_l94, q_l97, q_l99, q_l100, q_l101, q_l104, q_l105, q_l108, q_l109, q_l111, q_l114, q_l115, q_l116, q_l117, q_l118, q_l119, q_l120, q_l126, q_l132, q_l133, q_l135, q_l136, q_l138, q_l146, q_l147, q_l148, q_l149, q_l150, q_l151, q_l152, q_l153, q_l154, q_l155, q_l156, q_l157, q_l158, q_l214, q_l229, q_l244, q_l259, q_l300, q_l999, q_l1813, q_l2072, q_l10000, q_l65536, q_l1000000000, hh, h14, q_gsn, q_gsk, q_gss, Nat.add_sub_cancel]
    · rw [q_gsk (by omega), q_gss rfl]
end RN
