/-! run -/
theorem gTie.frE {β : Nat} {M M2 : gM} (t : gTie β M) (h : rEq (M 151) (M2 151)) (f1 : ∀ a, a < 132 → a ≠ 7 → ¬ (12 ≤ a ∧ a < 24) → M2 a = M a) (f2 : M2 132 3 = M 132 3) (f3 : M2 133 1 = M 133 1) (f4 : M2 133 2 = M 133 2) (f5 : M2 150 4 = M 150 4) (f6 : M2 150 6 = M 150 6) (f8 : M2 154 = M 154) (f9 : M2 155 = M 155) : gTie β M2 := by
  obtain ⟨g, w, s, n, x, h1, h2, h3, h4, h5, h6⟩ := t
  refine ⟨(g.ext w h).frm (fun a ha hb hc => f1 a (by omega) (by omega) (by omega)), w.ext h, ?_, n, x, h1, h2, by rw [f4]; exact h3, by rw [f5]; exact h4, by rw [f3]; exact h5, fun i hi => ?_⟩
  · rcases s with ⟨s1, s2⟩ | ⟨s1, s2, s3, s4⟩
    · exact Or.inl ⟨by rw [f2]; exact s1, by rw [f6]; exact s2⟩
    · exact Or.inr ⟨by rw [f2]; exact s1, by rw [f6]; exact s2, by rw [f9]; exact s3.frm (fun a ha hb hc => f1 a (by omega) (by omega) (by omega)), by rw [f9]; exact s4⟩
  · have e : hRow M2 i = hRow M i := by unfold hRow; rw [f8]
    rw [e]
    exact ⟨(h6 i hi).1.frm (fun a ha hb hc => f1 a (by omega) (by omega) (by omega)), (h6 i hi).2⟩
theorem K_run : gCl kAS f_X6_run f_X7_run := by
  intro k M hk hI
  obtain ⟨t, ht, tie, x⟩ := id hI
  obtain ⟨x1, x2, x3, x4, x5, x6, l, x8, x9, x10, x11⟩ := x
  obtain ⟨tx, htx⟩ : ∃ tx : Nat → Nat, tx = fun i => (M 147 i).toNatClampNeg := ⟨_, rfl⟩
  have hch : ∀ i, i < t → M 147 i = nI (tx i) ∧ tx i < 128 ∧ M 156 i = nI (tx i) := fun i hi => by
    obtain ⟨c, c1, c2, c3, c4⟩ := x4 i hi
    have : tx i = c := by rw [htx]; show (M 147 i).toNatClampNeg = c; rw [c3]; exact nI_clamp (by omega)
    rw [this]
    exact ⟨c3, by omega, c4⟩
  have mt : ∀ N : gM, N 150 8 = M 150 8 → N 156 = M 156 → mT N tx t := fun N h1 h2 => ⟨by rw [h1]; exact x2, x3, fun i hi => ⟨by rw [h2]; exact (hch i hi).2.2, (hch i hi).2.1⟩⟩
  have g := tie.1
  have w := tie.2.1
  rcases c_readInto (tx := tx) x1 (fun i hi => ⟨(hch i hi).1, (hch i hi).2.1⟩) x3 with ⟨S', p', cs, hpA, hrd, ⟨hT, h135, hK, hCm⟩, hlen⟩ | ⟨S', e, cs, hpA, he, hrd, he2, hK⟩
  · obtain ⟨hok, hlt⟩ : cOK cs ∧ 8 * cs.length ≤ t + 1 := by
      rcases m_run (mt M rfl rfl) with ⟨S2, cs2, ⟨p2, hp2⟩, hl2, -, hm2, -⟩ | ⟨S2, e2, cs2, hp2, -, -⟩
      · rw [hpA] at hp2
        have : cs = cs2 := congrArg (fun z => z.2.2) hp2
        subst this
        exact ⟨fun i k vs h => ⟨(hm2 i k vs h).1, (hm2 i k vs h).2.1⟩, hl2⟩
      · rw [hpA] at hp2
        exact absurd (show true = false from congrArg Prod.fst hp2) (by decide)
    obtain ⟨M3, hM3⟩ : ∃ M3, M3 = gs S' 146 1 (nI 0) := ⟨_, rfl⟩
    have o3 : ∀ a, ¬ (135 ≤ a ∧ a ≤ 146) → M3 a = M a := fun a ha => by rw [hM3, q_gsn (by omega), hK.1 a ha]
    obtain ⟨S0, hS0⟩ : ∃ S0, S0 = cpM M3 12 0 := ⟨_, rfl⟩
    have g3 : gSim M3 0 (M 151) := g.frm (fun a h1 h2 h3 => o3 a (by omega))
    have g0 : gSim S0 12 (M 151) := by rw [hS0]; exact cpM_sim (Or.inr (by omega)) g3
    have os : ∀ a, ¬ (12 ≤ a ∧ a < 24) → S0 a = M3 a := fun a ha => by rw [hS0]; exact cpM_fr (by omega)
    have c135 : S0 135 2 = nI cs.length := by rw [os 135 (by omega), hM3, q_gsn (by omega)]; exact h135
    have c0 : gCmds S0 cs := fun i k' vs' h' => by
      obtain ⟨c1, c2, c3⟩ := hCm i k' vs' h'
      have hi8 : i < cs.length := (List.getElem?_eq_some_iff.mp h').1
      exact ⟨c1, by rw [os 136 (by omega), hM3, q_gsn (by omega)]; exact c2, fun j c hj4 hj => by rw [os 137 (by omega), hM3, q_gsn (by omega)]; exact c3 j c hj4 hj⟩
    have s146 : ∀ N : gM, (∀ a, ¬ (12 ≤ a ∧ a < 24) → N a = S0 a) → N 146 1 = nI 0 := fun N h => by rw [h 146 (by omega), os 146 (by omega), hM3, q_gss rfl]
    have head : f_X6_run M = (f_X4_firstFailureOn 12 S0).bind fun r7 => (if r7.1 = (-1) then (f_X1_push 0 r7.2).bind fun r10 => (f_X5_copyFrom 0 12 r10).bind fun r12 => some (.inr (r12 135 2), r12) else gLet (gs r7.2 132 9 r7.1) fun M14 => some (.inl "java/lang/IllegalStateException", M14)) := by
      unfold f_X6_run
      rw [hrd, Option.bind_some, q_gLet]
      show (if gb true = 0 then _ else (f_X5_copyFrom 12 0 (gs S' 146 1 (nI 0))).bind _) = _
      rw [if_neg (show ¬ gb true = 0 by decide), ← hM3, c_copyFrom, Option.bind_some, ← hS0]
    -- the reference's beginning, at any memory that the class leaves
    have mhead : ∀ N : gM, N 150 = M 150 → N 156 = M 156 → N 151 = M 151 → ∃ R0, f_X7_run N = f_X7_run_L130 (nI 0) (nI cs.length) gF (nI 0) R0 ∧ R0 151 = M 151 ∧ mCmds R0 cs ∧ rEq (M 151) (R0 152) ∧ (∀ a, a ≠ 150 → a ≠ 152 → a ≠ 158 → R0 a = N a) ∧ R0 150 8 = nI 0 ∧ (∀ j, j ≠ 8 → j ≠ 14 → j ≠ 15 → R0 150 j = M 150 j) := fun N n1 n2 n3 => by
      rcases m_run (mt N (by rw [n1]) n2) with ⟨S2, cs2, ⟨p2, hp2⟩, -, fr2, hm2, hr2⟩ | ⟨S2, e2, cs2, hp2, -, -⟩
      · rw [hpA] at hp2
        have : cs = cs2 := congrArg (fun z => z.2.2) hp2
        subst this
        obtain ⟨Mz, hMz⟩ : ∃ Mz, Mz = gs (gs S2 150 15 (nI 0)) 150 8 (nI 0) := ⟨_, rfl⟩
        have z : ∀ a, a ≠ 150 → a ≠ 158 → Mz a = N a := fun a h1 h2 => by rw [hMz, q_gsn h1, q_gsn h1, fr2.1 a h1 h2]
        rw [← hMz, m_begin, Option.bind_some] at hr2
        refine ⟨_, hr2, ?_, fun i k' vs' h' => ?_, ?_, fun a h1 h2 h3 => ?_, ?_, fun j h1 h2 h3 => ?_⟩
        · rw [gw_ne (by omega), z 151 (by omega) (by omega), n3]
        · obtain ⟨c1, c2, c3, c4⟩ := hm2 i k' vs' h'
          have e158 : gw Mz 152 (cpR (Mz 151) (Mz 152) 0 0 259) 158 = S2 158 := by rw [gw_ne (by omega), hMz, q_gsn (by omega), q_gsn (by omega)]
          rw [e158]
          exact ⟨c1, c2, c3, c4⟩
        · rw [gw_same, z 151 (by omega) (by omega), n3]
          exact cpR_rEq _ _
        · rw [gw_ne h2, z a h1 h3]
        · rw [gw_ne (by omega), hMz, q_gss rfl]
        · rw [gw_ne (by omega), hMz, q_gsk h1, q_gsk h3, fr2.2 j h2 h3, n1]
      · rw [hpA] at hp2
        exact absurd (show true = false from congrArg Prod.fst hp2) (by decide)
    rcases x_loop hlen hok cs.length 0 (M 151) (k - t) (by omega) w (by omega) with ⟨r', w', oc, om⟩ | ⟨j, hj, oc, om⟩
    · obtain ⟨S1, e1, fr1, g1⟩ := oc S0 gF (by unfold gF; omega) g0 c135 c0
      obtain ⟨n, y, hn8, hx8, hn, h4, hx, hh⟩ := tie.2.2.2
      have o1 : ∀ a, ¬ (12 ≤ a ∧ a < 24) → ¬ (135 ≤ a ∧ a ≤ 146) → S1 a = M a := fun a h1 h2 => by rw [fr1 a (by omega), os a h1, o3 a h2]
      obtain ⟨Sp, hSp⟩ : ∃ Sp, Sp = gs (gs (cpM S1 (36 + 12 * y) 0) 133 1 (nI ((y + 1) % 8))) 133 2 (nI (min (n + 1) 8)) := ⟨_, rfl⟩
      have ep := c_push (s := 0) (M := S1) (by rw [o1 133 (by omega) (by omega)]; exact hn) (by rw [o1 133 (by omega) (by omega)]; exact hx) hn8 hx8 (by omega)
      rw [← hSp] at ep
      have po : ∀ a, (a < 36 + 12 * y ∨ 36 + 12 * y + 12 ≤ a) → a ≠ 133 → Sp a = S1 a := fun a h1 h2 => by rw [hSp]; exact push_o h1 h2
      have ps : gSim Sp (36 + 12 * y) (M 151) := by
        rw [hSp]
        exact push_sim (by omega) hx8 (g.frm (fun a h1 h2 h3 => o1 a (by omega) (by omega)))
      have p12 : gSim Sp 12 r' := g1.frm (fun a h1 h2 h3 => po a (by omega) (by omega))
      obtain ⟨Mc, hMc⟩ : ∃ Mc, Mc = cpM Sp 0 12 := ⟨_, rfl⟩
      have gc : gSim Mc 0 r' := by rw [hMc]; exact cpM_sim (Or.inl (by omega)) p12
      have oM : ∀ a, 12 ≤ a → Mc a = Sp a := fun a h1 => by rw [hMc]; exact cpM_fr (by omega)
      have all : ∀ a, 24 ≤ a → (a < 36 + 12 * y ∨ 36 + 12 * y + 12 ≤ a) → a ≠ 133 → ¬ (135 ≤ a ∧ a ≤ 146) → Mc a = M a := fun a h1 h2 h3 h4 => by rw [oM a (by omega), po a h2 h3, o1 a (by omega) h4]
      have m135 : Mc 135 2 = nI cs.length := by rw [oM 135 (by omega), po 135 (by omega) (by omega), fr1 135 (by omega)]; exact c135
      have hf : f_X6_run M = some (.inr (nI cs.length), Mc) := by
        have e2 : f_X4_firstFailureOn 12 S0 = some (-nI 1, S1) := e1
        rw [head, e2, Option.bind_some, if_pos (show -nI 1 = (-1 : Int32) from rfl), ep, Option.bind_some, c_copyFrom, Option.bind_some, ← hMc, m135]
      obtain ⟨R0, hr0, q1, q2, q3, q4, q5, q6⟩ := mhead Mc (all 150 (by omega) (by omega) (by omega) (by omega)) (all 156 (by omega) (by omega) (by omega) (by omega)) (all 151 (by omega) (by omega) (by omega) (by omega))
      obtain ⟨R', e2, u1, u2, u3, u4⟩ := om R0 gF (by unfold gF; omega) q1 q2
      obtain ⟨M2, e3, v1, v2, v3, v4, v5⟩ := m_kept0 (M := R') (v := nI cs.length) (n := n) u2 (by rw [u4 4 (by omega), q6 4 (by omega) (by omega) (by omega)]; exact h4) hn8
      have o2 : ∀ a, a ≠ 150 → a ≠ 151 → a ≠ 152 → a ≠ 154 → a ≠ 158 → M2 a = Mc a := fun a h1 h2 h3 h4 h5 => by rw [v1 a h1 h4, u3 a h1 h2, q4 a h1 h3 h5]
      have o150 : ∀ j, j ≠ 4 → j ≠ 8 → j ≠ 13 → j ≠ 14 → j ≠ 15 → M2 150 j = M 150 j := fun j h1 h2 h3 h4 h5 => by rw [v2 j h1, u4 j h3, q6 j h2 h4 h5]
      have e151 : M2 151 = r' := by rw [v1 151 (by omega) (by omega), u1]
      have e154 : ∀ i, hRow R' i = hRow M i := fun i => by
        unfold hRow
        rw [u3 154 (by omega) (by omega), q4 154 (by omega) (by omega) (by omega), all 154 (by omega) (by omega) (by omega) (by omega)]
      have r152 : rEq (M 151) (R' 152) := by rw [u3 152 (by omega) (by omega)]; exact q3
      have m133 : M2 133 = Sp 133 := by rw [o2 133 (by omega) (by omega) (by omega) (by omega) (by omega), oM 133 (by omega)]
      refine ⟨_, Mc, nI 0, nI cs.length, M2, hf, by rw [hr0, e2, e3], by rw [v2 13 (by omega), u2], gAns_r, 0, by omega, ?_, ?_⟩
      · rw [show k + 1 - 0 = k + 1 by omega]
        refine tie_next (β := k) (tie.up (by omega)) hn8 hx8 hn h4 hx (fun i hi => ⟨(hh i hi).1, (hh i hi).2.up (by omega)⟩) (fun a h1 h2 h3 => by rw [o2 a (by omega) (by omega) (by omega) (by omega) (by omega), all a (by omega) h3 (by omega) (by omega)]) ?_ ?_ ?_ v3 ?_ ?_ ?_ ?_ (by rw [e151]; exact w'.up (by omega)) (fun h => ?_) (fun h => ?_)
        · rw [o2 132 (by omega) (by omega) (by omega) (by omega) (by omega), all 132 (by omega) (by omega) (by omega) (by omega)]
        · rw [m133, hSp, q_gsk (by omega), q_gss rfl]
        · rw [m133, hSp, q_gss rfl]
        · exact o150 6 (by omega) (by omega) (by omega) (by omega) (by omega)
        · rw [o2 155 (by omega) (by omega) (by omega) (by omega) (by omega), all 155 (by omega) (by omega) (by omega) (by omega)]
        · exact ps.frm (fun a h1 h2 h3 => by rw [o2 a (by omega) (by omega) (by omega) (by omega) (by omega), oM a (by omega)])
        · rw [e151]
          exact gc.frm (fun a h1 h2 h3 => o2 a (by omega) (by omega) (by omega) (by omega) (by omega))
        · obtain ⟨b1, b2⟩ := v4 h
          exact ⟨fun i hi => by rw [← e154 i]; exact b1 i hi, fun q hq => by rw [b2 q hq, r152 q hq]⟩
        · obtain ⟨b1, b2⟩ := v5 h
          exact ⟨fun i hi => by rw [← e154 (i + 1)]; exact b1 i hi, fun q hq => by rw [b2 q hq, r152 q hq]⟩
      · have a2 : ∀ a, 24 ≤ a → (a < 36 + 12 * y ∨ 36 + 12 * y + 12 ≤ a) → a ≠ 133 → ¬ (135 ≤ a ∧ a ≤ 146) → a ≠ 150 → a ≠ 151 → a ≠ 152 → a ≠ 154 → a ≠ 158 → M2 a = M a := fun a h1 h2 h3 h4 h5 h6 h7 h8 h9 => by rw [o2 a h5 h6 h7 h8 h9, all a h1 h2 h3 h4]
        refine ⟨?_, ?_, by omega, fun i hi => absurd hi (Nat.not_lt_zero _), ?_, ?_, l, x8, ?_, ?_, ?_⟩
        · rw [o2 146 (by omega) (by omega) (by omega) (by omega) (by omega), oM 146 (by omega), po 146 (by omega) (by omega)]
          exact s146 S1 (fun a ha => fr1 a (by omega))
        · rw [v2 8 (by omega), u4 8 (by omega), q5]
        · rw [a2 132 (by omega) (by omega) (by omega) (by omega) (by omega) (by omega) (by omega) (by omega) (by omega), o150 9 (by omega) (by omega) (by omega) (by omega) (by omega)]; exact x5
        · rw [a2 132 (by omega) (by omega) (by omega) (by omega) (by omega) (by omega) (by omega) (by omega) (by omega), o150 10 (by omega) (by omega) (by omega) (by omega) (by omega)]; exact x6
        · rw [a2 148 (by omega) (by omega) (by omega) (by omega) (by omega) (by omega) (by omega) (by omega) (by omega)]; exact x9
        · rw [o150 12 (by omega) (by omega) (by omega) (by omega) (by omega)]; exact x10
        · rw [a2 149 (by omega) (by omega) (by omega) (by omega) (by omega) (by omega) (by omega) (by omega) (by omega), a2 157 (by omega) (by omega) (by omega) (by omega) (by omega) (by omega) (by omega) (by omega) (by omega)]; exact x11
    · obtain ⟨S1, e1, fr1⟩ := oc S0 gF (by unfold gF; omega) g0 c135 c0
      have o1 : ∀ a, ¬ (12 ≤ a ∧ a < 24) → ¬ (135 ≤ a ∧ a ≤ 146) → S1 a = M a := fun a h1 h2 => by rw [fr1 a (by omega), os a h1, o3 a h2]
      obtain ⟨M1, hM1⟩ : ∃ M1, M1 = gs S1 132 9 (nI j) := ⟨_, rfl⟩
      have oM : ∀ a, a ≠ 132 → ¬ (12 ≤ a ∧ a < 24) → ¬ (135 ≤ a ∧ a ≤ 146) → M1 a = M a := fun a h1 h2 h3 => by rw [hM1, q_gsn h1, o1 a h2 h3]
      have hf : f_X6_run M = some (.inl "java/lang/IllegalStateException", M1) := by
        have e2 : f_X4_firstFailureOn 12 S0 = some (nI j, S1) := e1
        have hne : ¬ nI j = (-1 : Int32) := fun q => by
          rw [show (-1 : Int32) = -nI 1 from rfl, v_m1ne (by omega)] at q
          exact q
        rw [head, e2, Option.bind_some, if_neg hne, q_gLet, ← hM1]
      obtain ⟨R0, hr0, q1, q2, q3, q4, q5, q6⟩ := mhead M1 (oM 150 (by omega) (by omega) (by omega)) (oM 156 (by omega) (by omega) (by omega)) (oM 151 (by omega) (by omega) (by omega))
      obtain ⟨R', e2, u2, u10, u3, u4⟩ := om R0 gF (by unfold gF; omega) q1 q2
      have e3 := m_kept1 (v := nI 0) u2 (by omega) (by omega)
      obtain ⟨M2, hM2⟩ : ∃ M2, M2 = gw R' 151 (cpR (R' 152) (R' 151) 0 0 259) := ⟨_, rfl⟩
      rw [← hM2] at e3
      have o2 : ∀ a, a ≠ 150 → a ≠ 151 → a ≠ 152 → a ≠ 158 → M2 a = M1 a := fun a h1 h2 h3 h5 => by rw [hM2, gw_ne h2, u3 a h1 h2, q4 a h1 h3 h5]
      have o150 : ∀ i, i ≠ 8 → i ≠ 10 → i ≠ 13 → i ≠ 14 → i ≠ 15 → M2 150 i = M 150 i := fun i h1 h2 h3 h4 h5 => by rw [hM2, gw_ne (by omega), u4 i h2 h3, q6 i h1 h4 h5]
      have a2 : ∀ a, a ≠ 132 → ¬ (12 ≤ a ∧ a < 24) → ¬ (135 ≤ a ∧ a ≤ 146) → a ≠ 150 → a ≠ 151 → a ≠ 152 → a ≠ 158 → M2 a = M a := fun a h1 h2 h3 h4 h5 h6 h7 => by rw [o2 a h4 h5 h6 h7, oM a h1 h2 h3]
      have m132 : M2 132 = M1 132 := o2 132 (by omega) (by omega) (by omega) (by omega)
      have k132 : ∀ i, i ≠ 9 → M2 132 i = M 132 i := fun i hi => by rw [m132, hM1, q_gsk hi, o1 132 (by omega) (by omega)]
      have er : rEq (M 151) (M2 151) := fun q hq => by
        rw [hM2, gw_same, cpR_rEq _ _ q hq, u3 152 (by omega) (by omega), q3 q hq]
      refine ⟨_, M1, nI 2, nI 0, M2, hf, by rw [hr0, e2, e3], by rw [hM2, gw_ne (by omega), u2], gAns_l 1 rfl, 0, by omega, ?_, ?_⟩
      · refine (tie.up (show k - t ≤ k + 1 - 0 by omega)).frE er (fun a h1 h2 h3 => a2 a (by omega) h3 (by omega) (by omega) (by omega) (by omega) (by omega)) (k132 3 (by omega)) ?_ ?_ (o150 4 (by omega) (by omega) (by omega) (by omega) (by omega)) (o150 6 (by omega) (by omega) (by omega) (by omega) (by omega)) ?_ ?_
        · rw [a2 133 (by omega) (by omega) (by omega) (by omega) (by omega) (by omega) (by omega)]
        · rw [a2 133 (by omega) (by omega) (by omega) (by omega) (by omega) (by omega) (by omega)]
        · rw [a2 154 (by omega) (by omega) (by omega) (by omega) (by omega) (by omega) (by omega)]
        · rw [a2 155 (by omega) (by omega) (by omega) (by omega) (by omega) (by omega) (by omega)]
      · refine ⟨?_, ?_, by omega, fun i hi => absurd hi (Nat.not_lt_zero _), ?_, ⟨?_, Or.inr ⟨j, by omega, ?_⟩⟩, l, x8, ?_, ?_, ?_⟩
        · rw [o2 146 (by omega) (by omega) (by omega) (by omega), hM1, q_gsn (by omega)]
          exact s146 S1 (fun a ha => fr1 a (by omega))
        · rw [hM2, gw_ne (by omega), u4 8 (by omega) (by omega), q5]
        · rw [k132 8 (by omega), o150 9 (by omega) (by omega) (by omega) (by omega) (by omega)]; exact x5
        · rw [m132, hM1, q_gss rfl, hM2, gw_ne (by omega), u10]
        · rw [m132, hM1, q_gss rfl]
        · rw [a2 148 (by omega) (by omega) (by omega) (by omega) (by omega) (by omega) (by omega)]; exact x9
        · rw [o150 12 (by omega) (by omega) (by omega) (by omega) (by omega)]; exact x10
        · rw [a2 149 (by omega) (by omega) (by omega) (by omega) (by omega) (by omega) (by omega), a2 157 (by omega) (by omega) (by omega) (by omega) (by omega) (by omega) (by omega)]; exact x11
  · obtain ⟨M1, hM1⟩ : ∃ M1, M1 = gs (gs S' 146 1 (nI 0)) 132 8 (nI e) := ⟨_, rfl⟩
    have hf : f_X6_run M = some (.inl "java/lang/IllegalArgumentException", M1) := by
      have e2 : gs S' 146 1 (nI 0) 146 2 = nI e := by rw [q_gsk (by omega)]; exact he2
      unfold f_X6_run
      rw [hrd, Option.bind_some, q_gLet]
      show (if gb false = 0 then gLet (gs (gs S' 146 1 (nI 0)) 132 8 (gs S' 146 1 (nI 0) 146 2)) _ else _) = _
      rw [if_pos (show gb false = 0 from rfl), q_gLet, e2, ← hM1]
    have oM : ∀ a, a ≠ 132 → ¬ (135 ≤ a ∧ a ≤ 146) → M1 a = M a := fun a h1 h2 => by rw [hM1, q_gsn h1, q_gsn (by omega), hK.1 a h2]
    rcases m_run (mt M1 (by rw [oM 150 (by omega) (by omega)]) (oM 156 (by omega) (by omega))) with ⟨S2, cs2, ⟨p2, hp2⟩, -, -, -, -⟩ | ⟨S2, e2, cs2, hp2, fr2, hr2⟩
    · rw [hpA] at hp2
      exact absurd (show false = true from congrArg Prod.fst hp2) (by decide)
    · rw [hpA] at hp2
      have ee : e = e2 := congrArg (fun z => z.2.1) hp2
      subst ee
      obtain ⟨M2, hM2⟩ : ∃ M2, M2 = gs (gs (gs (gs S2 150 15 (nI 1)) 150 8 (nI 0)) 150 9 (nI e)) 150 13 (nI 1) := ⟨_, rfl⟩
      rw [← hM2] at hr2
      have o2 : ∀ a, a ≠ 150 → a ≠ 158 → M2 a = M1 a := fun a h1 h2 => by rw [hM2, q_gsn h1, q_gsn h1, q_gsn h1, q_gsn h1, fr2.1 a h1 h2]
      have o150 : ∀ i, i ≠ 8 → i ≠ 9 → i ≠ 13 → i ≠ 14 → i ≠ 15 → M2 150 i = M 150 i := fun i h1 h2 h3 h4 h5 => by rw [hM2, q_gsk h3, q_gsk h2, q_gsk h1, q_gsk h5, fr2.2 i h4 h5, oM 150 (by omega) (by omega)]
      have a2 : ∀ a, a ≠ 132 → ¬ (135 ≤ a ∧ a ≤ 146) → a ≠ 150 → a ≠ 158 → M2 a = M a := fun a h1 h2 h3 h4 => by rw [o2 a h3 h4, oM a h1 h2]
      have m132 : M2 132 = M1 132 := o2 132 (by omega) (by omega)
      have k132 : ∀ i, i ≠ 8 → M2 132 i = M 132 i := fun i hi => by rw [m132, hM1, q_gsk hi, q_gsn (by omega), hK.1 132 (by omega)]
      refine ⟨_, M1, nI 1, nI 0, M2, hf, hr2, by rw [hM2, q_gss rfl], gAns_l 0 rfl, 0, by omega, ?_, ?_⟩
      · refine (tie.up (show k - t ≤ k + 1 - 0 by omega)).fr ⟨fun a h1 h2 h3 => a2 a (by omega) (by omega) (by omega) (by omega), k132 3 (by omega), ?_, ?_, o150 4 (by omega) (by omega) (by omega) (by omega) (by omega), o150 6 (by omega) (by omega) (by omega) (by omega) (by omega), a2 151 (by omega) (by omega) (by omega) (by omega), a2 154 (by omega) (by omega) (by omega) (by omega), a2 155 (by omega) (by omega) (by omega) (by omega)⟩
        · rw [a2 133 (by omega) (by omega) (by omega) (by omega)]
        · rw [a2 133 (by omega) (by omega) (by omega) (by omega)]
      · refine ⟨?_, ?_, by omega, fun i hi => absurd hi (Nat.not_lt_zero _), ⟨?_, Or.inr ⟨e, by omega, ?_⟩⟩, ?_, l, x8, ?_, ?_, ?_⟩
        · rw [o2 146 (by omega) (by omega), hM1, q_gsn (by omega), q_gss rfl]
        · rw [hM2, q_gsk (by omega), q_gsk (by omega), q_gss rfl]
        · rw [m132, hM1, q_gss rfl, hM2, q_gsk (by omega), q_gss rfl]
        · rw [m132, hM1, q_gss rfl]
        · rw [k132 9 (by omega), o150 10 (by omega) (by omega) (by omega) (by omega) (by omega)]; exact x6
        · rw [a2 148 (by omega) (by omega) (by omega) (by omega)]; exact x9
        · rw [o150 12 (by omega) (by omega) (by omega) (by omega) (by omega)]; exact x10
        · rw [a2 149 (by omega) (by omega) (by omega) (by omega), a2 157 (by omega) (by omega) (by omega) (by omega)]; exact x11
