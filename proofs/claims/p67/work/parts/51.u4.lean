/-! feesAfter and append -/
theorem q_nar {c : Nat} (h : c < 65536) : vp_nar .char (nI c) = nI c := by
  show (nI c).toUInt32.toUInt16.toUInt32.toInt32 = nI c
  apply Int32.toBitVec_inj.mp
  show BitVec.setWidth 32 (BitVec.setWidth 16 (BitVec.ofNat 32 c)) = BitVec.ofNat 32 c
  apply BitVec.eq_of_toNat_eq
  simp only [BitVec.toNat_setWidth, BitVec.toNat_ofNat]
  omega
theorem q_i2c {c : Nat} (h : c < 65536) : ((nI c).toUInt32 % 65536).toInt32 = nI c := by
  apply Int32.toBitVec_inj.mp
  show BitVec.ofNat 32 c % 65536#32 = BitVec.ofNat 32 c
  apply BitVec.eq_of_toNat_eq
  rw [BitVec.toNat_umod, BitVec.toNat_ofNat, show (65536#32).toNat = 65536 from rfl]
  omega
theorem m_afterL {M : gM} {r : Nat → Int32} {β : Nat} (hM : M 151 = r) (w : gRow β r) (hβ : β ≤ 590) {n : Nat} (hn : n ≤ 100) (h153 : rEq r (M 153)) :
    ∀ d f k, k + d = n → d < f → f_X7_feesAfter_L31 (nI n) f (nI k) (gw M 151 (hpI r k)) = some (nI (coT r n), gs (gw M 151 (cpR (M 153) (hpI r n) 0 0 259)) 150 13 (nI 0)) := by
  intro d
  have ok := hpI_ok w hβ (n := n) hn
  induction d with
  | zero =>
    intro f k hk hf
    obtain ⟨m, rfl⟩ : ∃ m, f = m + 1 := ⟨f - 1, by omega⟩
    have hk : k = n := by omega
    subst hk
    have cp := m_copy (M := gw M 151 (hpI r k)) (a := 153) (b := 151) (na := 259) (nb := 259) (A := 0) (B := 0) (by omega) (by omega) (by omega) (by omega) (by omega)
    rw [gw_ne (show 153 ≠ 151 by omega), gw_same, gw_gw] at cp
    have e2 : cpR (M 153) (hpI r k) 0 0 259 2 = r 2 := by
      rw [show 2 = 0 + 2 from rfl, cpR_in (by omega)]
      exact h153 2 (by omega)
    have e3 : r 2 + nI (coT r k) - r 2 = nI (coT r k) := by rw [Int32.add_comm, Int32.add_sub_cancel]
    rw [f_X7_feesAfter_L31]
    simp (disch := omega) only [↓reduceIte, eq_self, Bool.true_eq_false, Bool.false_eq_true, q_seqr, q_seql, v_ig, v_ni, v_le, v_nle, v_lt, v_nlt, v_eq, v_ne, v_gbt, v_gbf, v_gbd, v_m1lt, v_m1ge, v_m1ne, v_m1e, ↓q_bindD, ↓q_gLet, Option.isSome_some, Option.getD_some, nI_add, pk_mul, q_sub, q_m1, q_div, q_modN, nI_clamp, if_true, if_false, q_l0, q_l1, q_l2, q_l3, q_l4, q_l5, q_l6, q_l7, q_l8, q_l9, q_l10, q_l11, q_l12, q_l13, q_l14, q_l15, q_l16, q_l19, q_l20, q_l22, q_l24, q_l30, q_l32, q_l34, q_l36, q_l45, q_l47, q_l48, q_l57, q_l58, q_l59, q_l60, q_l61, q_l66, q_l75, q_l76, q_l94, q_l97, q_l99, q_l100, q_l101, q_l104, q_l105, q_l108, q_l109, q_l111, q_l114, q_l115, q_l116, q_l117, q_l118, q_l119, q_l120, q_l126, q_l132, q_l133, q_l135, q_l136, q_l138, q_l146, q_l147, q_l148, q_l149, q_l150, q_l151, q_l152, q_l153, q_l154, q_l155, q_l156, q_l157, q_l158, q_l214, q_l229, q_l244, q_l259, q_l300, q_l999, q_l1813, q_l2072, q_l10000, q_l65536, q_l1000000000, m_done, m_fails, m_thrown, m_th, gs_same, q_gsgs, c_raise0, c_raise1, c_raise2, c_raise3, c_raise4, gw_same, cp, ok.2.2, e2, e3]
  | succ d ih =>
    intro f k hk hf
    obtain ⟨m, rfl⟩ : ∃ m, f = m + 1 := ⟨f - 1, by omega⟩
    have ih := ih m (k + 1) (by omega) (by omega)
    rw [f_X7_feesAfter_L31]
    simp (disch := omega) only [↓reduceIte, eq_self, Bool.true_eq_false, Bool.false_eq_true, q_seqr, q_seql, v_ig, v_ni, v_le, v_nle, v_lt, v_nlt, v_eq, v_ne, v_gbt, v_gbf, v_gbd, v_m1lt, v_m1ge, v_m1ne, v_m1e, ↓q_bindD, ↓q_gLet, Option.isSome_some, Option.getD_some, nI_add, pk_mul, q_sub, q_m1, q_div, q_modN, nI_clamp, if_true, if_false, q_l0, q_l1, q_l2, q_l3, q_l4, q_l5, q_l6, q_l7, q_l8, q_l9, q_l10, q_l11, q_l12, q_l13, q_l14, q_l15, q_l16, q_l19, q_l20, q_l22, q_l24, q_l30, q_l32, q_l34, q_l36, q_l45, q_l47, q_l48, q_l57, q_l58, q_l59, q_l60, q_l61, q_l66, q_l75, q_l76, q_l94, q_l97, q_l99, q_l100, q_l101, q_l104, q_l105, q_l108, q_l109, q_l111, q_l114, q_l115, q_l116, q_l117, q_l118, q_l119, q_l120, q_l126, q_l132, q_l133, q_l135, q_l136, q_l138, q_l146, q_l147, q_l148, q_l149, q_l150, q_l151, q_l152, q_l153, q_l154, q_l155, q_l156, q_l157, q_l158, q_l214, q_l229, q_l244, q_l259, q_l300, q_l999, q_l1813, q_l2072, q_l10000, q_l65536, q_l1000000000, m_hour hM w hβ (k := k)]
    exact ih
theorem K_feesAfter (v : Int32) : gCl kA (f_X6_feesAfter v) (f_X7_feesAfter v) := by
  intro k M hk hI
  obtain ⟨t, ht, tie, x⟩ := id hI
  have g := tie.1
  have w := tie.2.1
  rcases q_in3 v 1 100 (by omega) (by omega) with ⟨n, h1, h2, rfl⟩ | hv
  · have hpf : f_X6_passingFault (nI n) M = some (nI 0) := by
      unfold f_X6_passingFault
      simp (disch := omega) only [↓reduceIte, eq_self, Bool.true_eq_false, Bool.false_eq_true, q_seqr, q_seql, v_ig, v_ni, v_le, v_nle, v_lt, v_nlt, v_eq, v_ne, v_gbt, v_gbf, v_gbd, v_m1lt, v_m1ge, v_m1ne, v_m1e, ↓q_bindD, ↓q_gLet, Option.isSome_some, Option.getD_some, nI_add, pk_mul, q_sub, q_m1, q_div, q_modN, nI_clamp, if_true, if_false, q_l0, q_l1, q_l2, q_l3, q_l4, q_l5, q_l6, q_l7, q_l8, q_l9, q_l10, q_l11, q_l12, q_l13, q_l14, q_l15, q_l16, q_l19, q_l20, q_l22, q_l24, q_l30, q_l32, q_l34, q_l36, q_l45, q_l47, q_l48, q_l57, q_l58, q_l59, q_l60, q_l61, q_l66, q_l75, q_l76, q_l94, q_l97, q_l99, q_l100, q_l101, q_l104, q_l105, q_l108, q_l109, q_l111, q_l114, q_l115, q_l116, q_l117, q_l118, q_l119, q_l120, q_l126, q_l132, q_l133, q_l135, q_l136, q_l138, q_l146, q_l147, q_l148, q_l149, q_l150, q_l151, q_l152, q_l153, q_l154, q_l155, q_l156, q_l157, q_l158, q_l214, q_l229, q_l244, q_l259, q_l300, q_l999, q_l1813, q_l2072, q_l10000, q_l65536, q_l1000000000]
    obtain ⟨M1, e, fr, g1⟩ := c_hoursPass (cpM_sim (d := 12) (s := 0) (Or.inr (by omega)) g) w (by omega) (n := n) h2
    have hf : f_X6_feesAfter (nI n) M = some (.inr (nI (coT (M 151) n)), M1) := by
      unfold f_X6_feesAfter
      rw [hpf, Option.bind_some, c_raise0, q_seqr, c_copyFrom, Option.bind_some, e, Option.bind_some]
    have o1 : ∀ a, ¬ (12 ≤ a ∧ a < 24) → M1 a = M a := fun a ha => by rw [fr a (by omega), cpM_fr (by omega)]
    obtain ⟨Mb, hMb⟩ : ∃ Mb, Mb = gw M1 153 (cpR (M1 151) (M1 153) 0 0 259) := ⟨_, rfl⟩
    have b151 : Mb 151 = M 151 := by rw [hMb, gw_ne (by omega), o1 151 (by omega)]
    have b153 : rEq (M 151) (Mb 153) := by
      rw [hMb, gw_same, o1 151 (by omega)]
      exact cpR_rEq _ _
    have cp := m_copy (M := M1) (a := 151) (b := 153) (na := 259) (nb := 259) (A := 0) (B := 0) (by omega) (by omega) (by omega) (by omega) (by omega)
    rw [← hMb] at cp
    have kL := m_afterL b151 w (by omega) h2 b153 n gF 0 (by omega) (by unfold gF; omega)
    have e0 : gw Mb 151 (hpI (M 151) 0) = Mb := by show gw Mb 151 (M 151) = Mb; rw [← b151, gw_id]
    rw [e0] at kL
    have hm : f_X7_feesAfter (nI n) M1 = some (nI (coT (M 151) n), gs (gw Mb 151 (cpR (Mb 153) (hpI (M 151) n) 0 0 259)) 150 13 (nI 0)) := by
      unfold f_X7_feesAfter
      rw [show (1 : Int32) = nI 1 from rfl, show (100 : Int32) = nI 100 by decide, m_in_t h1 h2 (by omega), Option.bind_some, if_neg (show ¬ gb true = 0 by decide), show (0 : Int32) = nI 0 from rfl, cp, Option.bind_some]
      exact kL
    have e1 : (gs (gw Mb 151 (cpR (Mb 153) (hpI (M 151) n) 0 0 259)) 150 13 (nI 0)) 151 = cpR (Mb 153) (hpI (M 151) n) 0 0 259 := by rw [q_gsn (by omega), gw_same]
    have ob : ∀ a, ¬ (12 ≤ a ∧ a < 24) → a ≠ 150 → a ≠ 151 → a ≠ 153 → gs (gw Mb 151 (cpR (Mb 153) (hpI (M 151) n) 0 0 259)) 150 13 (nI 0) a = M a := fun a h1 h2 h3 h4 => by rw [q_gsn h2, gw_ne h3, hMb, gw_ne h4, o1 a h1]
    have o150 : ∀ j, j ≠ 13 → gs (gw Mb 151 (cpR (Mb 153) (hpI (M 151) n) 0 0 259)) 150 13 (nI 0) 150 j = M 150 j := fun j h1 => by rw [q_gsk h1, gw_ne (by omega), hMb, gw_ne (by omega), o1 150 (by omega)]
    have er : rEq (M 151) (cpR (Mb 153) (hpI (M 151) n) 0 0 259) := fun q hq => by
      rw [cpR_rEq (Mb 153) (hpI (M 151) n) q hq, b153 q hq]
    refine ⟨_, M1, _, _, _, hf, hm, q_gss rfl, gAns_r, gInv_step ht x ⟨fun a h1 h2 => ob a (by omega) (by omega) (by omega) (by omega), fun a h1 => ob a (by omega) (by omega) (by omega) (by omega), fun j h1 h2 h3 => o150 j h3, fun j h1 => by rw [ob 132 (by omega) (by omega) (by omega) (by omega)]⟩ (gTie.up (β := k - t) ?_ (by omega))⟩
    obtain ⟨-, -, s, n', y, hn8, hx8, hn, h4, hx, hh⟩ := tie
    refine ⟨?_, by rw [e1]; exact w.ext er, ?_, n', y, hn8, hx8, ?_, ?_, ?_, fun j hj => ?_⟩
    · rw [e1]
      exact (g.ext w er).frm (fun a h1 h2 h3 => ob a (by omega) (by omega) (by omega) (by omega))
    · rw [ob 132 (by omega) (by omega) (by omega) (by omega), o150 6 (by omega), ob 155 (by omega) (by omega) (by omega) (by omega)]
      rcases s with s | ⟨s1, s2, s3, s4⟩
      · exact Or.inl s
      · exact Or.inr ⟨s1, s2, s3.frm (fun a h1 h2 h3 => ob a (by omega) (by omega) (by omega) (by omega)), s4⟩
    · rw [ob 133 (by omega) (by omega) (by omega) (by omega)]; exact hn
    · rw [o150 4 (by omega)]; exact h4
    · rw [ob 133 (by omega) (by omega) (by omega) (by omega)]; exact hx
    · obtain ⟨a, b⟩ := hh j hj
      have eh : hRow (gs (gw Mb 151 (cpR (Mb 153) (hpI (M 151) n) 0 0 259)) 150 13 (nI 0)) j = hRow M j := by unfold hRow; rw [ob 154 (by omega) (by omega) (by omega) (by omega)]
      rw [eh]
      exact ⟨a.frm (fun c h1 h2 h3 => ob c (by omega) (by omega) (by omega) (by omega)), b⟩
  · refine ⟨.inl "java/lang/IllegalArgumentException", M, nI 1, nI 0, gs M 150 13 (nI 1), ?_, ?_, q_gss rfl, gAns_l 0 rfl, gInv_q hI (fun _ _ _ _ => rfl)⟩
    · have hpf : f_X6_passingFault v M = some (nI 2) := by
        unfold f_X6_passingFault
        by_cases h1 : v < nI 1
        · simp (disch := omega) only [↓reduceIte, eq_self, Bool.true_eq_false, Bool.false_eq_true, q_seqr, q_seql, v_ig, v_ni, v_le, v_nle, v_lt, v_nlt, v_eq, v_ne, v_gbt, v_gbf, v_gbd, v_m1lt, v_m1ge, v_m1ne, v_m1e, ↓q_bindD, ↓q_gLet, Option.isSome_some, Option.getD_some, nI_add, pk_mul, q_sub, q_m1, q_div, q_modN, nI_clamp, if_true, if_false, q_l0, q_l1, q_l2, q_l3, q_l4, q_l5, q_l6, q_l7, q_l8, q_l9, q_l10, q_l11, q_l12, q_l13, q_l14, q_l15, q_l16, q_l19, q_l20, q_l22, q_l24, q_l30, q_l32, q_l34, q_l36, q_l45, q_l47, q_l48, q_l57, q_l58, q_l59, q_l60, q_l61, q_l66, q_l75, q_l76, q_l94, q_l97, q_l99, q_l100, q_l101, q_l104, q_l105, q_l108, q_l109, q_l111, q_l114, q_l115, q_l116, q_l117, q_l118, q_l119, q_l120, q_l126, q_l132, q_l133, q_l135, q_l136, q_l138, q_l146, q_l147, q_l148, q_l149, q_l150, q_l151, q_l152, q_l153, q_l154, q_l155, q_l156, q_l157, q_l158, q_l214, q_l229, q_l244, q_l259, q_l300, q_l999, q_l1813, q_l2072, q_l10000, q_l65536, q_l1000000000, h1]
        · obtain ⟨q, k1, k2, rfl⟩ := q_gt (hv.resolve_left h1) (by omega)
          simp (disch := omega) only [↓reduceIte, eq_self, Bool.true_eq_false, Bool.false_eq_true, q_seqr, q_seql, v_ig, v_ni, v_le, v_nle, v_lt, v_nlt, v_eq, v_ne, v_gbt, v_gbf, v_gbd, v_m1lt, v_m1ge, v_m1ne, v_m1e, ↓q_bindD, ↓q_gLet, Option.isSome_some, Option.getD_some, nI_add, pk_mul, q_sub, q_m1, q_div, q_modN, nI_clamp, if_true, if_false, q_l0, q_l1, q_l2, q_l3, q_l4, q_l5, q_l6, q_l7, q_l8, q_l9, q_l10, q_l11, q_l12, q_l13, q_l14, q_l15, q_l16, q_l19, q_l20, q_l22, q_l24, q_l30, q_l32, q_l34, q_l36, q_l45, q_l47, q_l48, q_l57, q_l58, q_l59, q_l60, q_l61, q_l66, q_l75, q_l76, q_l94, q_l97, q_l99, q_l100, q_l101, q_l104, q_l105, q_l108, q_l109, q_l111, q_l114, q_l115, q_l116, q_l117, q_l118, q_l119, q_l120, q_l126, q_l132, q_l133, q_l135, q_l136, q_l138, q_l146, q_l147, q_l148, q_l149, q_l150, q_l151, q_l152, q_l153, q_l154, q_l155, q_l156, q_l157, q_l158, q_l214, q_l229, q_l244, q_l259, q_l300, q_l999, q_l1813, q_l2072, q_l10000, q_l65536, q_l1000000000]
      unfold f_X6_feesAfter
      rw [hpf, Option.bind_some, c_raise2]
      rfl
    · unfold f_X7_feesAfter
      simp (disch := omega) only [↓reduceIte, eq_self, Bool.true_eq_false, Bool.false_eq_true, q_seqr, q_seql, v_ig, v_ni, v_le, v_nle, v_lt, v_nlt, v_eq, v_ne, v_gbt, v_gbf, v_gbd, v_m1lt, v_m1ge, v_m1ne, v_m1e, ↓q_bindD, ↓q_gLet, Option.isSome_some, Option.getD_some, nI_add, pk_mul, q_sub, q_m1, q_div, q_modN, nI_clamp, if_true, if_false, q_l0, q_l1, q_l2, q_l3, q_l4, q_l5, q_l6, q_l7, q_l8, q_l9, q_l10, q_l11, q_l12, q_l13, q_l14, q_l15, q_l16, q_l19, q_l20, q_l22, q_l24, q_l30, q_l32, q_l34, q_l36, q_l45, q_l47, q_l48, q_l57, q_l58, q_l59, q_l60, q_l61, q_l66, q_l75, q_l76, q_l94, q_l97, q_l99, q_l100, q_l101, q_l104, q_l105, q_l108, q_l109, q_l111, q_l114, q_l115, q_l116, q_l117, q_l118, q_l119, q_l120, q_l126, q_l132, q_l133, q_l135, q_l136, q_l138, q_l146, q_l147, q_l148, q_l149, q_l150, q_l151, q_l152, q_l153, q_l154, q_l155, q_l156, q_l157, q_l158, q_l214, q_l229, q_l244, q_l259, q_l300, q_l999, q_l1813, q_l2072, q_l10000, q_l65536, q_l1000000000, m_done, m_fails, m_thrown, m_th, gs_same, q_gsgs, c_raise0, c_raise1, c_raise2, c_raise3, c_raise4, m_in_f hv]
theorem K_append (v : Int32) : gCl kAS (f_X6_append v) (f_X7_append v) := by
  intro k M hk hI
  obtain ⟨t, ht, tie, x⟩ := id hI
  obtain ⟨x1, x2, x3, x4, x5, x6, l, x8, x9, x10, x11⟩ := x
  rcases q_in3 v 32 126 (by omega) (by omega) with ⟨c, h1, h2, rfl⟩ | hv
  · by_cases h60 : t = 60
    · subst h60
      refine ⟨.inl "java/lang/IllegalStateException", M, nI 2, nI 0, gs M 150 13 (nI 2), ?_, ?_, q_gss rfl, gAns_l 1 rfl, gInv_q hI (fun _ _ _ _ => rfl)⟩
      · unfold f_X6_append
        simp (disch := omega) only [↓reduceIte, eq_self, Bool.true_eq_false, Bool.false_eq_true, q_seqr, q_seql, v_ig, v_ni, v_le, v_nle, v_lt, v_nlt, v_eq, v_ne, v_gbt, v_gbf, v_gbd, v_m1lt, v_m1ge, v_m1ne, v_m1e, ↓q_bindD, ↓q_gLet, Option.isSome_some, Option.getD_some, nI_add, pk_mul, q_sub, q_m1, q_div, q_modN, nI_clamp, if_true, if_false, q_l0, q_l1, q_l2, q_l3, q_l4, q_l5, q_l6, q_l7, q_l8, q_l9, q_l10, q_l11, q_l12, q_l13, q_l14, q_l15, q_l16, q_l19, q_l20, q_l22, q_l24, q_l30, q_l32, q_l34, q_l36, q_l45, q_l47, q_l48, q_l57, q_l58, q_l59, q_l60, q_l61, q_l66, q_l75, q_l76, q_l94, q_l97, q_l99, q_l100, q_l101, q_l104, q_l105, q_l108, q_l109, q_l111, q_l114, q_l115, q_l116, q_l117, q_l118, q_l119, q_l120, q_l126, q_l132, q_l133, q_l135, q_l136, q_l138, q_l146, q_l147, q_l148, q_l149, q_l150, q_l151, q_l152, q_l153, q_l154, q_l155, q_l156, q_l157, q_l158, q_l214, q_l229, q_l244, q_l259, q_l300, q_l999, q_l1813, q_l2072, q_l10000, q_l65536, q_l1000000000, x1]
      · unfold f_X7_append
        simp (disch := omega) only [↓reduceIte, eq_self, Bool.true_eq_false, Bool.false_eq_true, q_seqr, q_seql, v_ig, v_ni, v_le, v_nle, v_lt, v_nlt, v_eq, v_ne, v_gbt, v_gbf, v_gbd, v_m1lt, v_m1ge, v_m1ne, v_m1e, ↓q_bindD, ↓q_gLet, Option.isSome_some, Option.getD_some, nI_add, pk_mul, q_sub, q_m1, q_div, q_modN, nI_clamp, if_true, if_false, q_l0, q_l1, q_l2, q_l3, q_l4, q_l5, q_l6, q_l7, q_l8, q_l9, q_l10, q_l11, q_l12, q_l13, q_l14, q_l15, q_l16, q_l19, q_l20, q_l22, q_l24, q_l30, q_l32, q_l34, q_l36, q_l45, q_l47, q_l48, q_l57, q_l58, q_l59, q_l60, q_l61, q_l66, q_l75, q_l76, q_l94, q_l97, q_l99, q_l100, q_l101, q_l104, q_l105, q_l108, q_l109, q_l111, q_l114, q_l115, q_l116, q_l117, q_l118, q_l119, q_l120, q_l126, q_l132, q_l133, q_l135, q_l136, q_l138, q_l146, q_l147, q_l148, q_l149, q_l150, q_l151, q_l152, q_l153, q_l154, q_l155, q_l156, q_l157, q_l158, q_l214, q_l229, q_l244, q_l259, q_l300, q_l999, q_l1813, q_l2072, q_l10000, q_l65536, q_l1000000000, m_done, m_fails, m_thrown, m_th, gs_same, q_gsgs, c_raise0, c_raise1, c_raise2, c_raise3, c_raise4, m_in_t, x2]
    · have hnar := q_nar (show c < 65536 by omega)
      obtain ⟨M1, hM1⟩ : ∃ M1, M1 = gs (gs M 147 t (nI c)) 146 1 (nI (t + 1)) := ⟨_, rfl⟩
      obtain ⟨M2, hM2⟩ : ∃ M2, M2 = gs (gs (gs M1 156 t (nI c)) 150 8 (nI (t + 1))) 150 13 (nI 0) := ⟨_, rfl⟩
      have hf : f_X6_append (nI c) M = some (.inr (nI (t + 1)), M1) := by
        have ht' : f_X2_take (nI c) M = some M1 := by
          unfold f_X2_take
          simp (disch := omega) only [↓reduceIte, eq_self, Bool.true_eq_false, Bool.false_eq_true, q_seqr, q_seql, v_ig, v_ni, v_le, v_nle, v_lt, v_nlt, v_eq, v_ne, v_gbt, v_gbf, v_gbd, v_m1lt, v_m1ge, v_m1ne, v_m1e, ↓q_bindD, ↓q_gLet, Option.isSome_some, Option.getD_some, nI_add, pk_mul, q_sub, q_m1, q_div, q_modN, nI_clamp, if_true, if_false, q_l0, q_l1, q_l2, q_l3, q_l4, q_l5, q_l6, q_l7, q_l8, q_l9, q_l10, q_l11, q_l12, q_l13, q_l14, q_l15, q_l16, q_l19, q_l20, q_l22, q_l24, q_l30, q_l32, q_l34, q_l36, q_l45, q_l47, q_l48, q_l57, q_l58, q_l59, q_l60, q_l61, q_l66, q_l75, q_l76, q_l94, q_l97, q_l99, q_l100, q_l101, q_l104, q_l105, q_l108, q_l109, q_l111, q_l114, q_l115, q_l116, q_l117, q_l118, q_l119, q_l120, q_l126, q_l132, q_l133, q_l135, q_l136, q_l138, q_l146, q_l147, q_l148, q_l149, q_l150, q_l151, q_l152, q_l153, q_l154, q_l155, q_l156, q_l157, q_l158, q_l214, q_l229, q_l244, q_l259, q_l300, q_l999, q_l1813, q_l2072, q_l10000, q_l65536, q_l1000000000, x1, hnar, q_gsn]
          rw [← hM1]
        have e1 : M1 146 1 = nI (t + 1) := by rw [hM1]; exact q_gss rfl
        unfold f_X6_append
        simp (disch := omega) only [↓reduceIte, eq_self, Bool.true_eq_false, Bool.false_eq_true, q_seqr, q_seql, v_ig, v_ni, v_le, v_nle, v_lt, v_nlt, v_eq, v_ne, v_gbt, v_gbf, v_gbd, v_m1lt, v_m1ge, v_m1ne, v_m1e, ↓q_bindD, ↓q_gLet, Option.isSome_some, Option.getD_some, nI_add, pk_mul, q_sub, q_m1, q_div, q_modN, nI_clamp, if_true, if_false, q_l0, q_l1, q_l2, q_l3, q_l4, q_l5, q_l6, q_l7, q_l8, q_l9, q_l10, q_l11, q_l12, q_l13, q_l14, q_l15, q_l16, q_l19, q_l20, q_l22, q_l24, q_l30, q_l32, q_l34, q_l36, q_l45, q_l47, q_l48, q_l57, q_l58, q_l59, q_l60, q_l61, q_l66, q_l75, q_l76, q_l94, q_l97, q_l99, q_l100, q_l101, q_l104, q_l105, q_l108, q_l109, q_l111, q_l114, q_l115, q_l116, q_l117, q_l118, q_l119, q_l120, q_l126, q_l132, q_l133, q_l135, q_l136, q_l138, q_l146, q_l147, q_l148, q_l149, q_l150, q_l151, q_l152, q_l153, q_l154, q_l155, q_l156, q_l157, q_l158, q_l214, q_l229, q_l244, q_l259, q_l300, q_l999, q_l1813, q_l2072, q_l10000, q_l65536, q_l1000000000, x1, ht', e1]
      have hm : f_X7_append (nI c) M1 = some (nI (t + 1), M2) := by
        have e1 : M1 150 8 = nI t := by rw [hM1, q_gsn (by omega), q_gsn (by omega)]; exact x2
        unfold f_X7_append
        simp (disch := omega) only [↓reduceIte, eq_self, Bool.true_eq_false, Bool.false_eq_true, q_seqr, q_seql, v_ig, v_ni, v_le, v_nle, v_lt, v_nlt, v_eq, v_ne, v_gbt, v_gbf, v_gbd, v_m1lt, v_m1ge, v_m1ne, v_m1e, ↓q_bindD, ↓q_gLet, Option.isSome_some, Option.getD_some, nI_add, pk_mul, q_sub, q_m1, q_div, q_modN, nI_clamp, if_true, if_false, q_l0, q_l1, q_l2, q_l3, q_l4, q_l5, q_l6, q_l7, q_l8, q_l9, q_l10, q_l11, q_l12, q_l13, q_l14, q_l15, q_l16, q_l19, q_l20, q_l22, q_l24, q_l30, q_l32, q_l34, q_l36, q_l45, q_l47, q_l48, q_l57, q_l58, q_l59, q_l60, q_l61, q_l66, q_l75, q_l76, q_l94, q_l97, q_l99, q_l100, q_l101, q_l104, q_l105, q_l108, q_l109, q_l111, q_l114, q_l115, q_l116, q_l117, q_l118, q_l119, q_l120, q_l126, q_l132, q_l133, q_l135, q_l136, q_l138, q_l146, q_l147, q_l148, q_l149, q_l150, q_l151, q_l152, q_l153, q_l154, q_l155, q_l156, q_l157, q_l158, q_l214, q_l229, q_l244, q_l259, q_l300, q_l999, q_l1813, q_l2072, q_l10000, q_l65536, q_l1000000000, m_done, m_fails, m_thrown, m_th, gs_same, q_gsgs, c_raise0, c_raise1, c_raise2, c_raise3, c_raise4, m_in_t, e1, hnar, q_gsn]
        rw [← hM2]
      have o : ∀ a, a ≠ 146 → a ≠ 147 → a ≠ 150 → a ≠ 156 → M2 a = M a := fun a h1 h2 h3 h4 => by rw [hM2, q_gsn h3, q_gsn h3, q_gsn h4, hM1, q_gsn h1, q_gsn h2]
      have o150 : ∀ j, j ≠ 8 → j ≠ 13 → M2 150 j = M 150 j := fun j h1 h2 => by rw [hM2, q_gsk h2, q_gsk h1, q_gsn (by omega), hM1, q_gsn (by omega), q_gsn (by omega)]
      have e147 : ∀ j, M2 147 j = gs M 147 t (nI c) 147 j := fun j => by rw [hM2, q_gsn (by omega), q_gsn (by omega), q_gsn (by omega), hM1, q_gsn (by omega)]
      have e156 : ∀ j, M2 156 j = gs M1 156 t (nI c) 156 j := fun j => by rw [hM2, q_gsn (by omega), q_gsn (by omega)]
      refine ⟨_, M1, _, _, M2, hf, hm, by rw [hM2, q_gss rfl], gAns_r, t + 1, by omega, ?_, ?_, ?_, by omega, fun i hi => ?_, ?_, ?_, l, x8, ?_, ?_, ?_⟩
      · rw [show k + 1 - (t + 1) = k - t by omega]
        refine tie.fr ⟨fun a h1 h2 h3 => o a (by omega) (by omega) (by omega) (by omega), ?_, ?_, ?_, o150 4 (by omega) (by omega), o150 6 (by omega) (by omega), o 151 (by omega) (by omega) (by omega) (by omega), o 154 (by omega) (by omega) (by omega) (by omega), o 155 (by omega) (by omega) (by omega) (by omega)⟩
        · rw [o 132 (by omega) (by omega) (by omega) (by omega)]
        · rw [o 133 (by omega) (by omega) (by omega) (by omega)]
        · rw [o 133 (by omega) (by omega) (by omega) (by omega)]
      · rw [hM2, q_gsn (by omega), q_gsn (by omega), q_gsn (by omega), hM1, q_gss rfl]
      · rw [hM2, q_gsk (by omega), q_gss rfl]
      · rw [e147, e156]
        by_cases hit : i = t
        · subst hit
          exact ⟨c, h1, h2, q_gss rfl, q_gss rfl⟩
        · rw [q_gsk hit, q_gsk hit, hM1, q_gsn (by omega), q_gsn (by omega)]
          exact x4 i (by omega)
      · rw [o 132 (by omega) (by omega) (by omega) (by omega), o150 9 (by omega) (by omega)]; exact x5
      · rw [o 132 (by omega) (by omega) (by omega) (by omega), o150 10 (by omega) (by omega)]; exact x6
      · rw [o 148 (by omega) (by omega) (by omega) (by omega)]; exact x9
      · rw [o150 12 (by omega) (by omega)]; exact x10
      · rw [o 149 (by omega) (by omega) (by omega) (by omega), o 157 (by omega) (by omega) (by omega) (by omega)]; exact x11
  · refine ⟨.inl "java/lang/IllegalArgumentException", M, nI 1, nI 0, gs M 150 13 (nI 1), ?_, ?_, q_gss rfl, gAns_l 0 rfl, gInv_q hI (fun _ _ _ _ => rfl)⟩
    · unfold f_X6_append
      by_cases h1 : v < nI 32
      · simp (disch := omega) only [↓reduceIte, eq_self, Bool.true_eq_false, Bool.false_eq_true, q_seqr, q_seql, v_ig, v_ni, v_le, v_nle, v_lt, v_nlt, v_eq, v_ne, v_gbt, v_gbf, v_gbd, v_m1lt, v_m1ge, v_m1ne, v_m1e, ↓q_bindD, ↓q_gLet, Option.isSome_some, Option.getD_some, nI_add, pk_mul, q_sub, q_m1, q_div, q_modN, nI_clamp, if_true, if_false, q_l0, q_l1, q_l2, q_l3, q_l4, q_l5, q_l6, q_l7, q_l8, q_l9, q_l10, q_l11, q_l12, q_l13, q_l14, q_l15, q_l16, q_l19, q_l20, q_l22, q_l24, q_l30, q_l32, q_l34, q_l36, q_l45, q_l47, q_l48, q_l57, q_l58, q_l59, q_l60, q_l61, q_l66, q_l75, q_l76, q_l94, q_l97, q_l99, q_l100, q_l101, q_l104, q_l105, q_l108, q_l109, q_l111, q_l114, q_l115, q_l116, q_l117, q_l118, q_l119, q_l120, q_l126, q_l132, q_l133, q_l135, q_l136, q_l138, q_l146, q_l147, q_l148, q_l149, q_l150, q_l151, q_l152, q_l153, q_l154, q_l155, q_l156, q_l157, q_l158, q_l214, q_l229, q_l244, q_l259, q_l300, q_l999, q_l1813, q_l2072, q_l10000, q_l65536, q_l1000000000, h1]
      · have h2 : ¬ v ≤ nI 126 := Int32.not_le.mpr (hv.resolve_left h1)
        simp (disch := omega) only [↓reduceIte, eq_self, Bool.true_eq_false, Bool.false_eq_true, q_seqr, q_seql, v_ig, v_ni, v_le, v_nle, v_lt, v_nlt, v_eq, v_ne, v_gbt, v_gbf, v_gbd, v_m1lt, v_m1ge, v_m1ne, v_m1e, ↓q_bindD, ↓q_gLet, Option.isSome_some, Option.getD_some, nI_add, pk_mul, q_sub, q_m1, q_div, q_modN, nI_clamp, if_true, if_false, q_l0, q_l1, q_l2, q_l3, q_l4, q_l5, q_l6, q_l7, q_l8, q_l9, q_l10, q_l11, q_l12, q_l13, q_l14, q_l15, q_l16, q_l19, q_l20, q_l22, q_l24, q_l30, q_l32, q_l34, q_l36, q_l45, q_l47, q_l48, q_l57, q_l58, q_l59, q_l60, q_l61, q_l66, q_l75, q_l76, q_l94, q_l97, q_l99, q_l100, q_l101, q_l104, q_l105, q_l108, q_l109, q_l111, q_l114, q_l115, q_l116, q_l117, q_l118, q_l119, q_l120, q_l126, q_l132, q_l133, q_l135, q_l136, q_l138, q_l146, q_l147, q_l148, q_l149, q_l150, q_l151, q_l152, q_l153, q_l154, q_l155, q_l156, q_l157, q_l158, q_l214, q_l229, q_l244, q_l259, q_l300, q_l999, q_l1813, q_l2072, q_l10000, q_l65536, q_l1000000000, h1, h2]
    · unfold f_X7_append
      simp (disch := omega) only [↓reduceIte, eq_self, Bool.true_eq_false, Bool.false_eq_true, q_seqr, q_seql, v_ig, v_ni, v_le, v_nle, v_lt, v_nlt, v_eq, v_ne, v_gbt, v_gbf, v_gbd, v_m1lt, v_m1ge, v_m1ne, v_m1e, ↓q_bindD, ↓q_gLet, Option.isSome_some, Option.getD_some, nI_add, pk_mul, q_sub, q_m1, q_div, q_modN, nI_clamp, if_true, if_false, q_l0, q_l1, q_l2, q_l3, q_l4, q_l5, q_l6, q_l7, q_l8, q_l9, q_l10, q_l11, q_l12, q_l13, q_l14, q_l15, q_l16, q_l19, q_l20, q_l22, q_l24, q_l30, q_l32, q_l34, q_l36, q_l45, q_l47, q_l48, q_l57, q_l58, q_l59, q_l60, q_l61, q_l66, q_l75, q_l76, q_l94, q_l97, q_l99, q_l100, q_l101, q_l104, q_l105, q_l108, q_l109, q_l111, q_l114, q_l115, q_l116, q_l117, q_l118, q_l119, q_l120, q_l126, q_l132, q_l133, q_l135, q_l136, q_l138, q_l146, q_l147, q_l148, q_l149, q_l150, q_l151, q_l152, q_l153, q_l154, q_l155, q_l156, q_l157, q_l158, q_l214, q_l229, q_l244, q_l259, q_l300, q_l999, q_l1813, q_l2072, q_l10000, q_l65536, q_l1000000000, m_done, m_fails, m_thrown, m_th, gs_same, q_gsgs, c_raise0, c_raise1, c_raise2, c_raise3, c_raise4, m_in_f hv]
