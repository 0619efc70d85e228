/-! move -/
section TM
variable {r : Nat → Int32} {β : Nat}
def mvR (r : Nat → Int32) (p h p2 h2 : Nat) : Nat → Int32 := puR (upd r (22 + p) (nI h)) (5 * p2 + h2) (r (34 + (5 * p + h))) (r (94 + (5 * p + h))) (r (154 + (5 * p + h))) h2
theorem mvR_o {p h p2 h2 j : Nat} (hp : p2 < 12) (hh : h2 < 5) (hj : j < 22 ∨ 214 ≤ j) (hp1 : p < 12) : mvR r p h p2 h2 j = r j := by
  unfold mvR
  rw [puR_o (by omega) (by omega) (by omega) (by omega), q_upn (by omega)]
theorem mvR_all (w : gRow β r) {p h p2 h2 : Nat} (hp : p < 12) (hp2 : p2 < 12) (hne : p2 ≠ p) (hh : hN r p = h + 1) (hh2 : hN r p2 = h2) (h5 : h2 < 5) :
    (tAll r).Perm (tCell r (5 * p + h) :: tAll (upd r (22 + p) (nI h))) ∧ (tAll (mvR r p h p2 h2)).Perm ((r (34 + (5 * p + h)), r (94 + (5 * p + h)), r (154 + (5 * p + h)), nI p2, nI h2) :: tAll (upd r (22 + p) (nI h))) := by
  have h51 := (w.h hp).2
  obtain ⟨r1, hr1⟩ : ∃ r1, r1 = upd r (22 + p) (nI h) := ⟨_, rfl⟩
  have o1 : ∀ j, j ≠ 22 + p → r1 j = r j := fun j hj => by rw [hr1, q_upn hj]
  have e1 : hN r1 p = h := by
    unfold hN
    rw [hr1, q_ups rfl]
    exact nI_clamp (by omega)
  have e2 := ship_up (lo := r1) (hi := r) hp (by omega) e1 hh (fun p' hp' hne => (hN_eq (o1 _ (by omega))).symm) (fun c hc hne _ => by
    unfold tCell
    rw [o1 _ (by omega), o1 _ (by omega), o1 _ (by omega)])
  have e3 : tYard r1 = tYard r := tYard_eq (o1 _ (by omega)) (fun j hj => o1 _ (by omega))
  have e4 : hN r1 p2 = h2 := by rw [← hh2]; exact hN_eq (o1 _ (by omega))
  have e5 := puR_ship (r := r1) (v := r (34 + (5 * p + h))) (u := r (94 + (5 * p + h))) (k := r (154 + (5 * p + h))) hp2 h5 e4 (r' := mvR r p h p2 h2) (fun j _ => by unfold mvR; rw [hr1])
  have e6 : tYard (mvR r p h p2 h2) = tYard r := tYard_eq (mvR_o hp2 h5 (by omega) hp) (fun j hj => mvR_o hp2 h5 (by omega) hp)
  rw [← hr1]
  constructor
  · unfold tAll
    rw [e3]
    exact e2.append_right _
  · unfold tAll
    rw [e6, e3]
    exact e5.append_right _
theorem mvR_row (w : gRow β r) (hβ : β ≤ 600) {p h p2 h2 : Nat} (hp : p < 12) (hp2 : p2 < 12) (hne : p2 ≠ p) (hh : hN r p = h + 1) (hh2 : hN r p2 = h2) (h5 : h2 < 5) : gRow (β + 1) (mvR r p h p2 h2) := by
  obtain ⟨hP, hA⟩ := mvR_all w hp hp2 hne hh hh2 h5
  have hn := w.nx
  obtain ⟨d, hd1, hd2⟩ := w.dl
  have h51 := (w.h hp).2
  have o : ∀ j, j < 22 → mvR r p h p2 h2 j = r j := fun j hj => mvR_o hp2 h5 (Or.inl hj) hp
  refine gRow_mk w (fun j hj => o j (by omega)) (fun p' hp' => ?_) ⟨yN r, by rw [o 6 (by omega)]; exact w.y.1, w.y.2⟩ (x := nxN r) (by rw [o 1 (by omega)]; exact hn.1) (by omega) hβ (fun t ht => ?_) ⟨d, by rw [o 4 (by omega)]; exact hd1, ?_⟩
  · by_cases e : p' = p2
    · subst e
      refine ⟨h2 + 1, ?_, by omega⟩
      unfold mvR puR
      rw [q_ups (by omega)]
    · by_cases e2 : p' = p
      · subst e2
        refine ⟨h, ?_, by omega⟩
        unfold mvR
        rw [puR_o (by omega) (by omega) (by omega) (by omega), q_ups rfl]
      · refine ⟨hN r p', ?_, (w.h hp').2⟩
        unfold mvR
        rw [puR_o (by omega) (by omega) (by omega) (by omega), q_upn (by omega)]
        exact (w.h hp').1
  · rcases List.mem_cons.mp (hA.mem_iff.mp ht) with rfl | ht
    · exact (w.ok (t := tCell r (5 * p + h)) (hP.mem_iff.mpr List.mem_cons_self) : tOK (nxN r) (tCell r (5 * p + h)))
    · exact w.ok (hP.mem_iff.mpr (List.mem_cons_of_mem _ ht))
  · rw [hd2, hA.length_eq, hP.length_eq, List.length_cons, List.length_cons]
theorem m_move1 {M : gM} (w : gRow β r) (hM : M 151 = r) {b s s2 h h2 : Nat} (hb : b < 3) (hs : s < 4) (hs2 : s2 < 4) (hne : s2 ≠ s) (h1 : r (7 + b) = nI 1) (hh : hN r (b * 4 + s) = h + 1) (hh2 : hN r (b * 4 + s2) = h2) (h5 : h2 < 5) :
    f_X7_moves (nI b) (nI s) (nI s2) M = some (r (34 + (5 * (b * 4 + s) + h)), gs (gw M 151 (mvR r (b * 4 + s) h (b * 4 + s2) h2)) 150 13 (nI 0)) := by
  have hp : b * 4 + s < 12 := by omega
  obtain ⟨hh', h51⟩ := w.h hp
  rw [hh] at hh' h51
  have hh2' := (w.h (show b * 4 + s2 < 12 by omega)).1
  rw [hh2] at hh2'
  obtain ⟨Q, hQ⟩ : ∃ Q, Q = 5 * (b * 4 + s) + h := ⟨_, rfl⟩
  obtain ⟨Q2, hQ2⟩ : ∃ Q2, Q2 = 5 * (b * 4 + s2) + h2 := ⟨_, rfl⟩
  have e4 : 20 * b + 5 * s + h = Q := by omega
  have e42 : 20 * b + 5 * s2 + h2 = Q2 := by omega
  have ed : Q / 5 = b * 4 + s := by omega
  have ed2 : Q2 / 5 = b * 4 + s2 := by omega
  have hQ60 : Q < 60 := by omega
  have hQ260 : Q2 < 60 := by omega
  have mh := m_height0 (M := M) hb hs (by rw [hM]; exact hh')
  have mh2 := m_height0 (M := M) hb hs2 (by rw [hM]; exact hh2')
  obtain ⟨r1, hr1⟩ : ∃ r1, r1 = upd r (22 + (b * 4 + s)) (nI h) := ⟨_, rfl⟩
  have o1 : ∀ j, j ≠ 22 + (b * 4 + s) → r1 j = r j := fun j hj => by rw [hr1, q_upn hj]
  have mh3 := m_height0 (M := gw M 151 r1) hb hs2 (n := h2) (by rw [gw_same, o1 _ (by omega)]; exact hh2')
  have mp := m_puts (M := gw M 151 r1) (q := Q2) (h := h2) (v := r (34 + Q)) (u := r (94 + Q)) (k := r (154 + Q)) (gw_same _ _ _) hQ260 (by rw [ed2, o1 _ (by omega)]; exact hh2') (by omega)
  have ep : puR r1 Q2 (r (34 + Q)) (r (94 + Q)) (r (154 + Q)) h2 (34 + Q) = r (34 + Q) := by rw [puR_o (by omega) (by omega) (by omega) (by omega), o1 _ (by omega)]
  have a34 := o1 (34 + Q) (by omega)
  have a94 := o1 (94 + Q) (by omega)
  have a154 := o1 (154 + Q) (by omega)
  unfold f_X7_moves f_X7_cell
  simp (disch := omega) only [↓reduceIte, eq_self, Bool.true_eq_false, Bool.false_eq_true, q_seqr, q_seql, v_ig, v_ni, v_le, v_nle, v_lt, v_nlt, v_eq, v_ne, v_gbt, v_gbf, v_gbd, v_m1lt, v_m1ge, v_m1ne, v_m1e, ↓q_bindD, ↓q_gLet, Option.isSome_some, Option.getD_some, nI_add, pk_mul, q_sub, q_m1, q_div, q_modN, nI_clamp, if_true, if_false, q_l0, q_l1, q_l2, q_l3, q_l4, q_l5, q_l6, q_l7, q_l8, q_l9, q_l10, q_l11, q_l12, q_l13, q_l14, q_l15, q_l16, q_l19, q_l20, q_l22, q_l24, q_l30, q_l32, q_l34, q_l36, q_l45, q_l47, q_l48, q_l57, q_l58, q_l59, q_l60, q_l61, q_l66, q_l75, q_l76, q_l94, q_l97, q_l99, q_l100, q_l101, q_l104, q_l105, q_l108, q_l109, q_l111, q_l114, q_l115, q_l116, q_l117, q_l118, q_l119, q_l120, q_l126, q_l132, q_l133, q_l135, q_l136, q_l138, q_l146, q_l147, q_l148, q_l149, q_l150, q_l151, q_l152, q_l153, q_l154, q_l155, q_l156, q_l157, q_l158, q_l214, q_l229, q_l244, q_l259, q_l300, q_l999, q_l1813, q_l2072, q_l10000, q_l65536, q_l1000000000, m_done, m_fails, m_thrown, m_th, gs_same, q_gsgs, c_raise0, c_raise1, c_raise2, c_raise3, c_raise4, m_isStack hb hs, m_isStack hb hs2, mh, mh2, Nat.add_sub_cancel, hM, h1, e4, e42, ed, q_gs151, gw_same, gw_gw, hh', ← hr1, mh3, a34, a94, a154, mp, ep]
  rw [mvR, ← hr1, ← hQ, ← hQ2]
theorem T_move (w : gRow β r) (hβ : β ≤ 590) (v s u : Int32) : gCmd β r (fun o M => f_X5_movingFault o v s u M) (fun o M => f_X5_shiftTop o v s u M) (fun o M => (f_X5_shiftTop o v s u M).bind fun p => some p.2) (fun M => f_X7_moves v s u M) (fun f => f) kOAS := by
  rcases q_cases v 3 with ⟨b, hb, rfl⟩ | hv
  · rcases q_cases s 4 with ⟨s, hs, rfl⟩ | hs
    · rcases q_cases u 4 with ⟨s2, hs2, rfl⟩ | hs2
      · by_cases hne : s2 = s
        · subst hne
          refine Or.inl ⟨2, by omega, ⟨rfl, by decide⟩, fun M o g => ?_, fun M hM => ?_⟩
          · unfold f_X5_movingFault
            simp (disch := omega) only [↓reduceIte, eq_self, Bool.true_eq_false, Bool.false_eq_true, q_seqr, q_seql, v_ig, v_ni, v_le, v_nle, v_lt, v_nlt, v_eq, v_ne, v_gbt, v_gbf, v_gbd, v_m1lt, v_m1ge, v_m1ne, v_m1e, ↓q_bindD, ↓q_gLet, Option.isSome_some, Option.getD_some, nI_add, pk_mul, q_sub, q_m1, q_div, q_modN, nI_clamp, if_true, if_false, q_l0, q_l1, q_l2, q_l3, q_l4, q_l5, q_l6, q_l7, q_l8, q_l9, q_l10, q_l11, q_l12, q_l13, q_l14, q_l15, q_l16, q_l19, q_l20, q_l22, q_l24, q_l30, q_l32, q_l34, q_l36, q_l45, q_l47, q_l48, q_l57, q_l58, q_l59, q_l60, q_l61, q_l66, q_l75, q_l76, q_l94, q_l97, q_l99, q_l100, q_l101, q_l104, q_l105, q_l108, q_l109, q_l111, q_l114, q_l115, q_l116, q_l117, q_l118, q_l119, q_l120, q_l126, q_l132, q_l133, q_l135, q_l136, q_l138, q_l146, q_l147, q_l148, q_l149, q_l150, q_l151, q_l152, q_l153, q_l154, q_l155, q_l156, q_l157, q_l158, q_l214, q_l229, q_l244, q_l259, q_l300, q_l999, q_l1813, q_l2072, q_l10000, q_l65536, q_l1000000000, c_isBerth hb, c_isStack hs]
          · unfold f_X7_moves
            simp (disch := omega) only [↓reduceIte, eq_self, Bool.true_eq_false, Bool.false_eq_true, q_seqr, q_seql, v_ig, v_ni, v_le, v_nle, v_lt, v_nlt, v_eq, v_ne, v_gbt, v_gbf, v_gbd, v_m1lt, v_m1ge, v_m1ne, v_m1e, ↓q_bindD, ↓q_gLet, Option.isSome_some, Option.getD_some, nI_add, pk_mul, q_sub, q_m1, q_div, q_modN, nI_clamp, if_true, if_false, q_l0, q_l1, q_l2, q_l3, q_l4, q_l5, q_l6, q_l7, q_l8, q_l9, q_l10, q_l11, q_l12, q_l13, q_l14, q_l15, q_l16, q_l19, q_l20, q_l22, q_l24, q_l30, q_l32, q_l34, q_l36, q_l45, q_l47, q_l48, q_l57, q_l58, q_l59, q_l60, q_l61, q_l66, q_l75, q_l76, q_l94, q_l97, q_l99, q_l100, q_l101, q_l104, q_l105, q_l108, q_l109, q_l111, q_l114, q_l115, q_l116, q_l117, q_l118, q_l119, q_l120, q_l126, q_l132, q_l133, q_l135, q_l136, q_l138, q_l146, q_l147, q_l148, q_l149, q_l150, q_l151, q_l152, q_l153, q_l154, q_l155, q_l156, q_l157, q_l158, q_l214, q_l229, q_l244, q_l259, q_l300, q_l999, q_l1813, q_l2072, q_l10000, q_l65536, q_l1000000000, m_done, m_fails, m_thrown, m_th, gs_same, q_gsgs, c_raise0, c_raise1, c_raise2, c_raise3, c_raise4, m_isStack hb hs]
        · have hp : b * 4 + s < 12 := by omega
          have hp2 : b * 4 + s2 < 12 := by omega
          obtain ⟨hh, h5⟩ := w.h hp
          obtain ⟨hh2, h52⟩ := w.h hp2
          have mh : ∀ M, M 151 = r → f_X7_height (nI b) (nI s) M = some (nI (hN r (b * 4 + s))) := fun M hM => m_height0 hb hs (by rw [hM]; exact hh)
          have mh2 : ∀ M, M 151 = r → f_X7_height (nI b) (nI s2) M = some (nI (hN r (b * 4 + s2))) := fun M hM => m_height0 hb hs2 (by rw [hM]; exact hh2)
          have ch : ∀ M o, gSim M o r → f_X0_height o (nI (b * 4 + s)) M = some (nI (hN r (b * 4 + s))) ∧ f_X0_height o (nI (b * 4 + s2)) M = some (nI (hN r (b * 4 + s2))) := fun M o g => by
            rw [sim_height g w hp, sim_height g w hp2, hh, hh2]
            exact ⟨rfl, rfl⟩
          by_cases ok : r (7 + b) = nI 1 ∧ hN r (b * 4 + s) ≠ 0 ∧ hN r (b * 4 + s2) < 5
          · obtain ⟨h1, h0, h5'⟩ := ok
            obtain ⟨h, hhe⟩ : ∃ h, hN r (b * 4 + s) = h + 1 := ⟨hN r (b * 4 + s) - 1, by omega⟩
            have hq : b * 4 + s2 ≠ b * 4 + s := by omega
            obtain ⟨hP', hA⟩ := mvR_all w hp hp2 hq hhe rfl h5'
            have w' := mvR_row w (by omega) hp hp2 hq hhe rfl h5'
            refine Or.inr ⟨_, _, w', fun M o g => ?_, fun M hM => m_move1 w hM hb hs hs2 hne h1 hhe rfl h5'⟩
            obtain ⟨c, hc, h75, hP, hpw⟩ := g.rows
            obtain ⟨ch1, ch2⟩ := ch M o g
            rcases c_topRow g w hc h75 hP hp with ⟨h9, -⟩ | ⟨-, j, hj, ht, htop⟩
            · exact absurd h9 h0
            · rw [hhe, Nat.add_sub_cancel] at ht
              have hcp := c_put hc h75 hj ch2
              have hid := s_id (M := ptM M o j (nI (b * 4 + s2)) (nI (hN r (b * 4 + s2)))) (o := o) (by rw [ptM_fr (by omega)]; exact hc) h75 hj
              rw [ptM_fr (show o + 2 < o + 5 ∨ o + 7 ≤ o + 2 by omega)] at hid
              have e2 : M (o + 2) j = r (34 + (5 * (b * 4 + s) + h)) := congrArg Prod.fst ht
              have hd : f_X5_shiftTop o (nI b) (nI s) (nI s2) M = some (r (34 + (5 * (b * 4 + s) + h)), ptM M o j (nI (b * 4 + s2)) (nI (hN r (b * 4 + s2)))) := by
                unfold f_X5_shiftTop
                simp (disch := omega) only [↓reduceIte, eq_self, Bool.true_eq_false, Bool.false_eq_true, q_seqr, q_seql, v_ig, v_ni, v_le, v_nle, v_lt, v_nlt, v_eq, v_ne, v_gbt, v_gbf, v_gbd, v_m1lt, v_m1ge, v_m1ne, v_m1e, ↓q_bindD, ↓q_gLet, Option.isSome_some, Option.getD_some, nI_add, pk_mul, q_sub, q_m1, q_div, q_modN, nI_clamp, if_true, if_false, q_l0, q_l1, q_l2, q_l3, q_l4, q_l5, q_l6, q_l7, q_l8, q_l9, q_l10, q_l11, q_l12, q_l13, q_l14, q_l15, q_l16, q_l19, q_l20, q_l22, q_l24, q_l30, q_l32, q_l34, q_l36, q_l45, q_l47, q_l48, q_l57, q_l58, q_l59, q_l60, q_l61, q_l66, q_l75, q_l76, q_l94, q_l97, q_l99, q_l100, q_l101, q_l104, q_l105, q_l108, q_l109, q_l111, q_l114, q_l115, q_l116, q_l117, q_l118, q_l119, q_l120, q_l126, q_l132, q_l133, q_l135, q_l136, q_l138, q_l146, q_l147, q_l148, q_l149, q_l150, q_l151, q_l152, q_l153, q_l154, q_l155, q_l156, q_l157, q_l158, q_l214, q_l229, q_l244, q_l259, q_l300, q_l999, q_l1813, q_l2072, q_l10000, q_l65536, q_l1000000000, c_pileOf, htop, hcp, hid, e2]
              refine ⟨?_, ptM M o j (nI (b * 4 + s2)) (nI (hN r (b * 4 + s2))), hd, ?_, ?_, ?_⟩
              · rcases sim_ship g w hb with ⟨h3, -⟩ | ⟨-, hsh, -⟩
                · rw [h1] at h3; exact absurd h3 (by decide)
                · unfold f_X5_movingFault
                  simp (disch := omega) only [↓reduceIte, eq_self, Bool.true_eq_false, Bool.false_eq_true, q_seqr, q_seql, v_ig, v_ni, v_le, v_nle, v_lt, v_nlt, v_eq, v_ne, v_gbt, v_gbf, v_gbd, v_m1lt, v_m1ge, v_m1ne, v_m1e, ↓q_bindD, ↓q_gLet, Option.isSome_some, Option.getD_some, nI_add, pk_mul, q_sub, q_m1, q_div, q_modN, nI_clamp, if_true, if_false, q_l0, q_l1, q_l2, q_l3, q_l4, q_l5, q_l6, q_l7, q_l8, q_l9, q_l10, q_l11, q_l12, q_l13, q_l14, q_l15, q_l16, q_l19, q_l20, q_l22, q_l24, q_l30, q_l32, q_l34, q_l36, q_l45, q_l47, q_l48, q_l57, q_l58, q_l59, q_l60, q_l61, q_l66, q_l75, q_l76, q_l94, q_l97, q_l99, q_l100, q_l101, q_l104, q_l105, q_l108, q_l109, q_l111, q_l114, q_l115, q_l116, q_l117, q_l118, q_l119, q_l120, q_l126, q_l132, q_l133, q_l135, q_l136, q_l138, q_l146, q_l147, q_l148, q_l149, q_l150, q_l151, q_l152, q_l153, q_l154, q_l155, q_l156, q_l157, q_l158, q_l214, q_l229, q_l244, q_l259, q_l300, q_l999, q_l1813, q_l2072, q_l10000, q_l65536, q_l1000000000, c_isBerth hb, c_isStack hs, c_isStack hs2, c_pileOf, ch1, ch2, hsh]
              · show (f_X5_shiftTop o (nI b) (nI s) (nI s2) M).bind (fun p => some p.2) = _
                rw [hd, Option.bind_some]
              · intro i hi
                exact ptM_fr (by omega)
              · have o' : ∀ i, i < 22 → mvR r (b * 4 + s) h (b * 4 + s2) (hN r (b * 4 + s2)) i = r i := fun i hi => mvR_o hp2 h5' (Or.inl hi) hp
                refine gSim_list (c := c) g (fun a h1 h2 => ptM_fr (by omega)) (fun i hi => o' i (by omega)) ?_ ?_ h75 ?_ ?_
                · rw [ptM_fr (by omega), o' 0 (by omega), o' 2 (by omega), o' 1 (by omega), o' 3 (by omega), o' 4 (by omega), o' 5 (by omega)]
                  exact g.1
                · rw [ptM_fr (by omega)]
                  exact hc
                · exact ptM_perm hj ht (hP.trans hP') hA
                · exact rows_pw (ptM_fr (by omega)) hpw
          · refine Or.inl ⟨3, by omega, ⟨rfl, by decide⟩, fun M o g => ?_, fun M hM => ?_⟩
            · obtain ⟨ch1, ch2⟩ := ch M o g
              unfold f_X5_movingFault
              rcases sim_ship g w hb with ⟨h3, hsh⟩ | ⟨h3, hsh, -⟩
              · by_cases c1 : hN r (b * 4 + s) = 0
                · by_cases c2 : hN r (b * 4 + s2) < 5
                  · simp (disch := omega) only [↓reduceIte, eq_self, Bool.true_eq_false, Bool.false_eq_true, q_seqr, q_seql, v_ig, v_ni, v_le, v_nle, v_lt, v_nlt, v_eq, v_ne, v_gbt, v_gbf, v_gbd, v_m1lt, v_m1ge, v_m1ne, v_m1e, ↓q_bindD, ↓q_gLet, Option.isSome_some, Option.getD_some, nI_add, pk_mul, q_sub, q_m1, q_div, q_modN, nI_clamp, if_true, if_false, q_l0, q_l1, q_l2, q_l3, q_l4, q_l5, q_l6, q_l7, q_l8, q_l9, q_l10, q_l11, q_l12, q_l13, q_l14, q_l15, q_l16, q_l19, q_l20, q_l22, q_l24, q_l30, q_l32, q_l34, q_l36, q_l45, q_l47, q_l48, q_l57, q_l58, q_l59, q_l60, q_l61, q_l66, q_l75, q_l76, q_l94, q_l97, q_l99, q_l100, q_l101, q_l104, q_l105, q_l108, q_l109, q_l111, q_l114, q_l115, q_l116, q_l117, q_l118, q_l119, q_l120, q_l126, q_l132, q_l133, q_l135, q_l136, q_l138, q_l146, q_l147, q_l148, q_l149, q_l150, q_l151, q_l152, q_l153, q_l154, q_l155, q_l156, q_l157, q_l158, q_l214, q_l229, q_l244, q_l259, q_l300, q_l999, q_l1813, q_l2072, q_l10000, q_l65536, q_l1000000000, c_isBerth hb, c_isStack hs, c_isStack hs2, c_pileOf, ch1, ch2, hsh]
                  · simp (disch := omega) only [↓reduceIte, eq_self, Bool.true_eq_false, Bool.false_eq_true, q_seqr, q_seql, v_ig, v_ni, v_le, v_nle, v_lt, v_nlt, v_eq, v_ne, v_gbt, v_gbf, v_gbd, v_m1lt, v_m1ge, v_m1ne, v_m1e, ↓q_bindD, ↓q_gLet, Option.isSome_some, Option.getD_some, nI_add, pk_mul, q_sub, q_m1, q_div, q_modN, nI_clamp, if_true, if_false, q_l0, q_l1, q_l2, q_l3, q_l4, q_l5, q_l6, q_l7, q_l8, q_l9, q_l10, q_l11, q_l12, q_l13, q_l14, q_l15, q_l16, q_l19, q_l20, q_l22, q_l24, q_l30, q_l32, q_l34, q_l36, q_l45, q_l47, q_l48, q_l57, q_l58, q_l59, q_l60, q_l61, q_l66, q_l75, q_l76, q_l94, q_l97, q_l99, q_l100, q_l101, q_l104, q_l105, q_l108, q_l109, q_l111, q_l114, q_l115, q_l116, q_l117, q_l118, q_l119, q_l120, q_l126, q_l132, q_l133, q_l135, q_l136, q_l138, q_l146, q_l147, q_l148, q_l149, q_l150, q_l151, q_l152, q_l153, q_l154, q_l155, q_l156, q_l157, q_l158, q_l214, q_l229, q_l244, q_l259, q_l300, q_l999, q_l1813, q_l2072, q_l10000, q_l65536, q_l1000000000, c_isBerth hb, c_isStack hs, c_isStack hs2, c_pileOf, ch1, ch2, hsh]
                · by_cases c2 : hN r (b * 4 + s2) < 5
                  · simp (disch := omega) only [↓reduceIte, eq_self, Bool.true_eq_false, Bool.false_eq_true, q_seqr, q_seql, v_ig, v_ni, v_le, v_nle, v_lt, v_nlt, v_eq, v_ne, v_gbt, v_gbf, v_gbd, v_m1lt, v_m1ge, v_m1ne, v_m1e, ↓q_bindD, ↓q_gLet, Option.isSome_some, Option.getD_some, nI_add, pk_mul, q_sub, q_m1, q_div, q_modN, nI_clamp, if_true, if_false, q_l0, q_l1, q_l2, q_l3, q_l4, q_l5, q_l6, q_l7, q_l8, q_l9, q_l10, q_l11, q_l12, q_l13, q_l14, q_l15, q_l16, q_l19, q_l20, q_l22, q_l24, q_l30, q_l32, q_l34, q_l36, q_l45, q_l47, q_l48, q_l57, q_l58, q_l59, q_l60, q_l61, q_l66, q_l75, q_l76, q_l94, q_l97, q_l99, q_l100, q_l101, q_l104, q_l105, q_l108, q_l109, q_l111, q_l114, q_l115, q_l116, q_l117, q_l118, q_l119, q_l120, q_l126, q_l132, q_l133, q_l135, q_l136, q_l138, q_l146, q_l147, q_l148, q_l149, q_l150, q_l151, q_l152, q_l153, q_l154, q_l155, q_l156, q_l157, q_l158, q_l214, q_l229, q_l244, q_l259, q_l300, q_l999, q_l1813, q_l2072, q_l10000, q_l65536, q_l1000000000, c_isBerth hb, c_isStack hs, c_isStack hs2, c_pileOf, ch1, ch2, hsh]
                  · simp (disch := omega) only [↓reduceIte, eq_self, Bool.true_eq_false, Bool.false_eq_true, q_seqr, q_seql, v_ig, v_ni, v_le, v_nle, v_lt, v_nlt, v_eq, v_ne, v_gbt, v_gbf, v_gbd, v_m1lt, v_m1ge, v_m1ne, v_m1e, ↓q_bindD, ↓q_gLet, Option.isSome_some, Option.getD_some, nI_add, pk_mul, q_sub, q_m1, q_div, q_modN, nI_clamp, if_true, if_false, q_l0, q_l1, q_l2, q_l3, q_l4, q_l5, q_l6, q_l7, q_l8, q_l9, q_l10, q_l11, q_l12, q_l13, q_l14, q_l15, q_l16, q_l19, q_l20, q_l22, q_l24, q_l30, q_l32, q_l34, q_l36, q_l45, q_l47, q_l48, q_l57, q_l58, q_l59, q_l60, q_l61, q_l66, q_l75, q_l76, q_l94, q_l97, q_l99, q_l100, q_l101, q_l104, q_l105, q_l108, q_l109, q_l111, q_l114, q_l115, q_l116, q_l117, q_l118, q_l119, q_l120, q_l126, q_l132, q_l133, q_l135, q_l136, q_l138, q_l146, q_l147, q_l148, q_l149, q_l150, q_l151, q_l152, q_l153, q_l154, q_l155, q_l156, q_l157, q_l158, q_l214, q_l229, q_l244, q_l259, q_l300, q_l999, q_l1813, q_l2072, q_l10000, q_l65536, q_l1000000000, c_isBerth hb, c_isStack hs, c_isStack hs2, c_pileOf, ch1, ch2, hsh]
              · by_cases c1 : hN r (b * 4 + s) = 0
                · by_cases c2 : hN r (b * 4 + s2) < 5
                  · simp (disch := omega) only [↓reduceIte, eq_self, Bool.true_eq_false, Bool.false_eq_true, q_seqr, q_seql, v_ig, v_ni, v_le, v_nle, v_lt, v_nlt, v_eq, v_ne, v_gbt, v_gbf, v_gbd, v_m1lt, v_m1ge, v_m1ne, v_m1e, ↓q_bindD, ↓q_gLet, Option.isSome_some, Option.getD_some, nI_add, pk_mul, q_sub, q_m1, q_div, q_modN, nI_clamp, if_true, if_false, q_l0, q_l1, q_l2, q_l3, q_l4, q_l5, q_l6, q_l7, q_l8, q_l9, q_l10, q_l11, q_l12, q_l13, q_l14, q_l15, q_l16, q_l19, q_l20, q_l22, q_l24, q_l30, q_l32, q_l34, q_l36, q_l45, q_l47, q_l48, q_l57, q_l58, q_l59, q_l60, q_l61, q_l66, q_l75, q_l76, q_l94, q_l97, q_l99, q_l100, q_l101, q_l104, q_l105, q_l108, q_l109, q_l111, q_l114, q_l115, q_l116, q_l117, q_l118, q_l119, q_l120, q_l126, q_l132, q_l133, q_l135, q_l136, q_l138, q_l146, q_l147, q_l148, q_l149, q_l150, q_l151, q_l152, q_l153, q_l154, q_l155, q_l156, q_l157, q_l158, q_l214, q_l229, q_l244, q_l259, q_l300, q_l999, q_l1813, q_l2072, q_l10000, q_l65536, q_l1000000000, c_isBerth hb, c_isStack hs, c_isStack hs2, c_pileOf, ch1, ch2, hsh]
                  · simp (disch := omega) only [↓reduceIte, eq_self, Bool.true_eq_false, Bool.false_eq_true, q_seqr, q_seql, v_ig, v_ni, v_le, v_nle, v_lt, v_nlt, v_eq, v_ne, v_gbt, v_gbf, v_gbd, v_m1lt, v_m1ge, v_m1ne, v_m1e, ↓q_bindD, ↓q_gLet, Option.isSome_some, Option.getD_some, nI_add, pk_mul, q_sub, q_m1, q_div, q_modN, nI_clamp, if_true, if_false, q_l0, q_l1, q_l2, q_l3, q_l4, q_l5, q_l6, q_l7, q_l8, q_l9, q_l10, q_l11, q_l12, q_l13, q_l14, q_l15, q_l16, q_l19, q_l20, q_l22, q_l24, q_l30, q_l32, q_l34, q_l36, q_l45, q_l47, q_l48, q_l57, q_l58, q_l59, q_l60, q_l61, q_l66, q_l75, q_l76, q_l94, q_l97, q_l99, q_l100, q_l101, q_l104, q_l105, q_l108, q_l109, q_l111, q_l114, q_l115, q_l116, q_l117, q_l118, q_l119, q_l120, q_l126, q_l132, q_l133, q_l135, q_l136, q_l138, q_l146, q_l147, q_l148, q_l149, q_l150, q_l151, q_l152, q_l153, q_l154, q_l155, q_l156, q_l157, q_l158, q_l214, q_l229, q_l244, q_l259, q_l300, q_l999, q_l1813, q_l2072, q_l10000, q_l65536, q_l1000000000, c_isBerth hb, c_isStack hs, c_isStack hs2, c_pileOf, ch1, ch2, hsh]
                · have c2 : ¬ hN r (b * 4 + s2) < 5 := fun q => ok ⟨h3, c1, q⟩
                  simp (disch := omega) only [↓reduceIte, eq_self, Bool.true_eq_false, Bool.false_eq_true, q_seqr, q_seql, v_ig, v_ni, v_le, v_nle, v_lt, v_nlt, v_eq, v_ne, v_gbt, v_gbf, v_gbd, v_m1lt, v_m1ge, v_m1ne, v_m1e, ↓q_bindD, ↓q_gLet, Option.isSome_some, Option.getD_some, nI_add, pk_mul, q_sub, q_m1, q_div, q_modN, nI_clamp, if_true, if_false, q_l0, q_l1, q_l2, q_l3, q_l4, q_l5, q_l6, q_l7, q_l8, q_l9, q_l10, q_l11, q_l12, q_l13, q_l14, q_l15, q_l16, q_l19, q_l20, q_l22, q_l24, q_l30, q_l32, q_l34, q_l36, q_l45, q_l47, q_l48, q_l57, q_l58, q_l59, q_l60, q_l61, q_l66, q_l75, q_l76, q_l94, q_l97, q_l99, q_l100, q_l101, q_l104, q_l105, q_l108, q_l109, q_l111, q_l114, q_l115, q_l116, q_l117, q_l118, q_l119, q_l120, q_l126, q_l132, q_l133, q_l135, q_l136, q_l138, q_l146, q_l147, q_l148, q_l149, q_l150, q_l151, q_l152, q_l153, q_l154, q_l155, q_l156, q_l157, q_l158, q_l214, q_l229, q_l244, q_l259, q_l300, q_l999, q_l1813, q_l2072, q_l10000, q_l65536, q_l1000000000, c_isBerth hb, c_isStack hs, c_isStack hs2, c_pileOf, ch1, ch2, hsh]
            · have m1 := mh M hM
              have m2 := mh2 M hM
              unfold f_X7_moves
              rcases w.b hb with h0 | ⟨h1, -⟩
              · simp (disch := omega) only [↓reduceIte, eq_self, Bool.true_eq_false, Bool.false_eq_true, q_seqr, q_seql, v_ig, v_ni, v_le, v_nle, v_lt, v_nlt, v_eq, v_ne, v_gbt, v_gbf, v_gbd, v_m1lt, v_m1ge, v_m1ne, v_m1e, ↓q_bindD, ↓q_gLet, Option.isSome_some, Option.getD_some, nI_add, pk_mul, q_sub, q_m1, q_div, q_modN, nI_clamp, if_true, if_false, q_l0, q_l1, q_l2, q_l3, q_l4, q_l5, q_l6, q_l7, q_l8, q_l9, q_l10, q_l11, q_l12, q_l13, q_l14, q_l15, q_l16, q_l19, q_l20, q_l22, q_l24, q_l30, q_l32, q_l34, q_l36, q_l45, q_l47, q_l48, q_l57, q_l58, q_l59, q_l60, q_l61, q_l66, q_l75, q_l76, q_l94, q_l97, q_l99, q_l100, q_l101, q_l104, q_l105, q_l108, q_l109, q_l111, q_l114, q_l115, q_l116, q_l117, q_l118, q_l119, q_l120, q_l126, q_l132, q_l133, q_l135, q_l136, q_l138, q_l146, q_l147, q_l148, q_l149, q_l150, q_l151, q_l152, q_l153, q_l154, q_l155, q_l156, q_l157, q_l158, q_l214, q_l229, q_l244, q_l259, q_l300, q_l999, q_l1813, q_l2072, q_l10000, q_l65536, q_l1000000000, m_done, m_fails, m_thrown, m_th, gs_same, q_gsgs, c_raise0, c_raise1, c_raise2, c_raise3, c_raise4, m_isStack hb hs, m_isStack hb hs2, hM, h0]
              · by_cases c1 : hN r (b * 4 + s) = 0
                · simp (disch := omega) only [↓reduceIte, eq_self, Bool.true_eq_false, Bool.false_eq_true, q_seqr, q_seql, v_ig, v_ni, v_le, v_nle, v_lt, v_nlt, v_eq, v_ne, v_gbt, v_gbf, v_gbd, v_m1lt, v_m1ge, v_m1ne, v_m1e, ↓q_bindD, ↓q_gLet, Option.isSome_some, Option.getD_some, nI_add, pk_mul, q_sub, q_m1, q_div, q_modN, nI_clamp, if_true, if_false, q_l0, q_l1, q_l2, q_l3, q_l4, q_l5, q_l6, q_l7, q_l8, q_l9, q_l10, q_l11, q_l12, q_l13, q_l14, q_l15, q_l16, q_l19, q_l20, q_l22, q_l24, q_l30, q_l32, q_l34, q_l36, q_l45, q_l47, q_l48, q_l57, q_l58, q_l59, q_l60, q_l61, q_l66, q_l75, q_l76, q_l94, q_l97, q_l99, q_l100, q_l101, q_l104, q_l105, q_l108, q_l109, q_l111, q_l114, q_l115, q_l116, q_l117, q_l118, q_l119, q_l120, q_l126, q_l132, q_l133, q_l135, q_l136, q_l138, q_l146, q_l147, q_l148, q_l149, q_l150, q_l151, q_l152, q_l153, q_l154, q_l155, q_l156, q_l157, q_l158, q_l214, q_l229, q_l244, q_l259, q_l300, q_l999, q_l1813, q_l2072, q_l10000, q_l65536, q_l1000000000, m_done, m_fails, m_thrown, m_th, gs_same, q_gsgs, c_raise0, c_raise1, c_raise2, c_raise3, c_raise4, m_isStack hb hs, m_isStack hb hs2, hM, h1, m1]
                · have c2 : ¬ hN r (b * 4 + s2) < 5 := fun q => ok ⟨h1, c1, q⟩
                  simp (disch := omega) only [↓reduceIte, eq_self, Bool.true_eq_false, Bool.false_eq_true, q_seqr, q_seql, v_ig, v_ni, v_le, v_nle, v_lt, v_nlt, v_eq, v_ne, v_gbt, v_gbf, v_gbd, v_m1lt, v_m1ge, v_m1ne, v_m1e, ↓q_bindD, ↓q_gLet, Option.isSome_some, Option.getD_some, nI_add, pk_mul, q_sub, q_m1, q_div, q_modN, nI_clamp, if_true, if_false, q_l0, q_l1, q_l2, q_l3, q_l4, q_l5, q_l6, q_l7, q_l8, q_l9, q_l10, q_l11, q_l12, q_l13, q_l14, q_l15, q_l16, q_l19, q_l20, q_l22, q_l24, q_l30, q_l32, q_l34, q_l36, q_l45, q_l47, q_l48, q_l57, q_l58, q_l59, q_l60, q_l61, q_l66, q_l75, q_l76, q_l94, q_l97, q_l99, q_l100, q_l101, q_l104, q_l105, q_l108, q_l109, q_l111, q_l114, q_l115, q_l116, q_l117, q_l118, q_l119, q_l120, q_l126, q_l132, q_l133, q_l135, q_l136, q_l138, q_l146, q_l147, q_l148, q_l149, q_l150, q_l151, q_l152, q_l153, q_l154, q_l155, q_l156, q_l157, q_l158, q_l214, q_l229, q_l244, q_l259, q_l300, q_l999, q_l1813, q_l2072, q_l10000, q_l65536, q_l1000000000, m_done, m_fails, m_thrown, m_th, gs_same, q_gsgs, c_raise0, c_raise1, c_raise2, c_raise3, c_raise4, m_isStack hb hs, m_isStack hb hs2, hM, h1, m1, m2]
      · refine Or.inl ⟨1, by omega, ⟨rfl, by decide⟩, fun M o g => ?_, fun M hM => ?_⟩
        · unfold f_X5_movingFault
          simp (disch := omega) only [↓reduceIte, eq_self, Bool.true_eq_false, Bool.false_eq_true, q_seqr, q_seql, v_ig, v_ni, v_le, v_nle, v_lt, v_nlt, v_eq, v_ne, v_gbt, v_gbf, v_gbd, v_m1lt, v_m1ge, v_m1ne, v_m1e, ↓q_bindD, ↓q_gLet, Option.isSome_some, Option.getD_some, nI_add, pk_mul, q_sub, q_m1, q_div, q_modN, nI_clamp, if_true, if_false, q_l0, q_l1, q_l2, q_l3, q_l4, q_l5, q_l6, q_l7, q_l8, q_l9, q_l10, q_l11, q_l12, q_l13, q_l14, q_l15, q_l16, q_l19, q_l20, q_l22, q_l24, q_l30, q_l32, q_l34, q_l36, q_l45, q_l47, q_l48, q_l57, q_l58, q_l59, q_l60, q_l61, q_l66, q_l75, q_l76, q_l94, q_l97, q_l99, q_l100, q_l101, q_l104, q_l105, q_l108, q_l109, q_l111, q_l114, q_l115, q_l116, q_l117, q_l118, q_l119, q_l120, q_l126, q_l132, q_l133, q_l135, q_l136, q_l138, q_l146, q_l147, q_l148, q_l149, q_l150, q_l151, q_l152, q_l153, q_l154, q_l155, q_l156, q_l157, q_l158, q_l214, q_l229, q_l244, q_l259, q_l300, q_l999, q_l1813, q_l2072, q_l10000, q_l65536, q_l1000000000, c_isBerth hb, c_isStack hs, c_isStack_n hs2]
        · unfold f_X7_moves
          simp (disch := omega) only [↓reduceIte, eq_self, Bool.true_eq_false, Bool.false_eq_true, q_seqr, q_seql, v_ig, v_ni, v_le, v_nle, v_lt, v_nlt, v_eq, v_ne, v_gbt, v_gbf, v_gbd, v_m1lt, v_m1ge, v_m1ne, v_m1e, ↓q_bindD, ↓q_gLet, Option.isSome_some, Option.getD_some, nI_add, pk_mul, q_sub, q_m1, q_div, q_modN, nI_clamp, if_true, if_false, q_l0, q_l1, q_l2, q_l3, q_l4, q_l5, q_l6, q_l7, q_l8, q_l9, q_l10, q_l11, q_l12, q_l13, q_l14, q_l15, q_l16, q_l19, q_l20, q_l22, q_l24, q_l30, q_l32, q_l34, q_l36, q_l45, q_l47, q_l48, q_l57, q_l58, q_l59, q_l60, q_l61, q_l66, q_l75, q_l76, q_l94, q_l97, q_l99, q_l100, q_l101, q_l104, q_l105, q_l108, q_l109, q_l111, q_l114, q_l115, q_l116, q_l117, q_l118, q_l119, q_l120, q_l126, q_l132, q_l133, q_l135, q_l136, q_l138, q_l146, q_l147, q_l148, q_l149, q_l150, q_l151, q_l152, q_l153, q_l154, q_l155, q_l156, q_l157, q_l158, q_l214, q_l229, q_l244, q_l259, q_l300, q_l999, q_l1813, q_l2072, q_l10000, q_l65536, q_l1000000000, m_done, m_fails, m_thrown, m_th, gs_same, q_gsgs, c_raise0, c_raise1, c_raise2, c_raise3, c_raise4, m_isStack hb hs, m_isStack_n (Or.inr hs2)]
    · refine Or.inl ⟨1, by omega, ⟨rfl, by decide⟩, fun M o g => ?_, fun M hM => ?_⟩
      · unfold f_X5_movingFault
        simp (disch := omega) only [↓reduceIte, eq_self, Bool.true_eq_false, Bool.false_eq_true, q_seqr, q_seql, v_ig, v_ni, v_le, v_nle, v_lt, v_nlt, v_eq, v_ne, v_gbt, v_gbf, v_gbd, v_m1lt, v_m1ge, v_m1ne, v_m1e, ↓q_bindD, ↓q_gLet, Option.isSome_some, Option.getD_some, nI_add, pk_mul, q_sub, q_m1, q_div, q_modN, nI_clamp, if_true, if_false, q_l0, q_l1, q_l2, q_l3, q_l4, q_l5, q_l6, q_l7, q_l8, q_l9, q_l10, q_l11, q_l12, q_l13, q_l14, q_l15, q_l16, q_l19, q_l20, q_l22, q_l24, q_l30, q_l32, q_l34, q_l36, q_l45, q_l47, q_l48, q_l57, q_l58, q_l59, q_l60, q_l61, q_l66, q_l75, q_l76, q_l94, q_l97, q_l99, q_l100, q_l101, q_l104, q_l105, q_l108, q_l109, q_l111, q_l114, q_l115, q_l116, q_l117, q_l118, q_l119, q_l120, q_l126, q_l132, q_l133, q_l135, q_l136, q_l138, q_l146, q_l147, q_l148, q_l149, q_l150, q_l151, q_l152, q_l153, q_l154, q_l155, q_l156, q_l157, q_l158, q_l214, q_l229, q_l244, q_l259, q_l300, q_l999, q_l1813, q_l2072, q_l10000, q_l65536, q_l1000000000, c_isBerth hb, c_isStack_n hs]
      · unfold f_X7_moves
        simp (disch := omega) only [↓reduceIte, eq_self, Bool.true_eq_false, Bool.false_eq_true, q_seqr, q_seql, v_ig, v_ni, v_le, v_nle, v_lt, v_nlt, v_eq, v_ne, v_gbt, v_gbf, v_gbd, v_m1lt, v_m1ge, v_m1ne, v_m1e, ↓q_bindD, ↓q_gLet, Option.isSome_some, Option.getD_some, nI_add, pk_mul, q_sub, q_m1, q_div, q_modN, nI_clamp, if_true, if_false, q_l0, q_l1, q_l2, q_l3, q_l4, q_l5, q_l6, q_l7, q_l8, q_l9, q_l10, q_l11, q_l12, q_l13, q_l14, q_l15, q_l16, q_l19, q_l20, q_l22, q_l24, q_l30, q_l32, q_l34, q_l36, q_l45, q_l47, q_l48, q_l57, q_l58, q_l59, q_l60, q_l61, q_l66, q_l75, q_l76, q_l94, q_l97, q_l99, q_l100, q_l101, q_l104, q_l105, q_l108, q_l109, q_l111, q_l114, q_l115, q_l116, q_l117, q_l118, q_l119, q_l120, q_l126, q_l132, q_l133, q_l135, q_l136, q_l138, q_l146, q_l147, q_l148, q_l149, q_l150, q_l151, q_l152, q_l153, q_l154, q_l155, q_l156, q_l157, q_l158, q_l214, q_l229, q_l244, q_l259, q_l300, q_l999, q_l1813, q_l2072, q_l10000, q_l65536, q_l1000000000, m_done, m_fails, m_thrown, m_th, gs_same, q_gsgs, c_raise0, c_raise1, c_raise2, c_raise3, c_raise4, m_isStack_n (Or.inr hs)]
  · refine Or.inl ⟨1, by omega, ⟨rfl, by decide⟩, fun M o g => ?_, fun M hM => ?_⟩
    · unfold f_X5_movingFault
      simp (disch := omega) only [↓reduceIte, eq_self, Bool.true_eq_false, Bool.false_eq_true, q_seqr, q_seql, v_ig, v_ni, v_le, v_nle, v_lt, v_nlt, v_eq, v_ne, v_gbt, v_gbf, v_gbd, v_m1lt, v_m1ge, v_m1ne, v_m1e, ↓q_bindD, ↓q_gLet, Option.isSome_some, Option.getD_some, nI_add, pk_mul, q_sub, q_m1, q_div, q_modN, nI_clamp, if_true, if_false, q_l0, q_l1, q_l2, q_l3, q_l4, q_l5, q_l6, q_l7, q_l8, q_l9, q_l10, q_l11, q_l12, q_l13, q_l14, q_l15, q_l16, q_l19, q_l20, q_l22, q_l24, q_l30, q_l32, q_l34, q_l36, q_l45, q_l47, q_l48, q_l57, q_l58, q_l59, q_l60, q_l61, q_l66, q_l75, q_l76, q_l94, q_l97, q_l99, q_l100, q_l101, q_l104, q_l105, q_l108, q_l109, q_l111, q_l114, q_l115, q_l116, q_l117, q_l118, q_l119, q_l120, q_l126, q_l132, q_l133, q_l135, q_l136, q_l138, q_l146, q_l147, q_l148, q_l149, q_l150, q_l151, q_l152, q_l153, q_l154, q_l155, q_l156, q_l157, q_l158, q_l214, q_l229, q_l244, q_l259, q_l300, q_l999, q_l1813, q_l2072, q_l10000, q_l65536, q_l1000000000, c_isBerth_n hv]
    · unfold f_X7_moves
      simp (disch := omega) only [↓reduceIte, eq_self, Bool.true_eq_false, Bool.false_eq_true, q_seqr, q_seql, v_ig, v_ni, v_le, v_nle, v_lt, v_nlt, v_eq, v_ne, v_gbt, v_gbf, v_gbd, v_m1lt, v_m1ge, v_m1ne, v_m1e, ↓q_bindD, ↓q_gLet, Option.isSome_some, Option.getD_some, nI_add, pk_mul, q_sub, q_m1, q_div, q_modN, nI_clamp, if_true, if_false, q_l0, q_l1, q_l2, q_l3, q_l4, q_l5, q_l6, q_l7, q_l8, q_l9, q_l10, q_l11, q_l12, q_l13, q_l14, q_l15, q_l16, q_l19, q_l20, q_l22, q_l24, q_l30, q_l32, q_l34, q_l36, q_l45, q_l47, q_l48, q_l57, q_l58, q_l59, q_l60, q_l61, q_l66, q_l75, q_l76, q_l94, q_l97, q_l99, q_l100, q_l101, q_l104, q_l105, q_l108, q_l109, q_l111, q_l114, q_l115, q_l116, q_l117, q_l118, q_l119, q_l120, q_l126, q_l132, q_l133, q_l135, q_l136, q_l138, q_l146, q_l147, q_l148, q_l149, q_l150, q_l151, q_l152, q_l153, q_l154, q_l155, q_l156, q_l157, q_l158, q_l214, q_l229, q_l244, q_l259, q_l300, q_l999, q_l1813, q_l2072, q_l10000, q_l65536, q_l1000000000, m_done, m_fails, m_thrown, m_th, gs_same, q_gsgs, c_raise0, c_raise1, c_raise2, c_raise3, c_raise4, m_isStack_n (Or.inl hv)]
end TM
