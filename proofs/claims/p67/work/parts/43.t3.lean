/-! Changes of the containers: what a row and a tie need, cells filled and emptied, the class's add and put, stow. -/
def tOK (x : Nat) (t : tC) : Prop := (∃ i, t.1 = nI i ∧ i < x) ∧ (∃ w, t.2.1 = nI w ∧ 1 ≤ w ∧ w ≤ 30) ∧ (∃ k, t.2.2.1 = nI k ∧ k ≤ 99)
theorem tOK.up {x y : Nat} {t : tC} (h : tOK x t) (hxy : x ≤ y) : tOK y t := by
  obtain ⟨⟨i, h1, h2⟩, h3⟩ := h
  exact ⟨⟨i, h1, by omega⟩, h3⟩
theorem gRow.ok {β : Nat} {r : Nat → Int32} (w : gRow β r) {t : tC} (h : t ∈ tAll r) : tOK (nxN r) t := w.t h
theorem gRow_mk {β x : Nat} {r r' : Nat → Int32} (w : gRow β r) (hk : ∀ k, k = 0 ∨ (7 ≤ k ∧ k < 22) → r' k = r k) (hh : ∀ p, p < 12 → ∃ n, r' (22 + p) = nI n ∧ n ≤ 5)
    (hy : ∃ n, r' 6 = nI n ∧ n ≤ 15) (hx : r' 1 = nI x) (hx2 : x ≤ β + 1) (hβ : β ≤ 600) (ht : ∀ t ∈ tAll r', tOK x t) (hd : ∃ d, r' 4 = nI d ∧ x = (tAll r').length + d) : gRow (β + 1) r' := by
  have ex : nxN r' = x := by unfold nxN; rw [hx]; exact nI_clamp (by omega)
  obtain ⟨n, hy1, hy2⟩ := hy
  have ey : yN r' = n := by unfold yN; rw [hy1]; exact nI_clamp (by omega)
  have w' := w.up (show β ≤ β + 1 by omega)
  refine ⟨?_, ⟨by rw [ex]; exact hx, by omega⟩, fun p hp => ?_, ⟨by rw [ey]; exact hy1, by omega⟩, fun b hb => ?_, fun b hb => ?_, fun t h => ?_, ?_⟩
  · rw [hk 0 (by omega)]; exact w'.hr
  · obtain ⟨n, h1, h2⟩ := hh p hp
    have : hN r' p = n := by unfold hN; rw [h1]; exact nI_clamp (by omega)
    rw [this]
    exact ⟨h1, h2⟩
  · rw [hk (7 + b) (by omega), hk (10 + b) (by omega), hk (13 + b) (by omega)]; exact w'.b hb
  · rw [hk (16 + b) (by omega), hk (19 + b) (by omega)]; exact w'.tl hb
  · rw [ex]; exact ht t h
  · rw [ex]; exact hd
theorem gSim_list {M M1 : gM} {o c : Nat} {r r' : Nat → Int32} (g : gSim M o r) (hM : ∀ a, o + 8 ≤ a → a ≤ o + 11 → M1 a = M a) (hk : ∀ k, 7 ≤ k ∧ k < 22 → r' k = r k)
    (h1 : M1 o 5 = r' 0 ∧ M1 o 6 = r' 2 ∧ M1 o 7 = r' 1 ∧ M1 o 8 = r' 3 ∧ M1 o 9 = r' 4 ∧ M1 o 10 = r' 5) (hc : M1 (o + 1) 6 = nI c) (h75 : c ≤ 75)
    (hP : (tRows M1 o c).Perm (tAll r')) (hp : (tRows M1 o c).Pairwise (fun x y => x.1 < y.1)) : gSim M1 o r' := by
  refine ⟨h1, fun b hb => ?_, fun b hb => ?_, c, hc, h75, hP, hp⟩
  · rw [hM (o + 8) (by omega) (by omega), hM (o + 9) (by omega) (by omega), hk (7 + b) (by omega), hk (10 + b) (by omega), hk (13 + b) (by omega)]
    exact g.2.1 b hb
  · rw [hM (o + 10) (by omega) (by omega), hM (o + 11) (by omega) (by omega), hk (16 + b) (by omega), hk (19 + b) (by omega)]
    exact g.2.2.1 b hb
/-- one pile is higher by one in hi than in lo: its new top is the one new container -/
theorem ship_up {lo hi : Nat → Int32} {p h : Nat} (hp : p < 12) (h5 : h < 5) (hl : hN lo p = h) (hh : hN hi p = h + 1) (ho : ∀ p', p' < 12 → p' ≠ p → hN hi p' = hN lo p')
    (hc : ∀ c, c < 60 → c ≠ 5 * p + h → fullB lo c = true → tCell hi c = tCell lo c) : (tShip hi).Perm (tCell hi (5 * p + h) :: tShip lo) := by
  have hP : fullB lo (5 * p + h) = false := by
    unfold fullB
    rw [show (5 * p + h) / 5 = p by omega, show (5 * p + h) % 5 = h by omega, hl]
    exact decide_eq_false (by omega)
  have hF : ((List.range 60).filter (fullB hi)).Perm ((5 * p + h) :: (List.range 60).filter (fullB lo)) := by
    refine q_permIns List.nodup_range (List.mem_range.mpr (by omega)) hP (fun c hc => ?_)
    have hc := List.mem_range.mp hc
    unfold fullB
    by_cases e : c / 5 = p
    · rw [e, hl, hh]
      have : (c % 5 < h + 1) ↔ (c % 5 < h ∨ c = 5 * p + h) := by omega
      simp [this]
    · rw [ho (c / 5) (by omega) e]
      have : ¬ c = 5 * p + h := by omega
      simp [this]
  unfold tShip
  refine (hF.map (tCell hi)).trans ?_
  rw [List.map_cons]
  have : ((List.range 60).filter (fullB lo)).map (tCell hi) = ((List.range 60).filter (fullB lo)).map (tCell lo) := by
    apply List.map_congr_left
    intro c hcm
    obtain ⟨h1, h2⟩ := List.mem_filter.mp hcm
    exact hc c (List.mem_range.mp h1) (fun e => by rw [e, hP] at h2; cases h2) h2
  rw [this]
theorem ldN_20 {r : Nat → Int32} {β : Nat} (w : gRow β r) : (tAll r).length ≤ 75 := by
  have := all_len w
  have := ldN_le w (b := 0) (by omega)
  have := ldN_le w (b := 1) (by omega)
  have := ldN_le w (b := 2) (by omega)
  have := w.y.2
  omega
/-! the class's add -/
def adM (M : gM) (o c : Nat) (v u k p h : Int32) : gM := gs (gs (gs (gs (gs (gs M (o + 2) c v) (o + 3) c u) (o + 4) c k) (o + 5) c p) (o + 6) c h) (o + 1) 6 (nI (c + 1))
theorem adM_fr {M : gM} {o c : Nat} {v u k p h : Int32} {a : Nat} (ha : a < o + 1 ∨ o + 7 ≤ a) : adM M o c v u k p h a = M a := by
  unfold adM
  rw [q_gsn (by omega), q_gsn (by omega), q_gsn (by omega), q_gsn (by omega), q_gsn (by omega), q_gsn (by omega)]
theorem adM_rows (M : gM) (o c : Nat) (v u k p h : Int32) : tRows (adM M o c v u k p h) o (c + 1) = tRows M o c ++ [(v, u, k, p, h)] := by
  unfold tRows
  rw [List.range_succ, List.map_append]
  congr 1
  · apply List.map_congr_left
    intro j hj
    have hj := List.mem_range.mp hj
    unfold tRow adM
    simp (disch := omega) only [q_gsn, q_gsk]
  · unfold tRow adM
    simp (disch := omega) only [q_gsn, q_gss, List.map_cons, List.map_nil]
theorem c_add {M : gM} {o c : Nat} {v u k p h : Int32} (hc : M (o + 1) 6 = nI c) (h75 : c < 75) (hh : f_X0_height o p M = some h) : f_X0_add o v u k p M = some (adM M o c v u k p h) := by
  unfold f_X0_add adM
  simp (disch := omega) only [q_seqr, q_seql, q_ig, q_ni, q_le, q_nle, q_lt, q_nlt, q_eq, q_ne, q_eqr, q_gbt, q_gbf, q_gbd, q_m1lt, q_m1ge, q_m1ne, q_m1eq, q_m1e, Option.bind_some, gLet, nI_add, pk_mul, q_sub, q_m1, q_div, q_modN, nI_clamp, if_true, if_false, Bool.false_eq_true, q_l0, q_l1, q_l2, q_l3, q_l4, q_l5, q_l6, q_l7, q_l8, q_l9, q_l10, q_l11, q_l12, q_l13, q_l14, q_l15, q_l16, q_l19, q_l20, q_l22, q_l24, q_l30, q_l32, q_l34, q_l36, q_l45, q_l47, q_l48, q_l57, q_l58, q_l59, q_l60, q_l61, q_l66, q_l75, q_l76, q_l94, q_l97, q_l99, q_l100, q_l101, q_l104, q_l105, q_l108, q_l109, q_l111, q_l114, q_l115, q_l116, q_l117, q_l118, q_l119, q_l120, q_l126, q_l132, q_l133, q_l135, q_l136, q_l138, q_l146, q_l147, q_l148, q_l149, q_l150, q_l151, q_l152, q_l153, q_l154, q_l155, q_l156, q_l157, q_l158, q_l214, q_l229, q_l244, q_l259, q_l300, q_l999, q_l1813, q_l2072, q_l10000, q_l65536, q_l1000000000, hc, hh, q_gsn]
/-! the reference's puts -/
def puR (r : Nat → Int32) (q : Nat) (v u k : Int32) (h : Nat) : Nat → Int32 := upd (upd (upd (upd r (34 + q) v) (94 + q) u) (154 + q) k) (22 + q / 5) (nI (h + 1))
theorem m_puts {M : gM} {r : Nat → Int32} {q h : Nat} {v u k : Int32} (hM : M 151 = r) (hq : q < 60) (hh : r (22 + q / 5) = nI h) (h5 : h < 100) : f_X7_puts (nI q) v u k M = some (gw M 151 (puR r q v u k h)) := by
  unfold f_X7_puts puR
  simp (disch := omega) only [q_seqr, q_seql, q_ig, q_ni, q_le, q_nle, q_lt, q_nlt, q_eq, q_ne, q_eqr, q_gbt, q_gbf, q_gbd, q_m1lt, q_m1ge, q_m1ne, q_m1eq, q_m1e, Option.bind_some, gLet, nI_add, pk_mul, q_sub, q_m1, q_div, q_modN, nI_clamp, if_true, if_false, Bool.false_eq_true, q_l0, q_l1, q_l2, q_l3, q_l4, q_l5, q_l6, q_l7, q_l8, q_l9, q_l10, q_l11, q_l12, q_l13, q_l14, q_l15, q_l16, q_l19, q_l20, q_l22, q_l24, q_l30, q_l32, q_l34, q_l36, q_l45, q_l47, q_l48, q_l57, q_l58, q_l59, q_l60, q_l61, q_l66, q_l75, q_l76, q_l94, q_l97, q_l99, q_l100, q_l101, q_l104, q_l105, q_l108, q_l109, q_l111, q_l114, q_l115, q_l116, q_l117, q_l118, q_l119, q_l120, q_l126, q_l132, q_l133, q_l135, q_l136, q_l138, q_l146, q_l147, q_l148, q_l149, q_l150, q_l151, q_l152, q_l153, q_l154, q_l155, q_l156, q_l157, q_l158, q_l214, q_l229, q_l244, q_l259, q_l300, q_l999, q_l1813, q_l2072, q_l10000, q_l65536, q_l1000000000, q_gs151, gw_same, gw_gw, hM, q_upn, hh]
theorem puR_o {r : Nat → Int32} {q h : Nat} {v u k : Int32} {j : Nat} (h1 : j ≠ 34 + q) (h2 : j ≠ 94 + q) (h3 : j ≠ 154 + q) (h4 : j ≠ 22 + q / 5) : puR r q v u k h j = r j := by
  unfold puR
  rw [q_upn h4, q_upn h3, q_upn h2, q_upn h1]
section TS
variable {r : Nat → Int32} {β : Nat}
theorem fullB_lt {r : Nat → Int32} {c : Nat} (h : fullB r c = true) : c % 5 < hN r (c / 5) := of_decide_eq_true h
/-- a container more on a pile -/
theorem puR_ship {r : Nat → Int32} {p h : Nat} {v u k : Int32} (hp : p < 12) (h5 : h < 5) (hl : hN r p = h) {r' : Nat → Int32} (hr : ∀ j, 22 ≤ j → r' j = puR r (5 * p + h) v u k h j) :
    (tShip r').Perm ((v, u, k, nI p, nI h) :: tShip r) := by
  have ed : (5 * p + h) / 5 = p := by omega
  have em : (5 * p + h) % 5 = h := by omega
  have e1 : hN r' p = h + 1 := by
    unfold hN
    rw [hr _ (by omega)]
    unfold puR
    rw [ed, q_ups rfl]
    exact nI_clamp (by omega)
  have := ship_up (lo := r) (hi := r') hp h5 hl e1 (fun p' hp' hne => hN_eq (by rw [hr _ (by omega), puR_o (by omega) (by omega) (by omega) (by omega)])) (fun c hc hne _ => by
    unfold tCell
    rw [hr _ (by omega), hr _ (by omega), hr _ (by omega), puR_o (by omega) (by omega) (by omega) (by omega), puR_o (by omega) (by omega) (by omega) (by omega), puR_o (by omega) (by omega) (by omega) (by omega)])
  have et : tCell r' (5 * p + h) = (v, u, k, nI p, nI h) := by
    unfold tCell
    rw [hr _ (by omega), hr _ (by omega), hr _ (by omega), ed, em]
    unfold puR
    simp (disch := omega) only [q_upn, q_ups]
  rw [et] at this
  exact this
def stR (r : Nat → Int32) (q : Nat) (u k : Int32) (h : Nat) : Nat → Int32 := upd (puR r q (r 1) u k h) 1 (nI (nxN r + 1))
theorem tYard_eq {r r' : Nat → Int32} (h6 : r' 6 = r 6) (h : ∀ j, 214 ≤ j → r' j = r j) : tYard r' = tYard r := by
  unfold tYard tYd yN
  rw [h6]
  have : (fun l => (r' (214 + l), r' (229 + l), r' (244 + l), nI 12, nI l)) = (fun l => (r (214 + l), r (229 + l), r (244 + l), nI 12, nI l)) := by
    funext l
    rw [h _ (by omega), h _ (by omega), h _ (by omega)]
  rw [this]
theorem stR_all {p h : Nat} {u k : Int32} (hp : p < 12) (h5 : h < 5) (hl : hN r p = h) : (tAll (stR r (5 * p + h) u k h)).Perm ((r 1, u, k, nI p, nI h) :: tAll r) := by
  have e1 := puR_ship (v := r 1) (u := u) (k := k) hp h5 hl (r' := stR r (5 * p + h) u k h) (fun j hj => q_upn (by omega))
  have e2 : tYard (stR r (5 * p + h) u k h) = tYard r := by
    refine tYard_eq ?_ (fun j hj => ?_)
    · unfold stR
      rw [q_upn (by omega), puR_o (by omega) (by omega) (by omega) (by omega)]
    · unfold stR
      rw [q_upn (by omega), puR_o (by omega) (by omega) (by omega) (by omega)]
  unfold tAll
  rw [e2]
  exact e1.append_right _
theorem stR_o {q h : Nat} {u k : Int32} {j : Nat} (h0 : j ≠ 1) (h22 : j < 22) : stR r q u k h j = r j := by
  unfold stR
  rw [q_upn h0, puR_o (by omega) (by omega) (by omega) (by omega)]
theorem stR_row (w : gRow β r) (hβ : β ≤ 600) {p h u k : Nat} (hp : p < 12) (h5 : h < 5) (hl : hN r p = h) (hu1 : 1 ≤ u) (hu : u ≤ 30) (hk : k ≤ 99) : gRow (β + 1) (stR r (5 * p + h) (nI u) (nI k) h) := by
  have hP := stR_all (u := nI u) (k := nI k) hp h5 hl
  have hn := w.nx
  obtain ⟨d, hd1, hd2⟩ := w.dl
  have e1 : stR r (5 * p + h) (nI u) (nI k) h 1 = nI (nxN r + 1) := q_ups rfl
  refine gRow_mk w (fun j hj => stR_o (by omega) (by omega)) (fun p' hp' => ?_) ⟨yN r, by rw [stR_o (by omega) (by omega)]; exact w.y.1, w.y.2⟩ e1 (by omega) hβ (fun t ht => ?_) ⟨d, by rw [stR_o (by omega) (by omega)]; exact hd1, ?_⟩
  · by_cases e : p' = p
    · subst e
      refine ⟨h + 1, ?_, by omega⟩
      unfold stR puR
      rw [q_upn (by omega), q_ups (by omega)]
    · refine ⟨hN r p', ?_, (w.h hp').2⟩
      unfold stR
      rw [q_upn (by omega), puR_o (by omega) (by omega) (by omega) (by omega)]
      exact (w.h hp').1
  · rcases List.mem_cons.mp (hP.mem_iff.mp ht) with rfl | ht
    · exact ⟨⟨nxN r, hn.1, by omega⟩, ⟨u, rfl, hu1, hu⟩, ⟨k, rfl, hk⟩⟩
    · exact (w.ok ht).up (by omega)
  · rw [hP.length_eq, List.length_cons]
    omega
theorem T_stow (w : gRow β r) (hβ : β ≤ 590) (v s u k : Int32) : gCmd β r (fun o M => f_X5_stowingFault o v s u k M) (fun o M => f_X5_putContainer o v s u k M) (fun o M => (f_X5_putContainer o v s u k M).bind fun p => some p.2) (fun M => f_X7_stows v s u k M) (fun f => f) kOAS := by
  rcases q_cases v 3 with ⟨b, hb, rfl⟩ | hv
  · rcases q_cases s 4 with ⟨s, hs, rfl⟩ | hs
    · have hp : b * 4 + s < 12 := by omega
      obtain ⟨hh, h5⟩ := w.h hp
      have eh : 5 * (b * 4 + s) + hN r (b * 4 + s) = 20 * b + 5 * s + hN r (b * 4 + s) := by omega
      rcases q_in3 u 1 30 (by omega) (by omega) with ⟨u, hu1, hu9, rfl⟩ | hu
      · rcases q_in3 k 0 99 (by omega) (by omega) with ⟨k, -, hk9, rfl⟩ | hk
        · have mh : ∀ M, M 151 = r → f_X7_height (nI b) (nI s) M = some (nI (hN r (b * 4 + s))) := fun M hM => by
            have := m_height (M := M) (by rw [hM]; exact w) hb hs
            rw [hM] at this
            exact this
          rcases w.b hb with h0 | ⟨h1, -⟩
          · refine Or.inl ⟨3, by omega, ⟨rfl, by decide⟩, fun M o g => ?_, fun M hM => ?_⟩
            · rcases sim_ship g w hb with ⟨-, h2⟩ | ⟨h3, -⟩
              · unfold f_X5_stowingFault
                simp (disch := omega) only [q_seqr, q_seql, q_ig, q_ni, q_le, q_nle, q_lt, q_nlt, q_eq, q_ne, q_eqr, q_gbt, q_gbf, q_gbd, q_m1lt, q_m1ge, q_m1ne, q_m1eq, q_m1e, Option.bind_some, gLet, nI_add, pk_mul, q_sub, q_m1, q_div, q_modN, nI_clamp, if_true, if_false, Bool.false_eq_true, q_l0, q_l1, q_l2, q_l3, q_l4, q_l5, q_l6, q_l7, q_l8, q_l9, q_l10, q_l11, q_l12, q_l13, q_l14, q_l15, q_l16, q_l19, q_l20, q_l22, q_l24, q_l30, q_l32, q_l34, q_l36, q_l45, q_l47, q_l48, q_l57, q_l58, q_l59, q_l60, q_l61, q_l66, q_l75, q_l76, q_l94, q_l97, q_l99, q_l100, q_l101, q_l104, q_l105, q_l108, q_l109, q_l111, q_l114, q_l115, q_l116, q_l117, q_l118, q_l119, q_l120, q_l126, q_l132, q_l133, q_l135, q_l136, q_l138, q_l146, q_l147, q_l148, q_l149, q_l150, q_l151, q_l152, q_l153, q_l154, q_l155, q_l156, q_l157, q_l158, q_l214, q_l229, q_l244, q_l259, q_l300, q_l999, q_l1813, q_l2072, q_l10000, q_l65536, q_l1000000000, c_isBerth hb, c_isStack hs, c_pileOf, sim_height g w hp, hh, h2]
                by_cases h9 : hN r (b * 4 + s) < 5
                · simp (disch := omega) only [q_seqr, q_seql, q_ig, q_ni, q_le, q_nle, q_lt, q_nlt, q_eq, q_ne, q_eqr, q_gbt, q_gbf, q_gbd, q_m1lt, q_m1ge, q_m1ne, q_m1eq, q_m1e, Option.bind_some, gLet, nI_add, pk_mul, q_sub, q_m1, q_div, q_modN, nI_clamp, if_true, if_false, Bool.false_eq_true, q_l0, q_l1, q_l2, q_l3, q_l4, q_l5, q_l6, q_l7, q_l8, q_l9, q_l10, q_l11, q_l12, q_l13, q_l14, q_l15, q_l16, q_l19, q_l20, q_l22, q_l24, q_l30, q_l32, q_l34, q_l36, q_l45, q_l47, q_l48, q_l57, q_l58, q_l59, q_l60, q_l61, q_l66, q_l75, q_l76, q_l94, q_l97, q_l99, q_l100, q_l101, q_l104, q_l105, q_l108, q_l109, q_l111, q_l114, q_l115, q_l116, q_l117, q_l118, q_l119, q_l120, q_l126, q_l132, q_l133, q_l135, q_l136, q_l138, q_l146, q_l147, q_l148, q_l149, q_l150, q_l151, q_l152, q_l153, q_l154, q_l155, q_l156, q_l157, q_l158, q_l214, q_l229, q_l244, q_l259, q_l300, q_l999, q_l1813, q_l2072, q_l10000, q_l65536, q_l1000000000]
                · simp (disch := omega) only [q_seqr, q_seql, q_ig, q_ni, q_le, q_nle, q_lt, q_nlt, q_eq, q_ne, q_eqr, q_gbt, q_gbf, q_gbd, q_m1lt, q_m1ge, q_m1ne, q_m1eq, q_m1e, Option.bind_some, gLet, nI_add, pk_mul, q_sub, q_m1, q_div, q_modN, nI_clamp, if_true, if_false, Bool.false_eq_true, q_l0, q_l1, q_l2, q_l3, q_l4, q_l5, q_l6, q_l7, q_l8, q_l9, q_l10, q_l11, q_l12, q_l13, q_l14, q_l15, q_l16, q_l19, q_l20, q_l22, q_l24, q_l30, q_l32, q_l34, q_l36, q_l45, q_l47, q_l48, q_l57, q_l58, q_l59, q_l60, q_l61, q_l66, q_l75, q_l76, q_l94, q_l97, q_l99, q_l100, q_l101, q_l104, q_l105, q_l108, q_l109, q_l111, q_l114, q_l115, q_l116, q_l117, q_l118, q_l119, q_l120, q_l126, q_l132, q_l133, q_l135, q_l136, q_l138, q_l146, q_l147, q_l148, q_l149, q_l150, q_l151, q_l152, q_l153, q_l154, q_l155, q_l156, q_l157, q_l158, q_l214, q_l229, q_l244, q_l259, q_l300, q_l999, q_l1813, q_l2072, q_l10000, q_l65536, q_l1000000000]
              · rw [h0] at h3; exact absurd h3 (by decide)
            · unfold f_X7_stows
              simp (disch := omega) only [q_seqr, q_seql, q_ig, q_ni, q_le, q_nle, q_lt, q_nlt, q_eq, q_ne, q_eqr, q_gbt, q_gbf, q_gbd, q_m1lt, q_m1ge, q_m1ne, q_m1eq, q_m1e, Option.bind_some, gLet, nI_add, pk_mul, q_sub, q_m1, q_div, q_modN, nI_clamp, if_true, if_false, Bool.false_eq_true, q_l0, q_l1, q_l2, q_l3, q_l4, q_l5, q_l6, q_l7, q_l8, q_l9, q_l10, q_l11, q_l12, q_l13, q_l14, q_l15, q_l16, q_l19, q_l20, q_l22, q_l24, q_l30, q_l32, q_l34, q_l36, q_l45, q_l47, q_l48, q_l57, q_l58, q_l59, q_l60, q_l61, q_l66, q_l75, q_l76, q_l94, q_l97, q_l99, q_l100, q_l101, q_l104, q_l105, q_l108, q_l109, q_l111, q_l114, q_l115, q_l116, q_l117, q_l118, q_l119, q_l120, q_l126, q_l132, q_l133, q_l135, q_l136, q_l138, q_l146, q_l147, q_l148, q_l149, q_l150, q_l151, q_l152, q_l153, q_l154, q_l155, q_l156, q_l157, q_l158, q_l214, q_l229, q_l244, q_l259, q_l300, q_l999, q_l1813, q_l2072, q_l10000, q_l65536, q_l1000000000, m_done, m_fails, m_thrown, m_th, gs_same, q_gsgs, c_raise0, c_raise1, c_raise2, c_raise3, c_raise4, m_isStack hb hs, m_in_t, mh M hM, hM, h0]
          · by_cases h9 : hN r (b * 4 + s) < 5
            · have w' := stR_row w (by omega) hp h9 rfl hu1 hu9 hk9
              refine Or.inr ⟨_, r 1, w', fun M o g => ?_, fun M hM => ?_⟩
              · obtain ⟨c, hc, h75, hP, hpw⟩ := g.rows
                have hlen := ldN_20 w'
                have hA := stR_all (r := r) (u := nI u) (k := nI k) hp h9 rfl
                have hP' : (tRows M o c ++ [(r 1, nI u, nI k, nI (b * 4 + s), nI (hN r (b * 4 + s)))]).Perm (tAll (stR r (5 * (b * 4 + s) + hN r (b * 4 + s)) (nI u) (nI k) (hN r (b * 4 + s)))) :=
                  List.perm_append_singleton _ _ |>.trans ((hP.cons _).trans hA.symm)
                have hc75 : c < 75 := by
                  have e1 := hP'.length_eq
                  rw [List.length_append, tRows_len] at e1
                  simp only [List.length_cons, List.length_nil] at e1
                  omega
                have hgt := sim_height g w hp
                rw [hh] at hgt
                have ha := c_add (v := M o 7) (u := nI u) (k := nI k) hc hc75 hgt
                have e7 : M o 7 = r 1 := g.1.2.2.1
                have hd : f_X5_putContainer o (nI b) (nI s) (nI u) (nI k) M = some (r 1, gs (adM M o c (r 1) (nI u) (nI k) (nI (b * 4 + s)) (nI (hN r (b * 4 + s)))) o 7 (nI (nxN r + 1))) := by
                  rw [e7] at ha
                  have e8 : r 1 + nI 1 = nI (nxN r + 1) := by rw [w.nx.1, nI_add]
                  unfold f_X5_putContainer
                  simp (disch := omega) only [q_seqr, q_seql, q_ig, q_ni, q_le, q_nle, q_lt, q_nlt, q_eq, q_ne, q_eqr, q_gbt, q_gbf, q_gbd, q_m1lt, q_m1ge, q_m1ne, q_m1eq, q_m1e, Option.bind_some, gLet, nI_add, pk_mul, q_sub, q_m1, q_div, q_modN, nI_clamp, if_true, if_false, Bool.false_eq_true, q_l0, q_l1, q_l2, q_l3, q_l4, q_l5, q_l6, q_l7, q_l8, q_l9, q_l10, q_l11, q_l12, q_l13, q_l14, q_l15, q_l16, q_l19, q_l20, q_l22, q_l24, q_l30, q_l32, q_l34, q_l36, q_l45, q_l47, q_l48, q_l57, q_l58, q_l59, q_l60, q_l61, q_l66, q_l75, q_l76, q_l94, q_l97, q_l99, q_l100, q_l101, q_l104, q_l105, q_l108, q_l109, q_l111, q_l114, q_l115, q_l116, q_l117, q_l118, q_l119, q_l120, q_l126, q_l132, q_l133, q_l135, q_l136, q_l138, q_l146, q_l147, q_l148, q_l149, q_l150, q_l151, q_l152, q_l153, q_l154, q_l155, q_l156, q_l157, q_l158, q_l214, q_l229, q_l244, q_l259, q_l300, q_l999, q_l1813, q_l2072, q_l10000, q_l65536, q_l1000000000, c_pileOf, e7, ha, adM_fr, e8]
                rcases sim_ship g w hb with ⟨h3, -⟩ | ⟨-, h2, -⟩
                · rw [h1] at h3; exact absurd h3 (by decide)
                · refine ⟨?_, _, hd, ?_, ?_, ?_⟩
                  · unfold f_X5_stowingFault
                    simp (disch := omega) only [q_seqr, q_seql, q_ig, q_ni, q_le, q_nle, q_lt, q_nlt, q_eq, q_ne, q_eqr, q_gbt, q_gbf, q_gbd, q_m1lt, q_m1ge, q_m1ne, q_m1eq, q_m1e, Option.bind_some, gLet, nI_add, pk_mul, q_sub, q_m1, q_div, q_modN, nI_clamp, if_true, if_false, Bool.false_eq_true, q_l0, q_l1, q_l2, q_l3, q_l4, q_l5, q_l6, q_l7, q_l8, q_l9, q_l10, q_l11, q_l12, q_l13, q_l14, q_l15, q_l16, q_l19, q_l20, q_l22, q_l24, q_l30, q_l32, q_l34, q_l36, q_l45, q_l47, q_l48, q_l57, q_l58, q_l59, q_l60, q_l61, q_l66, q_l75, q_l76, q_l94, q_l97, q_l99, q_l100, q_l101, q_l104, q_l105, q_l108, q_l109, q_l111, q_l114, q_l115, q_l116, q_l117, q_l118, q_l119, q_l120, q_l126, q_l132, q_l133, q_l135, q_l136, q_l138, q_l146, q_l147, q_l148, q_l149, q_l150, q_l151, q_l152, q_l153, q_l154, q_l155, q_l156, q_l157, q_l158, q_l214, q_l229, q_l244, q_l259, q_l300, q_l999, q_l1813, q_l2072, q_l10000, q_l65536, q_l1000000000, c_isBerth hb, c_isStack hs, c_pileOf, hgt, h2]
                  · show (f_X5_putContainer o (nI b) (nI s) (nI u) (nI k) M).bind (fun p => some p.2) = _
                    rw [hd, Option.bind_some]
                  · intro a ha
                    rw [q_gsn (by omega), adM_fr (by omega)]
                  · refine gSim_list (c := c + 1) g (fun a h1 h2 => by rw [q_gsn (by omega), adM_fr (by omega)]) (fun j hj => stR_o (by omega) (by omega)) ?_ ?_ (by omega) ?_ ?_
                    · rw [q_gsk (by omega), q_gsk (by omega), q_gss rfl, q_gsk (by omega), q_gsk (by omega), q_gsk (by omega), adM_fr (by omega), stR_o (j := 0) (by omega) (by omega), stR_o (j := 2) (by omega) (by omega), stR_o (j := 3) (by omega) (by omega), stR_o (j := 4) (by omega) (by omega), stR_o (j := 5) (by omega) (by omega)]
                      exact ⟨g.1.1, g.1.2.1, rfl, g.1.2.2.2⟩
                    · rw [q_gsn (by omega)]
                      unfold adM
                      rw [q_gss rfl]
                    · rw [tRows_frame (fun a h1 h2 => q_gsn (by omega)), adM_rows]
                      exact hP'
                    · rw [tRows_frame (fun a h1 h2 => q_gsn (by omega)), adM_rows]
                      refine List.pairwise_append.mpr ⟨hpw, List.pairwise_singleton _ _, fun x hx y hy => ?_⟩
                      rw [List.mem_singleton.mp hy]
                      obtain ⟨⟨i, hi1, hi2⟩, -⟩ := w.ok (hP.mem_iff.mp hx)
                      have hn := w.nx
                      show x.1 < r 1
                      rw [hi1, hn.1]
                      exact (nI_ltI (by omega) (by omega)).mpr hi2
              · have hn := w.nx
                have mp := m_puts (M := M) (q := 5 * (b * 4 + s) + hN r (b * 4 + s)) (h := hN r (b * 4 + s)) (v := r 1) (u := nI u) (k := nI k) hM (by omega) (by rw [show (5 * (b * 4 + s) + hN r (b * 4 + s)) / 5 = b * 4 + s by omega]; exact hh) (by omega)
                rw [eh] at mp ⊢
                have e1 : puR r (20 * b + 5 * s + hN r (b * 4 + s)) (r 1) (nI u) (nI k) (hN r (b * 4 + s)) 1 = nI (nxN r) := by rw [puR_o (by omega) (by omega) (by omega) (by omega)]; exact hn.1
                unfold f_X7_stows f_X7_cell
                simp (disch := omega) only [q_seqr, q_seql, q_ig, q_ni, q_le, q_nle, q_lt, q_nlt, q_eq, q_ne, q_eqr, q_gbt, q_gbf, q_gbd, q_m1lt, q_m1ge, q_m1ne, q_m1eq, q_m1e, Option.bind_some, gLet, nI_add, pk_mul, q_sub, q_m1, q_div, q_modN, nI_clamp, if_true, if_false, Bool.false_eq_true, q_l0, q_l1, q_l2, q_l3, q_l4, q_l5, q_l6, q_l7, q_l8, q_l9, q_l10, q_l11, q_l12, q_l13, q_l14, q_l15, q_l16, q_l19, q_l20, q_l22, q_l24, q_l30, q_l32, q_l34, q_l36, q_l45, q_l47, q_l48, q_l57, q_l58, q_l59, q_l60, q_l61, q_l66, q_l75, q_l76, q_l94, q_l97, q_l99, q_l100, q_l101, q_l104, q_l105, q_l108, q_l109, q_l111, q_l114, q_l115, q_l116, q_l117, q_l118, q_l119, q_l120, q_l126, q_l132, q_l133, q_l135, q_l136, q_l138, q_l146, q_l147, q_l148, q_l149, q_l150, q_l151, q_l152, q_l153, q_l154, q_l155, q_l156, q_l157, q_l158, q_l214, q_l229, q_l244, q_l259, q_l300, q_l999, q_l1813, q_l2072, q_l10000, q_l65536, q_l1000000000, m_done, m_fails, m_thrown, m_th, gs_same, q_gsgs, c_raise0, c_raise1, c_raise2, c_raise3, c_raise4, m_isStack hb hs, m_in_t, mh M hM, hM, h1, mp, q_gs151, gw_same, gw_gw, e1, q_ups]
                unfold stR
                rw [hn.1]
                rfl
            · refine Or.inl ⟨3, by omega, ⟨rfl, by decide⟩, fun M o g => ?_, fun M hM => ?_⟩
              · rcases sim_ship g w hb with ⟨h3, -⟩ | ⟨-, h2, -⟩
                · rw [h1] at h3; exact absurd h3 (by decide)
                · unfold f_X5_stowingFault
                  simp (disch := omega) only [q_seqr, q_seql, q_ig, q_ni, q_le, q_nle, q_lt, q_nlt, q_eq, q_ne, q_eqr, q_gbt, q_gbf, q_gbd, q_m1lt, q_m1ge, q_m1ne, q_m1eq, q_m1e, Option.bind_some, gLet, nI_add, pk_mul, q_sub, q_m1, q_div, q_modN, nI_clamp, if_true, if_false, Bool.false_eq_true, q_l0, q_l1, q_l2, q_l3, q_l4, q_l5, q_l6, q_l7, q_l8, q_l9, q_l10, q_l11, q_l12, q_l13, q_l14, q_l15, q_l16, q_l19, q_l20, q_l22, q_l24, q_l30, q_l32, q_l34, q_l36, q_l45, q_l47, q_l48, q_l57, q_l58, q_l59, q_l60, q_l61, q_l66, q_l75, q_l76, q_l94, q_l97, q_l99, q_l100, q_l101, q_l104, q_l105, q_l108, q_l109, q_l111, q_l114, q_l115, q_l116, q_l117, q_l118, q_l119, q_l120, q_l126, q_l132, q_l133, q_l135, q_l136, q_l138, q_l146, q_l147, q_l148, q_l149, q_l150, q_l151, q_l152, q_l153, q_l154, q_l155, q_l156, q_l157, q_l158, q_l214, q_l229, q_l244, q_l259, q_l300, q_l999, q_l1813, q_l2072, q_l10000, q_l65536, q_l1000000000, c_isBerth hb, c_isStack hs, c_pileOf, sim_height g w hp, hh, h2]
              · have h9 : hN r (b * 4 + s) = 5 := by omega
                unfold f_X7_stows
                simp (disch := omega) only [q_seqr, q_seql, q_ig, q_ni, q_le, q_nle, q_lt, q_nlt, q_eq, q_ne, q_eqr, q_gbt, q_gbf, q_gbd, q_m1lt, q_m1ge, q_m1ne, q_m1eq, q_m1e, Option.bind_some, gLet, nI_add, pk_mul, q_sub, q_m1, q_div, q_modN, nI_clamp, if_true, if_false, Bool.false_eq_true, q_l0, q_l1, q_l2, q_l3, q_l4, q_l5, q_l6, q_l7, q_l8, q_l9, q_l10, q_l11, q_l12, q_l13, q_l14, q_l15, q_l16, q_l19, q_l20, q_l22, q_l24, q_l30, q_l32, q_l34, q_l36, q_l45, q_l47, q_l48, q_l57, q_l58, q_l59, q_l60, q_l61, q_l66, q_l75, q_l76, q_l94, q_l97, q_l99, q_l100, q_l101, q_l104, q_l105, q_l108, q_l109, q_l111, q_l114, q_l115, q_l116, q_l117, q_l118, q_l119, q_l120, q_l126, q_l132, q_l133, q_l135, q_l136, q_l138, q_l146, q_l147, q_l148, q_l149, q_l150, q_l151, q_l152, q_l153, q_l154, q_l155, q_l156, q_l157, q_l158, q_l214, q_l229, q_l244, q_l259, q_l300, q_l999, q_l1813, q_l2072, q_l10000, q_l65536, q_l1000000000, m_done, m_fails, m_thrown, m_th, gs_same, q_gsgs, c_raise0, c_raise1, c_raise2, c_raise3, c_raise4, m_isStack hb hs, m_in_t, mh M hM, hM, h1, h9]
        · refine Or.inl ⟨2, by omega, ⟨rfl, by decide⟩, fun M o g => ?_, fun M hM => ?_⟩
          · unfold f_X5_stowingFault
            by_cases h1 : k < nI 0
            · simp (disch := omega) only [q_seqr, q_seql, q_ig, q_ni, q_le, q_nle, q_lt, q_nlt, q_eq, q_ne, q_eqr, q_gbt, q_gbf, q_gbd, q_m1lt, q_m1ge, q_m1ne, q_m1eq, q_m1e, Option.bind_some, gLet, nI_add, pk_mul, q_sub, q_m1, q_div, q_modN, nI_clamp, if_true, if_false, Bool.false_eq_true, q_l0, q_l1, q_l2, q_l3, q_l4, q_l5, q_l6, q_l7, q_l8, q_l9, q_l10, q_l11, q_l12, q_l13, q_l14, q_l15, q_l16, q_l19, q_l20, q_l22, q_l24, q_l30, q_l32, q_l34, q_l36, q_l45, q_l47, q_l48, q_l57, q_l58, q_l59, q_l60, q_l61, q_l66, q_l75, q_l76, q_l94, q_l97, q_l99, q_l100, q_l101, q_l104, q_l105, q_l108, q_l109, q_l111, q_l114, q_l115, q_l116, q_l117, q_l118, q_l119, q_l120, q_l126, q_l132, q_l133, q_l135, q_l136, q_l138, q_l146, q_l147, q_l148, q_l149, q_l150, q_l151, q_l152, q_l153, q_l154, q_l155, q_l156, q_l157, q_l158, q_l214, q_l229, q_l244, q_l259, q_l300, q_l999, q_l1813, q_l2072, q_l10000, q_l65536, q_l1000000000, c_isBerth hb, c_isStack hs, if_pos h1]
            · obtain ⟨q, k1, k2, rfl⟩ := q_gt (hk.resolve_left h1) (by omega)
              simp (disch := omega) only [q_seqr, q_seql, q_ig, q_ni, q_le, q_nle, q_lt, q_nlt, q_eq, q_ne, q_eqr, q_gbt, q_gbf, q_gbd, q_m1lt, q_m1ge, q_m1ne, q_m1eq, q_m1e, Option.bind_some, gLet, nI_add, pk_mul, q_sub, q_m1, q_div, q_modN, nI_clamp, if_true, if_false, Bool.false_eq_true, q_l0, q_l1, q_l2, q_l3, q_l4, q_l5, q_l6, q_l7, q_l8, q_l9, q_l10, q_l11, q_l12, q_l13, q_l14, q_l15, q_l16, q_l19, q_l20, q_l22, q_l24, q_l30, q_l32, q_l34, q_l36, q_l45, q_l47, q_l48, q_l57, q_l58, q_l59, q_l60, q_l61, q_l66, q_l75, q_l76, q_l94, q_l97, q_l99, q_l100, q_l101, q_l104, q_l105, q_l108, q_l109, q_l111, q_l114, q_l115, q_l116, q_l117, q_l118, q_l119, q_l120, q_l126, q_l132, q_l133, q_l135, q_l136, q_l138, q_l146, q_l147, q_l148, q_l149, q_l150, q_l151, q_l152, q_l153, q_l154, q_l155, q_l156, q_l157, q_l158, q_l214, q_l229, q_l244, q_l259, q_l300, q_l999, q_l1813, q_l2072, q_l10000, q_l65536, q_l1000000000, c_isBerth hb, c_isStack hs]
          · unfold f_X7_stows
            simp (disch := omega) only [q_seqr, q_seql, q_ig, q_ni, q_le, q_nle, q_lt, q_nlt, q_eq, q_ne, q_eqr, q_gbt, q_gbf, q_gbd, q_m1lt, q_m1ge, q_m1ne, q_m1eq, q_m1e, Option.bind_some, gLet, nI_add, pk_mul, q_sub, q_m1, q_div, q_modN, nI_clamp, if_true, if_false, Bool.false_eq_true, q_l0, q_l1, q_l2, q_l3, q_l4, q_l5, q_l6, q_l7, q_l8, q_l9, q_l10, q_l11, q_l12, q_l13, q_l14, q_l15, q_l16, q_l19, q_l20, q_l22, q_l24, q_l30, q_l32, q_l34, q_l36, q_l45, q_l47, q_l48, q_l57, q_l58, q_l59, q_l60, q_l61, q_l66, q_l75, q_l76, q_l94, q_l97, q_l99, q_l100, q_l101, q_l104, q_l105, q_l108, q_l109, q_l111, q_l114, q_l115, q_l116, q_l117, q_l118, q_l119, q_l120, q_l126, q_l132, q_l133, q_l135, q_l136, q_l138, q_l146, q_l147, q_l148, q_l149, q_l150, q_l151, q_l152, q_l153, q_l154, q_l155, q_l156, q_l157, q_l158, q_l214, q_l229, q_l244, q_l259, q_l300, q_l999, q_l1813, q_l2072, q_l10000, q_l65536, q_l1000000000, m_done, m_fails, m_thrown, m_th, gs_same, q_gsgs, c_raise0, c_raise1, c_raise2, c_raise3, c_raise4, m_isStack hb hs, m_in_t, m_in_f hk]
      · refine Or.inl ⟨2, by omega, ⟨rfl, by decide⟩, fun M o g => ?_, fun M hM => ?_⟩
        · unfold f_X5_stowingFault
          by_cases h1 : u < nI 1
          · simp (disch := omega) only [q_seqr, q_seql, q_ig, q_ni, q_le, q_nle, q_lt, q_nlt, q_eq, q_ne, q_eqr, q_gbt, q_gbf, q_gbd, q_m1lt, q_m1ge, q_m1ne, q_m1eq, q_m1e, Option.bind_some, gLet, nI_add, pk_mul, q_sub, q_m1, q_div, q_modN, nI_clamp, if_true, if_false, Bool.false_eq_true, q_l0, q_l1, q_l2, q_l3, q_l4, q_l5, q_l6, q_l7, q_l8, q_l9, q_l10, q_l11, q_l12, q_l13, q_l14, q_l15, q_l16, q_l19, q_l20, q_l22, q_l24, q_l30, q_l32, q_l34, q_l36, q_l45, q_l47, q_l48, q_l57, q_l58, q_l59, q_l60, q_l61, q_l66, q_l75, q_l76, q_l94, q_l97, q_l99, q_l100, q_l101, q_l104, q_l105, q_l108, q_l109, q_l111, q_l114, q_l115, q_l116, q_l117, q_l118, q_l119, q_l120, q_l126, q_l132, q_l133, q_l135, q_l136, q_l138, q_l146, q_l147, q_l148, q_l149, q_l150, q_l151, q_l152, q_l153, q_l154, q_l155, q_l156, q_l157, q_l158, q_l214, q_l229, q_l244, q_l259, q_l300, q_l999, q_l1813, q_l2072, q_l10000, q_l65536, q_l1000000000, c_isBerth hb, c_isStack hs, if_pos h1]
          · simp (disch := omega) only [q_seqr, q_seql, q_ig, q_ni, q_le, q_nle, q_lt, q_nlt, q_eq, q_ne, q_eqr, q_gbt, q_gbf, q_gbd, q_m1lt, q_m1ge, q_m1ne, q_m1eq, q_m1e, Option.bind_some, gLet, nI_add, pk_mul, q_sub, q_m1, q_div, q_modN, nI_clamp, if_true, if_false, Bool.false_eq_true, q_l0, q_l1, q_l2, q_l3, q_l4, q_l5, q_l6, q_l7, q_l8, q_l9, q_l10, q_l11, q_l12, q_l13, q_l14, q_l15, q_l16, q_l19, q_l20, q_l22, q_l24, q_l30, q_l32, q_l34, q_l36, q_l45, q_l47, q_l48, q_l57, q_l58, q_l59, q_l60, q_l61, q_l66, q_l75, q_l76, q_l94, q_l97, q_l99, q_l100, q_l101, q_l104, q_l105, q_l108, q_l109, q_l111, q_l114, q_l115, q_l116, q_l117, q_l118, q_l119, q_l120, q_l126, q_l132, q_l133, q_l135, q_l136, q_l138, q_l146, q_l147, q_l148, q_l149, q_l150, q_l151, q_l152, q_l153, q_l154, q_l155, q_l156, q_l157, q_l158, q_l214, q_l229, q_l244, q_l259, q_l300, q_l999, q_l1813, q_l2072, q_l10000, q_l65536, q_l1000000000, c_isBerth hb, c_isStack hs, if_neg h1, if_pos (hu.resolve_left h1)]
        · unfold f_X7_stows
          simp (disch := omega) only [q_seqr, q_seql, q_ig, q_ni, q_le, q_nle, q_lt, q_nlt, q_eq, q_ne, q_eqr, q_gbt, q_gbf, q_gbd, q_m1lt, q_m1ge, q_m1ne, q_m1eq, q_m1e, Option.bind_some, gLet, nI_add, pk_mul, q_sub, q_m1, q_div, q_modN, nI_clamp, if_true, if_false, Bool.false_eq_true, q_l0, q_l1, q_l2, q_l3, q_l4, q_l5, q_l6, q_l7, q_l8, q_l9, q_l10, q_l11, q_l12, q_l13, q_l14, q_l15, q_l16, q_l19, q_l20, q_l22, q_l24, q_l30, q_l32, q_l34, q_l36, q_l45, q_l47, q_l48, q_l57, q_l58, q_l59, q_l60, q_l61, q_l66, q_l75, q_l76, q_l94, q_l97, q_l99, q_l100, q_l101, q_l104, q_l105, q_l108, q_l109, q_l111, q_l114, q_l115, q_l116, q_l117, q_l118, q_l119, q_l120, q_l126, q_l132, q_l133, q_l135, q_l136, q_l138, q_l146, q_l147, q_l148, q_l149, q_l150, q_l151, q_l152, q_l153, q_l154, q_l155, q_l156, q_l157, q_l158, q_l214, q_l229, q_l244, q_l259, q_l300, q_l999, q_l1813, q_l2072, q_l10000, q_l65536, q_l1000000000, m_done, m_fails, m_thrown, m_th, gs_same, q_gsgs, c_raise0, c_raise1, c_raise2, c_raise3, c_raise4, m_isStack hb hs, m_in_f hu]
    · refine Or.inl ⟨1, by omega, ⟨rfl, by decide⟩, fun M o g => ?_, fun M hM => ?_⟩
      · unfold f_X5_stowingFault
        simp (disch := omega) only [q_seqr, q_seql, q_ig, q_ni, q_le, q_nle, q_lt, q_nlt, q_eq, q_ne, q_eqr, q_gbt, q_gbf, q_gbd, q_m1lt, q_m1ge, q_m1ne, q_m1eq, q_m1e, Option.bind_some, gLet, nI_add, pk_mul, q_sub, q_m1, q_div, q_modN, nI_clamp, if_true, if_false, Bool.false_eq_true, q_l0, q_l1, q_l2, q_l3, q_l4, q_l5, q_l6, q_l7, q_l8, q_l9, q_l10, q_l11, q_l12, q_l13, q_l14, q_l15, q_l16, q_l19, q_l20, q_l22, q_l24, q_l30, q_l32, q_l34, q_l36, q_l45, q_l47, q_l48, q_l57, q_l58, q_l59, q_l60, q_l61, q_l66, q_l75, q_l76, q_l94, q_l97, q_l99, q_l100, q_l101, q_l104, q_l105, q_l108, q_l109, q_l111, q_l114, q_l115, q_l116, q_l117, q_l118, q_l119, q_l120, q_l126, q_l132, q_l133, q_l135, q_l136, q_l138, q_l146, q_l147, q_l148, q_l149, q_l150, q_l151, q_l152, q_l153, q_l154, q_l155, q_l156, q_l157, q_l158, q_l214, q_l229, q_l244, q_l259, q_l300, q_l999, q_l1813, q_l2072, q_l10000, q_l65536, q_l1000000000, c_isBerth hb, c_isStack_n hs]
      · unfold f_X7_stows
        simp (disch := omega) only [q_seqr, q_seql, q_ig, q_ni, q_le, q_nle, q_lt, q_nlt, q_eq, q_ne, q_eqr, q_gbt, q_gbf, q_gbd, q_m1lt, q_m1ge, q_m1ne, q_m1eq, q_m1e, Option.bind_some, gLet, nI_add, pk_mul, q_sub, q_m1, q_div, q_modN, nI_clamp, if_true, if_false, Bool.false_eq_true, q_l0, q_l1, q_l2, q_l3, q_l4, q_l5, q_l6, q_l7, q_l8, q_l9, q_l10, q_l11, q_l12, q_l13, q_l14, q_l15, q_l16, q_l19, q_l20, q_l22, q_l24, q_l30, q_l32, q_l34, q_l36, q_l45, q_l47, q_l48, q_l57, q_l58, q_l59, q_l60, q_l61, q_l66, q_l75, q_l76, q_l94, q_l97, q_l99, q_l100, q_l101, q_l104, q_l105, q_l108, q_l109, q_l111, q_l114, q_l115, q_l116, q_l117, q_l118, q_l119, q_l120, q_l126, q_l132, q_l133, q_l135, q_l136, q_l138, q_l146, q_l147, q_l148, q_l149, q_l150, q_l151, q_l152, q_l153, q_l154, q_l155, q_l156, q_l157, q_l158, q_l214, q_l229, q_l244, q_l259, q_l300, q_l999, q_l1813, q_l2072, q_l10000, q_l65536, q_l1000000000, m_done, m_fails, m_thrown, m_th, gs_same, q_gsgs, c_raise0, c_raise1, c_raise2, c_raise3, c_raise4, m_isStack_n (Or.inr hs)]
  · refine Or.inl ⟨1, by omega, ⟨rfl, by decide⟩, fun M o g => ?_, fun M hM => ?_⟩
    · unfold f_X5_stowingFault
      simp (disch := omega) only [q_seqr, q_seql, q_ig, q_ni, q_le, q_nle, q_lt, q_nlt, q_eq, q_ne, q_eqr, q_gbt, q_gbf, q_gbd, q_m1lt, q_m1ge, q_m1ne, q_m1eq, q_m1e, Option.bind_some, gLet, nI_add, pk_mul, q_sub, q_m1, q_div, q_modN, nI_clamp, if_true, if_false, Bool.false_eq_true, q_l0, q_l1, q_l2, q_l3, q_l4, q_l5, q_l6, q_l7, q_l8, q_l9, q_l10, q_l11, q_l12, q_l13, q_l14, q_l15, q_l16, q_l19, q_l20, q_l22, q_l24, q_l30, q_l32, q_l34, q_l36, q_l45, q_l47, q_l48, q_l57, q_l58, q_l59, q_l60, q_l61, q_l66, q_l75, q_l76, q_l94, q_l97, q_l99, q_l100, q_l101, q_l104, q_l105, q_l108, q_l109, q_l111, q_l114, q_l115, q_l116, q_l117, q_l118, q_l119, q_l120, q_l126, q_l132, q_l133, q_l135, q_l136, q_l138, q_l146, q_l147, q_l148, q_l149, q_l150, q_l151, q_l152, q_l153, q_l154, q_l155, q_l156, q_l157, q_l158, q_l214, q_l229, q_l244, q_l259, q_l300, q_l999, q_l1813, q_l2072, q_l10000, q_l65536, q_l1000000000, c_isBerth_n hv]
    · unfold f_X7_stows
      simp (disch := omega) only [q_seqr, q_seql, q_ig, q_ni, q_le, q_nle, q_lt, q_nlt, q_eq, q_ne, q_eqr, q_gbt, q_gbf, q_gbd, q_m1lt, q_m1ge, q_m1ne, q_m1eq, q_m1e, Option.bind_some, gLet, nI_add, pk_mul, q_sub, q_m1, q_div, q_modN, nI_clamp, if_true, if_false, Bool.false_eq_true, q_l0, q_l1, q_l2, q_l3, q_l4, q_l5, q_l6, q_l7, q_l8, q_l9, q_l10, q_l11, q_l12, q_l13, q_l14, q_l15, q_l16, q_l19, q_l20, q_l22, q_l24, q_l30, q_l32, q_l34, q_l36, q_l45, q_l47, q_l48, q_l57, q_l58, q_l59, q_l60, q_l61, q_l66, q_l75, q_l76, q_l94, q_l97, q_l99, q_l100, q_l101, q_l104, q_l105, q_l108, q_l109, q_l111, q_l114, q_l115, q_l116, q_l117, q_l118, q_l119, q_l120, q_l126, q_l132, q_l133, q_l135, q_l136, q_l138, q_l146, q_l147, q_l148, q_l149, q_l150, q_l151, q_l152, q_l153, q_l154, q_l155, q_l156, q_l157, q_l158, q_l214, q_l229, q_l244, q_l259, q_l300, q_l999, q_l1813, q_l2072, q_l10000, q_l65536, q_l1000000000, m_done, m_fails, m_thrown, m_th, gs_same, q_gsgs, c_raise0, c_raise1, c_raise2, c_raise3, c_raise4, m_isStack_n (Or.inl hv)]
end TS
