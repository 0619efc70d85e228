/-! clear and move -/
/-! Runs from the outside in: conditions as facts, a bind waits for what it binds. -/
theorem v_ig {a n : Nat} (h : a < n) (hn : n < 2 ^ 31) : gin (nI a) n = True := eq_true ⟨by rw [nI_toInt (by omega)]; omega, by rw [nI_toInt (by omega)]; omega⟩
theorem v_ni {a n : Nat} (h : n ≤ a) (ha : a < 2 ^ 31) : gin (nI a) n = False := eq_false (fun q => by have h2 := q.2; rw [nI_toInt ha] at h2; omega)
theorem v_le {a b : Nat} (h : a ≤ b) (hb : b < 2 ^ 31) : (nI a ≤ nI b) = True := eq_true (nI_le h hb)
theorem v_nle {a b : Nat} (h : b < a) (ha : a < 2 ^ 31) : (nI a ≤ nI b) = False := eq_false (nI_ge h ha)
theorem v_lt {a b : Nat} (h : a < b) (hb : b < 2 ^ 31) : (nI a < nI b) = True := eq_true (nI_lt h hb)
theorem v_nlt {a b : Nat} (h : b ≤ a) (ha : a < 2 ^ 31) : (nI a < nI b) = False := eq_false (nI_nlt h ha)
theorem v_ne {a b : Nat} (h : a ≠ b) (ha : a < 2 ^ 31) (hb : b < 2 ^ 31) : (nI a = nI b) = False := eq_false (fun q => h ((nI_eq ha hb).mp q))
theorem v_eq {a b : Nat} (h : a = b) : (nI a = nI b) = True := eq_true (by rw [h])
theorem v_gbt : (gb true = nI 0) = False := eq_false q_gbt0
theorem v_gbf : (gb false = nI 0) = True := eq_true q_gbf0
theorem v_gbd (b : Bool) : (gb b = nI 0) = (b = false) := by cases b <;> simp [v_gbt, v_gbf]
theorem v_m1lt : (-nI 1 < nI 0) = True := eq_true q_m1lt0
theorem v_m1ge {b : Nat} (hb : b < 2 ^ 31) : (nI b ≤ -nI 1) = False := eq_false (fun q => by
  have h1 := Int32.le_iff_toInt_le.mp q
  rw [nI_toInt hb, show (-nI 1).toInt = -1 from by decide] at h1
  omega)
theorem v_m1ne {a : Nat} (ha : a < 2 ^ 31) : (nI a = -nI 1) = False := eq_false (fun q => by
  have h1 := congrArg Int32.toInt q
  rw [nI_toInt ha, show (-nI 1).toInt = -1 from by decide] at h1
  omega)
theorem v_m1e {a : Nat} (ha : a < 2 ^ 31) : (-nI 1 = nI a) = False := eq_false (fun q => by
  have h1 := congrArg Int32.toInt q
  rw [nI_toInt ha, show (-nI 1).toInt = -1 from by decide] at h1
  omega)
theorem q_bindD {α β : Type} [Inhabited α] (x : Option α) (f : α → Option β) : x.bind f = if x.isSome = true then f (x.getD default) else none := by cases x <;> rfl
theorem m_height0 {M : gM} {b s n : Nat} (hb : b < 3) (hs : s < 4) (h : M 151 (22 + (b * 4 + s)) = nI n) : f_X7_height (nI b) (nI s) M = some (nI n) := by
  unfold f_X7_height
  simp (disch := omega) only [q_seqr, q_seql, q_ig, q_ni, q_le, q_nle, q_lt, q_nlt, q_eq, q_ne, q_eqr, q_gbt, q_gbf, q_gbd, q_m1lt, q_m1ge, q_m1ne, q_m1eq, q_m1e, Option.bind_some, gLet, nI_add, pk_mul, q_sub, q_m1, q_div, q_modN, nI_clamp, if_true, if_false, Bool.false_eq_true, q_l0, q_l1, q_l2, q_l3, q_l4, q_l5, q_l6, q_l7, q_l8, q_l9, q_l10, q_l11, q_l12, q_l13, q_l14, q_l15, q_l16, q_l19, q_l20, q_l22, q_l24, q_l30, q_l32, q_l34, q_l36, q_l45, q_l47, q_l48, q_l57, q_l58, q_l59, q_l60, q_l61, q_l66, q_l75, q_l76, q_l94, q_l97, q_l99, q_l100, q_l101, q_l104, q_l105, q_l108, q_l109, q_l111, q_l114, q_l115, q_l116, q_l117, q_l118, q_l119, q_l120, q_l126, q_l132, q_l133, q_l135, q_l136, q_l138, q_l146, q_l147, q_l148, q_l149, q_l150, q_l151, q_l152, q_l153, q_l154, q_l155, q_l156, q_l157, q_l158, q_l214, q_l229, q_l244, q_l259, q_l300, q_l999, q_l1813, q_l2072, q_l10000, q_l65536, q_l1000000000]
  rw [show 22 + 4 * b + s = 22 + (b * 4 + s) by omega, h]
def ptM (M : gM) (o j : Nat) (p h : Int32) : gM := gs (gs M (o + 6) j h) (o + 5) j p
theorem ptM_fr {M : gM} {o j : Nat} {p h : Int32} {a : Nat} (ha : a < o + 5 ∨ o + 7 ≤ a) : ptM M o j p h a = M a := by
  unfold ptM
  rw [q_gsn (by omega), q_gsn (by omega)]
theorem c_put {M : gM} {o c j : Nat} {p h : Int32} (hc : M (o + 1) 6 = nI c) (h75 : c ≤ 75) (hj : j < c) (hh : f_X0_height o p M = some h) : f_X0_put o (nI j) p M = some (ptM M o j p h) := by
  unfold f_X0_put ptM
  simp (disch := omega) only [q_seqr, q_seql, q_ig, q_ni, q_le, q_nle, q_lt, q_nlt, q_eq, q_ne, q_eqr, q_gbt, q_gbf, q_gbd, q_m1lt, q_m1ge, q_m1ne, q_m1eq, q_m1e, Option.bind_some, gLet, nI_add, pk_mul, q_sub, q_m1, q_div, q_modN, nI_clamp, if_true, if_false, Bool.false_eq_true, q_l0, q_l1, q_l2, q_l3, q_l4, q_l5, q_l6, q_l7, q_l8, q_l9, q_l10, q_l11, q_l12, q_l13, q_l14, q_l15, q_l16, q_l19, q_l20, q_l22, q_l24, q_l30, q_l32, q_l34, q_l36, q_l45, q_l47, q_l48, q_l57, q_l58, q_l59, q_l60, q_l61, q_l66, q_l75, q_l76, q_l94, q_l97, q_l99, q_l100, q_l101, q_l104, q_l105, q_l108, q_l109, q_l111, q_l114, q_l115, q_l116, q_l117, q_l118, q_l119, q_l120, q_l126, q_l132, q_l133, q_l135, q_l136, q_l138, q_l146, q_l147, q_l148, q_l149, q_l150, q_l151, q_l152, q_l153, q_l154, q_l155, q_l156, q_l157, q_l158, q_l214, q_l229, q_l244, q_l259, q_l300, q_l999, q_l1813, q_l2072, q_l10000, q_l65536, q_l1000000000, s_hasRow hc h75 hj, hh]
theorem ptM_rows (M : gM) (o c j : Nat) (p h : Int32) (hj : j < c) : tRows (ptM M o j p h) o c = (tRows M o c).set j ((tRow M o j).1, (tRow M o j).2.1, (tRow M o j).2.2.1, p, h) := by
  apply List.ext_getElem
  · rw [List.length_set, tRows_len, tRows_len]
  · intro i h1 h2
    rw [tRows_len] at h1
    by_cases e : i = j
    · subst e
      rw [List.getElem_set_self]
      simp only [tRows, List.getElem_map, List.getElem_range]
      unfold tRow ptM
      simp (disch := omega) only [q_gsn, q_gss]
    · rw [List.getElem_set_ne (Ne.symm e)]
      simp only [tRows, List.getElem_map, List.getElem_range]
      unfold tRow ptM
      simp (disch := omega) only [q_gsn, q_gsk]
theorem rows_pw {M M1 : gM} {o c : Nat} (h : M1 (o + 2) = M (o + 2)) (hp : (tRows M o c).Pairwise (fun x y => x.1 < y.1)) : (tRows M1 o c).Pairwise (fun x y => x.1 < y.1) := by
  unfold tRows at hp ⊢
  rw [List.pairwise_map] at hp ⊢
  refine hp.imp (fun {a b} hab => ?_)
  show M1 (o + 2) a < M1 (o + 2) b
  rw [h]
  exact hab
theorem ptM_perm {M : gM} {o c j : Nat} {p h : Int32} {t : tC} {X A : List tC} (hj : j < c) (ht : tRow M o j = t) (hP : (tRows M o c).Perm (t :: X)) (hA : A.Perm ((t.1, t.2.1, t.2.2.1, p, h) :: X)) : (tRows (ptM M o j p h) o c).Perm A := by
  rw [ptM_rows M o c j p h hj, ht]
  have e1 := q_permGet (tRows M o c) j t (by rw [tRows_get hj, ht])
  have e2 := q_permSet (tRows M o c) j (t.1, t.2.1, t.2.2.1, p, h) (by rw [tRows_len]; exact hj)
  have e3 : ((tRows M o c).eraseIdx j).Perm X := (e1.symm.trans hP).cons_inv
  exact e2.trans ((e3.cons _).trans hA.symm)
section TC
variable {r : Nat → Int32} {β : Nat}
/-! clear -/
def clR (r : Nat → Int32) (p h y : Nat) : Nat → Int32 := upd (upd (upd (upd (upd (upd r (214 + y) (r (34 + (5 * p + h)))) (229 + y) (r (94 + (5 * p + h)))) (244 + y) (r (154 + (5 * p + h)))) 6 (nI (y + 1))) (22 + p) (nI h)) 3 (r 3 + nI 1)
theorem clR_o {p h y j : Nat} (h1 : j ≠ 3) (h2 : j ≠ 6) (h3 : j ≠ 22 + p) (h4 : j < 214) : clR r p h y j = r j := by
  unfold clR
  rw [q_upn (by omega), q_upn (by omega), q_upn (by omega), q_upn (by omega), q_upn (by omega), q_upn (by omega)]
theorem clR_p {p h y : Nat} (hp : p < 12) : clR r p h y (22 + p) = nI h := by
  unfold clR
  rw [q_upn (by omega), q_ups rfl]
theorem clR_6 {p h y : Nat} : clR r p h y 6 = nI (y + 1) := by
  unfold clR
  rw [q_upn (by omega), q_upn (by omega), q_ups rfl]
theorem clR_3 {p h y : Nat} : clR r p h y 3 = r 3 + nI 1 := q_ups rfl
theorem clR_all (w : gRow β r) {p h y : Nat} (hp : p < 12) (hh : hN r p = h + 1) (hy : yN r = y) (hy15 : y < 15) : (tAll r).Perm (tCell r (5 * p + h) :: (tShip (clR r p h y) ++ tYard r)) ∧ (tAll (clR r p h y)).Perm ((r (34 + (5 * p + h)), r (94 + (5 * p + h)), r (154 + (5 * p + h)), nI 12, nI y) :: (tShip (clR r p h y) ++ tYard r)) := by
  have h5 := (w.h hp).2
  have e1 : hN (clR r p h y) p = h := by
    unfold hN
    rw [clR_p hp]
    exact nI_clamp (by omega)
  have e2 := ship_up (lo := clR r p h y) (hi := r) hp (by omega) e1 hh (fun p' hp' hne => (hN_eq (clR_o (by omega) (by omega) (by omega) (by omega))).symm) (fun c hc hne _ => by
    unfold tCell
    rw [clR_o (by omega) (by omega) (by omega) (by omega), clR_o (by omega) (by omega) (by omega) (by omega), clR_o (by omega) (by omega) (by omega) (by omega)])
  have e3 : tYard (clR r p h y) = tYard r ++ [(r (34 + (5 * p + h)), r (94 + (5 * p + h)), r (154 + (5 * p + h)), nI 12, nI y)] := by
    have en : yN (clR r p h y) = y + 1 := by
      unfold yN
      rw [clR_6]
      exact nI_clamp (by omega)
    unfold tYard
    rw [en, hy, List.range_succ, List.map_append]
    congr 1
    · apply List.map_congr_left
      intro l hl
      have hl := List.mem_range.mp hl
      unfold tYd clR
      simp (disch := omega) only [q_upn]
    · unfold tYd clR
      simp (disch := omega) only [q_upn, q_ups, List.map_cons, List.map_nil]
  constructor
  · unfold tAll
    exact e2.append_right _
  · rw [tAll, e3, ← List.append_assoc]
    exact List.perm_append_singleton _ _
theorem clR_row (w : gRow β r) (hβ : β ≤ 600) {p h y : Nat} (hp : p < 12) (hh : hN r p = h + 1) (hy : yN r = y) (hy15 : y < 15) : gRow (β + 1) (clR r p h y) := by
  obtain ⟨hP, hA⟩ := clR_all w hp hh hy hy15
  have hn := w.nx
  obtain ⟨d, hd1, hd2⟩ := w.dl
  have h5 := (w.h hp).2
  refine gRow_mk w (fun j hj => clR_o (by omega) (by omega) (by omega) (by omega)) (fun p' hp' => ?_) ⟨y + 1, clR_6, by omega⟩ (x := nxN r) (by rw [clR_o (by omega) (by omega) (by omega) (by omega)]; exact hn.1) (by omega) hβ (fun t ht => ?_) ⟨d, by rw [clR_o (by omega) (by omega) (by omega) (by omega)]; exact hd1, ?_⟩
  · by_cases e : p' = p
    · subst e
      exact ⟨h, clR_p hp, by omega⟩
    · refine ⟨hN r p', ?_, (w.h hp').2⟩
      rw [clR_o (by omega) (by omega) (by omega) (by omega)]
      exact (w.h hp').1
  · rcases List.mem_cons.mp (hA.mem_iff.mp ht) with rfl | ht
    · exact (w.ok (t := tCell r (5 * p + h)) (hP.mem_iff.mpr List.mem_cons_self) : tOK (nxN r) (tCell r (5 * p + h)))
    · exact w.ok (hP.mem_iff.mpr (List.mem_cons_of_mem _ ht))
  · rw [hd2, hA.length_eq, hP.length_eq, List.length_cons, List.length_cons]
/-- a wrong answer's row -/
def wrR (r : Nat → Int32) (b t : Nat) : Nat → Int32 := if t + 1 = 3 then upd (upd (upd (upd (upd r (16 + b) (nI (t + 1))) 2 (r 2 + nI 5)) 5 (r 5 + nI 1)) (16 + b) (nI 0)) (19 + b) (nI 2) else upd (upd (upd r (16 + b) (nI (t + 1))) 2 (r 2 + nI 5)) 5 (r 5 + nI 1)
theorem wrR_o {b t j : Nat} (h1 : j ≠ 2) (h2 : j ≠ 5) (h3 : j ≠ 16 + b) (h4 : j ≠ 19 + b) : wrR r b t j = r j := by
  unfold wrR
  split
  · rw [q_upn (by omega), q_upn (by omega), q_upn (by omega), q_upn (by omega), q_upn (by omega)]
  · rw [q_upn (by omega), q_upn (by omega), q_upn (by omega)]
theorem wrR_2 {b t : Nat} (hb : b < 3) : wrR r b t 2 = r 2 + nI 5 := by
  unfold wrR
  split
  · rw [q_upn (by omega), q_upn (by omega), q_upn (by omega), q_ups rfl]
  · rw [q_upn (by omega), q_ups rfl]
theorem wrR_5 {b t : Nat} (hb : b < 3) : wrR r b t 5 = r 5 + nI 1 := by
  unfold wrR
  split
  · rw [q_upn (by omega), q_upn (by omega), q_ups rfl]
  · rw [q_ups rfl]
theorem wrR_16 {b t : Nat} (hb : b < 3) : wrR r b t (16 + b) = nI (if t + 1 = 3 then 0 else t + 1) := by
  unfold wrR
  split
  · rw [q_upn (by omega), q_ups rfl]
  · rw [q_upn (by omega), q_upn (by omega), q_ups rfl]
theorem wrR_19 {b t : Nat} (hb : b < 3) : wrR r b t (19 + b) = if t + 1 = 3 then nI 2 else r (19 + b) := by
  unfold wrR
  split
  · rw [q_ups rfl]
  · rw [q_upn (by omega), q_upn (by omega), q_upn (by omega)]
theorem wrR_row (w : gRow β r) (hβ : β ≤ 600) {b t : Nat} (hb : b < 3) (ht : t < 3) : gRow (β + 1) (wrR r b t) := by
  have hh := w.hrs hβ
  have w' := w.up (show β ≤ β + 1 by omega)
  refine gRow_keep w (by omega) (fun k hk => wrR_o (by omega) (by omega) (by omega) (by omega)) ?_ (fun b' hb' => ?_) (fun b' hb' => ?_)
  · rw [wrR_o (by omega) (by omega) (by omega) (by omega)]; exact w'.hr
  · rw [wrR_o (by omega) (by omega) (by omega) (by omega), wrR_o (by omega) (by omega) (by omega) (by omega), wrR_o (by omega) (by omega) (by omega) (by omega)]
    exact w'.b hb'
  · obtain ⟨t', l', h1, h2, h3, h4⟩ := w.tl hb'
    by_cases e : b' = b
    · subst e
      rw [wrR_16 hb, wrR_19 hb]
      by_cases e : t + 1 = 3
      · rw [if_pos e, if_pos e]
        exact ⟨0, 2, rfl, by omega, rfl, by omega⟩
      · rw [if_neg e, if_neg e]
        exact ⟨t + 1, l', rfl, by omega, h3, h4⟩
    · rw [wrR_o (by omega) (by omega) (by omega) (by omega), wrR_o (by omega) (by omega) (by omega) (by omega)]
      exact ⟨t', l', h1, h2, h3, h4⟩
/-- the class's wrong answer -/
def wrM (M : gM) (o b t : Nat) : gM := if t + 1 = 3 then gs (gs (gs (gs (gs M o 10 (M o 10 + nI 1)) o 6 (M o 6 + nI 5)) (o + 10) b (nI (t + 1))) (o + 10) b (nI 0)) (o + 11) b (nI 2) else gs (gs (gs M o 10 (M o 10 + nI 1)) o 6 (M o 6 + nI 5)) (o + 10) b (nI (t + 1))
theorem wrM_fr {M : gM} {o b t a : Nat} (ha : a < o ∨ o + 12 ≤ a ∨ (o < a ∧ a < o + 10)) : wrM M o b t a = M a := by
  unfold wrM
  split
  · rw [q_gsn (by omega), q_gsn (by omega), q_gsn (by omega), q_gsn (by omega), q_gsn (by omega)]
  · rw [q_gsn (by omega), q_gsn (by omega), q_gsn (by omega)]
theorem c_wrong {M : gM} {o b t : Nat} (hb : b < 3) (ht : t < 3) (hM : M (o + 10) b = nI t) : f_X5_countWrongAnswer o (nI b) M = some (wrM M o b t) := by
  unfold f_X5_countWrongAnswer wrM
  by_cases e : t + 1 = 3
  · rw [if_pos e]
    simp (disch := omega) only [q_seqr, q_seql, q_ig, q_ni, q_le, q_nle, q_lt, q_nlt, q_eq, q_ne, q_eqr, q_gbt, q_gbf, q_gbd, q_m1lt, q_m1ge, q_m1ne, q_m1eq, q_m1e, Option.bind_some, gLet, nI_add, pk_mul, q_sub, q_m1, q_div, q_modN, nI_clamp, if_true, if_false, Bool.false_eq_true, q_l0, q_l1, q_l2, q_l3, q_l4, q_l5, q_l6, q_l7, q_l8, q_l9, q_l10, q_l11, q_l12, q_l13, q_l14, q_l15, q_l16, q_l19, q_l20, q_l22, q_l24, q_l30, q_l32, q_l34, q_l36, q_l45, q_l47, q_l48, q_l57, q_l58, q_l59, q_l60, q_l61, q_l66, q_l75, q_l76, q_l94, q_l97, q_l99, q_l100, q_l101, q_l104, q_l105, q_l108, q_l109, q_l111, q_l114, q_l115, q_l116, q_l117, q_l118, q_l119, q_l120, q_l126, q_l132, q_l133, q_l135, q_l136, q_l138, q_l146, q_l147, q_l148, q_l149, q_l150, q_l151, q_l152, q_l153, q_l154, q_l155, q_l156, q_l157, q_l158, q_l214, q_l229, q_l244, q_l259, q_l300, q_l999, q_l1813, q_l2072, q_l10000, q_l65536, q_l1000000000, c_isBerth hb, q_gsn, q_gsk, q_gss, hM, e]
  · rw [if_neg e]
    simp (disch := omega) only [q_seqr, q_seql, q_ig, q_ni, q_le, q_nle, q_lt, q_nlt, q_eq, q_ne, q_eqr, q_gbt, q_gbf, q_gbd, q_m1lt, q_m1ge, q_m1ne, q_m1eq, q_m1e, Option.bind_some, gLet, nI_add, pk_mul, q_sub, q_m1, q_div, q_modN, nI_clamp, if_true, if_false, Bool.false_eq_true, q_l0, q_l1, q_l2, q_l3, q_l4, q_l5, q_l6, q_l7, q_l8, q_l9, q_l10, q_l11, q_l12, q_l13, q_l14, q_l15, q_l16, q_l19, q_l20, q_l22, q_l24, q_l30, q_l32, q_l34, q_l36, q_l45, q_l47, q_l48, q_l57, q_l58, q_l59, q_l60, q_l61, q_l66, q_l75, q_l76, q_l94, q_l97, q_l99, q_l100, q_l101, q_l104, q_l105, q_l108, q_l109, q_l111, q_l114, q_l115, q_l116, q_l117, q_l118, q_l119, q_l120, q_l126, q_l132, q_l133, q_l135, q_l136, q_l138, q_l146, q_l147, q_l148, q_l149, q_l150, q_l151, q_l152, q_l153, q_l154, q_l155, q_l156, q_l157, q_l158, q_l214, q_l229, q_l244, q_l259, q_l300, q_l999, q_l1813, q_l2072, q_l10000, q_l65536, q_l1000000000, c_isBerth hb, q_gsn, q_gsk, q_gss, hM]
theorem m_wrong {M : gM} {b t : Nat} (hM : M 151 = r) (hb : b < 3) (ht : t < 3) (h : r (16 + b) = nI t) : f_X7_isWrongAt (nI b) M = some (gw M 151 (wrR r b t)) := by
  unfold f_X7_isWrongAt wrR
  by_cases e : t + 1 = 3
  · rw [if_pos e]
    simp (disch := omega) only [q_seqr, q_seql, q_ig, q_ni, q_le, q_nle, q_lt, q_nlt, q_eq, q_ne, q_eqr, q_gbt, q_gbf, q_gbd, q_m1lt, q_m1ge, q_m1ne, q_m1eq, q_m1e, Option.bind_some, gLet, nI_add, pk_mul, q_sub, q_m1, q_div, q_modN, nI_clamp, if_true, if_false, Bool.false_eq_true, q_l0, q_l1, q_l2, q_l3, q_l4, q_l5, q_l6, q_l7, q_l8, q_l9, q_l10, q_l11, q_l12, q_l13, q_l14, q_l15, q_l16, q_l19, q_l20, q_l22, q_l24, q_l30, q_l32, q_l34, q_l36, q_l45, q_l47, q_l48, q_l57, q_l58, q_l59, q_l60, q_l61, q_l66, q_l75, q_l76, q_l94, q_l97, q_l99, q_l100, q_l101, q_l104, q_l105, q_l108, q_l109, q_l111, q_l114, q_l115, q_l116, q_l117, q_l118, q_l119, q_l120, q_l126, q_l132, q_l133, q_l135, q_l136, q_l138, q_l146, q_l147, q_l148, q_l149, q_l150, q_l151, q_l152, q_l153, q_l154, q_l155, q_l156, q_l157, q_l158, q_l214, q_l229, q_l244, q_l259, q_l300, q_l999, q_l1813, q_l2072, q_l10000, q_l65536, q_l1000000000, q_gs151, gw_same, gw_gw, hM, q_upn, q_ups, h, e]
  · rw [if_neg e]
    simp (disch := omega) only [q_seqr, q_seql, q_ig, q_ni, q_le, q_nle, q_lt, q_nlt, q_eq, q_ne, q_eqr, q_gbt, q_gbf, q_gbd, q_m1lt, q_m1ge, q_m1ne, q_m1eq, q_m1e, Option.bind_some, gLet, nI_add, pk_mul, q_sub, q_m1, q_div, q_modN, nI_clamp, if_true, if_false, Bool.false_eq_true, q_l0, q_l1, q_l2, q_l3, q_l4, q_l5, q_l6, q_l7, q_l8, q_l9, q_l10, q_l11, q_l12, q_l13, q_l14, q_l15, q_l16, q_l19, q_l20, q_l22, q_l24, q_l30, q_l32, q_l34, q_l36, q_l45, q_l47, q_l48, q_l57, q_l58, q_l59, q_l60, q_l61, q_l66, q_l75, q_l76, q_l94, q_l97, q_l99, q_l100, q_l101, q_l104, q_l105, q_l108, q_l109, q_l111, q_l114, q_l115, q_l116, q_l117, q_l118, q_l119, q_l120, q_l126, q_l132, q_l133, q_l135, q_l136, q_l138, q_l146, q_l147, q_l148, q_l149, q_l150, q_l151, q_l152, q_l153, q_l154, q_l155, q_l156, q_l157, q_l158, q_l214, q_l229, q_l244, q_l259, q_l300, q_l999, q_l1813, q_l2072, q_l10000, q_l65536, q_l1000000000, q_gs151, gw_same, gw_gw, hM, q_upn, q_ups, h]
theorem wr_sim {M : gM} {o b t : Nat} (g : gSim M o r) (hb : b < 3) (ht : t < 3) : gSim (wrM M o b t) o (wrR r b t) := by
  refine gSim_keep g (fun a h1 h2 => wrM_fr (by omega)) (fun k hk => wrR_o (by omega) (by omega) (by omega) (by omega)) ?_ (fun b' hb' => ?_) (fun b' hb' => ?_)
  · rw [wrR_2 hb, wrR_5 hb, wrR_o (j := 0) (by omega) (by omega) (by omega) (by omega), wrR_o (j := 1) (by omega) (by omega) (by omega) (by omega), wrR_o (j := 3) (by omega) (by omega) (by omega) (by omega), wrR_o (j := 4) (by omega) (by omega) (by omega) (by omega)]
    obtain ⟨g1, g2, g3, g4, g5, g6⟩ := g.1
    rw [← g1, ← g2, ← g3, ← g4, ← g5, ← g6]
    unfold wrM
    split
    · simp (disch := omega) only [q_gsn, q_gsk, q_gss, true_and]
    · simp (disch := omega) only [q_gsn, q_gsk, q_gss, true_and]
  · rw [wrM_fr (by omega), wrM_fr (by omega), wrR_o (by omega) (by omega) (by omega) (by omega), wrR_o (by omega) (by omega) (by omega) (by omega), wrR_o (by omega) (by omega) (by omega) (by omega)]
    exact g.2.1 b' hb'
  · have h3 := g.2.2.1 b' hb'
    by_cases e : b' = b
    · subst e
      rw [wrR_16 hb, wrR_19 hb]
      unfold wrM
      by_cases e : t + 1 = 3
      · rw [if_pos e, if_pos e, if_pos e]
        simp (disch := omega) only [q_gsn, q_gsk, q_gss, true_and, and_self]
      · rw [if_neg e, if_neg e, if_neg e]
        simp (disch := omega) only [q_gsn, q_gsk, q_gss, true_and]
        exact h3.2
    · rw [wrR_o (by omega) (by omega) (by omega) (by omega), wrR_o (by omega) (by omega) (by omega) (by omega)]
      unfold wrM
      split
      · simp (disch := omega) only [q_gsn, q_gsk]
        exact h3
      · simp (disch := omega) only [q_gsn, q_gsk]
        exact h3
theorem m_clear1 {M : gM} (w : gRow β r) (hM : M 151 = r) {b s h u k : Nat} (hb : b < 3) (hs : s < 4) (h1 : r (7 + b) = nI 1) (l0 : r (19 + b) = nI 0) (hh : hN r (b * 4 + s) = h + 1) (hy15 : yN r < 15)
    (hu : r (94 + (5 * (b * 4 + s) + h)) = nI u) (hk : r (154 + (5 * (b * 4 + s) + h)) = nI k) (hu9 : u ≤ 30) (hk9 : k ≤ 99) :
    f_X7_clears (nI b) (nI s) (nI ((k * 7 + u) % 10)) M = some (nI 1, gs (gw M 151 (clR r (b * 4 + s) h (yN r))) 150 13 (nI 0)) := by
  have hp : b * 4 + s < 12 := by omega
  obtain ⟨hh', h5⟩ := w.h hp
  have hy := w.y.1
  rw [hh] at hh' h5
  have ed : (5 * (b * 4 + s) + h) / 5 = b * 4 + s := by omega
  have e4 : 20 * b + 5 * s + h = 5 * (b * 4 + s) + h := by omega
  have mh := m_height0 (M := M) hb hs (by rw [hM]; exact hh')
  obtain ⟨Q, hQ⟩ : ∃ Q, Q = 5 * (b * 4 + s) + h := ⟨_, rfl⟩
  have hQ60 : Q < 60 := by omega
  rw [← hQ] at hu hk e4 ed
  unfold f_X7_clears f_X7_cell
  simp (disch := omega) only [↓reduceIte, eq_self, Bool.true_eq_false, Bool.false_eq_true, q_seqr, q_seql, v_ig, v_ni, v_le, v_nle, v_lt, v_nlt, v_eq, v_ne, v_gbt, v_gbf, v_gbd, v_m1lt, v_m1ge, v_m1ne, v_m1e, ↓q_bindD, ↓q_gLet, Option.isSome_some, Option.getD_some, nI_add, pk_mul, q_sub, q_m1, q_div, q_modN, nI_clamp, if_true, if_false, q_l0, q_l1, q_l2, q_l3, q_l4, q_l5, q_l6, q_l7, q_l8, q_l9, q_l10, q_l11, q_l12, q_l13, q_l14, q_l15, q_l16, q_l19, q_l20, q_l22, q_l24, q_l30, q_l32, q_l34, q_l36, q_l45, q_l47, q_l48, q_l57, q_l58, q_l59, q_l60, q_l61, q_l66, q_l75, q_l76, q_l94, q_l97, q_l99, q_l100, q_l101, q_l104, q_l105, q_l108, q_l109, q_l111, q_l114, q_l115, q_l116, q_l117, q_l118, q_l119, q_l120, q_l126, q_l132, q_l133, q_l135, q_l136, q_l138, q_l146, q_l147, q_l148, q_l149, q_l150, q_l151, q_l152, q_l153, q_l154, q_l155, q_l156, q_l157, q_l158, q_l214, q_l229, q_l244, q_l259, q_l300, q_l999, q_l1813, q_l2072, q_l10000, q_l65536, q_l1000000000, m_done, m_fails, m_thrown, m_th, gs_same, q_gsgs, c_raise0, c_raise1, c_raise2, c_raise3, c_raise4, m_isStack hb hs, m_in_t, mh, Nat.add_sub_cancel, hM, h1, l0, hy, e4, ed, hu, hk, m_answer, q_gs151, gw_same, gw_gw, q_upn, q_ups, hh']
  unfold clR
  rw [← hQ, hu, hk]
theorem m_clear0 {M : gM} (w : gRow β r) (hM : M 151 = r) {b s h u k a t : Nat} (hb : b < 3) (hs : s < 4) (h1 : r (7 + b) = nI 1) (l0 : r (19 + b) = nI 0) (hh : hN r (b * 4 + s) = h + 1) (hy15 : yN r < 15)
    (hu : r (94 + (5 * (b * 4 + s) + h)) = nI u) (hk : r (154 + (5 * (b * 4 + s) + h)) = nI k) (hu9 : u ≤ 30) (hk9 : k ≤ 99) (ha : a ≤ 9) (hne : (k * 7 + u) % 10 ≠ a) (ht : t < 3) (ht1 : r (16 + b) = nI t) :
    f_X7_clears (nI b) (nI s) (nI a) M = some (nI 0, gs (gw M 151 (wrR r b t)) 150 13 (nI 0)) := by
  have hp : b * 4 + s < 12 := by omega
  obtain ⟨hh', h5⟩ := w.h hp
  have hy := w.y.1
  rw [hh] at hh' h5
  have e4 : 20 * b + 5 * s + h = 5 * (b * 4 + s) + h := by omega
  have mh := m_height0 (M := M) hb hs (by rw [hM]; exact hh')
  have mw := m_wrong hM hb ht ht1
  unfold f_X7_clears f_X7_cell
  simp (disch := omega) only [↓reduceIte, eq_self, Bool.true_eq_false, Bool.false_eq_true, q_seqr, q_seql, v_ig, v_ni, v_le, v_nle, v_lt, v_nlt, v_eq, v_ne, v_gbt, v_gbf, v_gbd, v_m1lt, v_m1ge, v_m1ne, v_m1e, ↓q_bindD, ↓q_gLet, Option.isSome_some, Option.getD_some, nI_add, pk_mul, q_sub, q_m1, q_div, q_modN, nI_clamp, if_true, if_false, q_l0, q_l1, q_l2, q_l3, q_l4, q_l5, q_l6, q_l7, q_l8, q_l9, q_l10, q_l11, q_l12, q_l13, q_l14, q_l15, q_l16, q_l19, q_l20, q_l22, q_l24, q_l30, q_l32, q_l34, q_l36, q_l45, q_l47, q_l48, q_l57, q_l58, q_l59, q_l60, q_l61, q_l66, q_l75, q_l76, q_l94, q_l97, q_l99, q_l100, q_l101, q_l104, q_l105, q_l108, q_l109, q_l111, q_l114, q_l115, q_l116, q_l117, q_l118, q_l119, q_l120, q_l126, q_l132, q_l133, q_l135, q_l136, q_l138, q_l146, q_l147, q_l148, q_l149, q_l150, q_l151, q_l152, q_l153, q_l154, q_l155, q_l156, q_l157, q_l158, q_l214, q_l229, q_l244, q_l259, q_l300, q_l999, q_l1813, q_l2072, q_l10000, q_l65536, q_l1000000000, m_done, m_fails, m_thrown, m_th, gs_same, q_gsgs, c_raise0, c_raise1, c_raise2, c_raise3, c_raise4, m_isStack hb hs, m_in_t, mh, Nat.add_sub_cancel, hM, h1, l0, hy, e4, hu, hk, m_answer, mw]
theorem m_clearN {M : gM} (w : gRow β r) (hM : M 151 = r) {b s a : Nat} (hb : b < 3) (hs : s < 4) (ha : a ≤ 9) (ok : ¬ (r (7 + b) = nI 1 ∧ lkN r b = 0 ∧ hN r (b * 4 + s) ≠ 0 ∧ yN r < 15)) :
    f_X7_clears (nI b) (nI s) (nI a) M = some (nI 0, gs M 150 13 (nI 3)) := by
  have hp : b * 4 + s < 12 := by omega
  obtain ⟨hh', h5⟩ := w.h hp
  obtain ⟨hy, hy15⟩ := w.y
  have mh := m_height0 (M := M) hb hs (by rw [hM]; exact hh')
  have hl := lk_eq w hb
  have ll := hl.2
  unfold f_X7_clears
  by_cases c1 : hN r (b * 4 + s) = 0
  · rcases w.b hb with h0 | ⟨h1, -⟩
    · simp (disch := omega) only [↓reduceIte, eq_self, Bool.true_eq_false, Bool.false_eq_true, q_seqr, q_seql, v_ig, v_ni, v_le, v_nle, v_lt, v_nlt, v_eq, v_ne, v_gbt, v_gbf, v_gbd, v_m1lt, v_m1ge, v_m1ne, v_m1e, ↓q_bindD, ↓q_gLet, Option.isSome_some, Option.getD_some, nI_add, pk_mul, q_sub, q_m1, q_div, q_modN, nI_clamp, if_true, if_false, q_l0, q_l1, q_l2, q_l3, q_l4, q_l5, q_l6, q_l7, q_l8, q_l9, q_l10, q_l11, q_l12, q_l13, q_l14, q_l15, q_l16, q_l19, q_l20, q_l22, q_l24, q_l30, q_l32, q_l34, q_l36, q_l45, q_l47, q_l48, q_l57, q_l58, q_l59, q_l60, q_l61, q_l66, q_l75, q_l76, q_l94, q_l97, q_l99, q_l100, q_l101, q_l104, q_l105, q_l108, q_l109, q_l111, q_l114, q_l115, q_l116, q_l117, q_l118, q_l119, q_l120, q_l126, q_l132, q_l133, q_l135, q_l136, q_l138, q_l146, q_l147, q_l148, q_l149, q_l150, q_l151, q_l152, q_l153, q_l154, q_l155, q_l156, q_l157, q_l158, q_l214, q_l229, q_l244, q_l259, q_l300, q_l999, q_l1813, q_l2072, q_l10000, q_l65536, q_l1000000000, m_done, m_fails, m_thrown, m_th, gs_same, q_gsgs, c_raise0, c_raise1, c_raise2, c_raise3, c_raise4, m_isStack hb hs, m_in_t, mh, c1, q_s01, hM, h0]
    · by_cases c3 : lkN r b = 0
      · simp (disch := omega) only [↓reduceIte, eq_self, Bool.true_eq_false, Bool.false_eq_true, q_seqr, q_seql, v_ig, v_ni, v_le, v_nle, v_lt, v_nlt, v_eq, v_ne, v_gbt, v_gbf, v_gbd, v_m1lt, v_m1ge, v_m1ne, v_m1e, ↓q_bindD, ↓q_gLet, Option.isSome_some, Option.getD_some, nI_add, pk_mul, q_sub, q_m1, q_div, q_modN, nI_clamp, if_true, if_false, q_l0, q_l1, q_l2, q_l3, q_l4, q_l5, q_l6, q_l7, q_l8, q_l9, q_l10, q_l11, q_l12, q_l13, q_l14, q_l15, q_l16, q_l19, q_l20, q_l22, q_l24, q_l30, q_l32, q_l34, q_l36, q_l45, q_l47, q_l48, q_l57, q_l58, q_l59, q_l60, q_l61, q_l66, q_l75, q_l76, q_l94, q_l97, q_l99, q_l100, q_l101, q_l104, q_l105, q_l108, q_l109, q_l111, q_l114, q_l115, q_l116, q_l117, q_l118, q_l119, q_l120, q_l126, q_l132, q_l133, q_l135, q_l136, q_l138, q_l146, q_l147, q_l148, q_l149, q_l150, q_l151, q_l152, q_l153, q_l154, q_l155, q_l156, q_l157, q_l158, q_l214, q_l229, q_l244, q_l259, q_l300, q_l999, q_l1813, q_l2072, q_l10000, q_l65536, q_l1000000000, m_done, m_fails, m_thrown, m_th, gs_same, q_gsgs, c_raise0, c_raise1, c_raise2, c_raise3, c_raise4, m_isStack hb hs, m_in_t, mh, c1, q_s01, hM, h1, hl.1]
      · simp (disch := omega) only [↓reduceIte, eq_self, Bool.true_eq_false, Bool.false_eq_true, q_seqr, q_seql, v_ig, v_ni, v_le, v_nle, v_lt, v_nlt, v_eq, v_ne, v_gbt, v_gbf, v_gbd, v_m1lt, v_m1ge, v_m1ne, v_m1e, ↓q_bindD, ↓q_gLet, Option.isSome_some, Option.getD_some, nI_add, pk_mul, q_sub, q_m1, q_div, q_modN, nI_clamp, if_true, if_false, q_l0, q_l1, q_l2, q_l3, q_l4, q_l5, q_l6, q_l7, q_l8, q_l9, q_l10, q_l11, q_l12, q_l13, q_l14, q_l15, q_l16, q_l19, q_l20, q_l22, q_l24, q_l30, q_l32, q_l34, q_l36, q_l45, q_l47, q_l48, q_l57, q_l58, q_l59, q_l60, q_l61, q_l66, q_l75, q_l76, q_l94, q_l97, q_l99, q_l100, q_l101, q_l104, q_l105, q_l108, q_l109, q_l111, q_l114, q_l115, q_l116, q_l117, q_l118, q_l119, q_l120, q_l126, q_l132, q_l133, q_l135, q_l136, q_l138, q_l146, q_l147, q_l148, q_l149, q_l150, q_l151, q_l152, q_l153, q_l154, q_l155, q_l156, q_l157, q_l158, q_l214, q_l229, q_l244, q_l259, q_l300, q_l999, q_l1813, q_l2072, q_l10000, q_l65536, q_l1000000000, m_done, m_fails, m_thrown, m_th, gs_same, q_gsgs, c_raise0, c_raise1, c_raise2, c_raise3, c_raise4, m_isStack hb hs, m_in_t, mh, c1, q_s01, hM, h1, hl.1]
  · rcases w.b hb with h0 | ⟨h1, -⟩
    · simp (disch := omega) only [↓reduceIte, eq_self, Bool.true_eq_false, Bool.false_eq_true, q_seqr, q_seql, v_ig, v_ni, v_le, v_nle, v_lt, v_nlt, v_eq, v_ne, v_gbt, v_gbf, v_gbd, v_m1lt, v_m1ge, v_m1ne, v_m1e, ↓q_bindD, ↓q_gLet, Option.isSome_some, Option.getD_some, nI_add, pk_mul, q_sub, q_m1, q_div, q_modN, nI_clamp, if_true, if_false, q_l0, q_l1, q_l2, q_l3, q_l4, q_l5, q_l6, q_l7, q_l8, q_l9, q_l10, q_l11, q_l12, q_l13, q_l14, q_l15, q_l16, q_l19, q_l20, q_l22, q_l24, q_l30, q_l32, q_l34, q_l36, q_l45, q_l47, q_l48, q_l57, q_l58, q_l59, q_l60, q_l61, q_l66, q_l75, q_l76, q_l94, q_l97, q_l99, q_l100, q_l101, q_l104, q_l105, q_l108, q_l109, q_l111, q_l114, q_l115, q_l116, q_l117, q_l118, q_l119, q_l120, q_l126, q_l132, q_l133, q_l135, q_l136, q_l138, q_l146, q_l147, q_l148, q_l149, q_l150, q_l151, q_l152, q_l153, q_l154, q_l155, q_l156, q_l157, q_l158, q_l214, q_l229, q_l244, q_l259, q_l300, q_l999, q_l1813, q_l2072, q_l10000, q_l65536, q_l1000000000, m_done, m_fails, m_thrown, m_th, gs_same, q_gsgs, c_raise0, c_raise1, c_raise2, c_raise3, c_raise4, m_isStack hb hs, m_in_t, mh, hM, h0]
    · have ok : ¬ (lkN r b = 0 ∧ yN r < 15) := fun q => ok ⟨h1, q.1, c1, q.2⟩
      by_cases c3 : lkN r b = 0
      · have y15 : yN r = 15 := by
          by_cases q : yN r < 15
          · exact absurd ⟨c3, q⟩ ok
          · omega
        simp (disch := omega) only [↓reduceIte, eq_self, Bool.true_eq_false, Bool.false_eq_true, q_seqr, q_seql, v_ig, v_ni, v_le, v_nle, v_lt, v_nlt, v_eq, v_ne, v_gbt, v_gbf, v_gbd, v_m1lt, v_m1ge, v_m1ne, v_m1e, ↓q_bindD, ↓q_gLet, Option.isSome_some, Option.getD_some, nI_add, pk_mul, q_sub, q_m1, q_div, q_modN, nI_clamp, if_true, if_false, q_l0, q_l1, q_l2, q_l3, q_l4, q_l5, q_l6, q_l7, q_l8, q_l9, q_l10, q_l11, q_l12, q_l13, q_l14, q_l15, q_l16, q_l19, q_l20, q_l22, q_l24, q_l30, q_l32, q_l34, q_l36, q_l45, q_l47, q_l48, q_l57, q_l58, q_l59, q_l60, q_l61, q_l66, q_l75, q_l76, q_l94, q_l97, q_l99, q_l100, q_l101, q_l104, q_l105, q_l108, q_l109, q_l111, q_l114, q_l115, q_l116, q_l117, q_l118, q_l119, q_l120, q_l126, q_l132, q_l133, q_l135, q_l136, q_l138, q_l146, q_l147, q_l148, q_l149, q_l150, q_l151, q_l152, q_l153, q_l154, q_l155, q_l156, q_l157, q_l158, q_l214, q_l229, q_l244, q_l259, q_l300, q_l999, q_l1813, q_l2072, q_l10000, q_l65536, q_l1000000000, m_done, m_fails, m_thrown, m_th, gs_same, q_gsgs, c_raise0, c_raise1, c_raise2, c_raise3, c_raise4, m_isStack hb hs, m_in_t, mh, hM, h1, hl.1, hy, y15]
      · simp (disch := omega) only [↓reduceIte, eq_self, Bool.true_eq_false, Bool.false_eq_true, q_seqr, q_seql, v_ig, v_ni, v_le, v_nle, v_lt, v_nlt, v_eq, v_ne, v_gbt, v_gbf, v_gbd, v_m1lt, v_m1ge, v_m1ne, v_m1e, ↓q_bindD, ↓q_gLet, Option.isSome_some, Option.getD_some, nI_add, pk_mul, q_sub, q_m1, q_div, q_modN, nI_clamp, if_true, if_false, q_l0, q_l1, q_l2, q_l3, q_l4, q_l5, q_l6, q_l7, q_l8, q_l9, q_l10, q_l11, q_l12, q_l13, q_l14, q_l15, q_l16, q_l19, q_l20, q_l22, q_l24, q_l30, q_l32, q_l34, q_l36, q_l45, q_l47, q_l48, q_l57, q_l58, q_l59, q_l60, q_l61, q_l66, q_l75, q_l76, q_l94, q_l97, q_l99, q_l100, q_l101, q_l104, q_l105, q_l108, q_l109, q_l111, q_l114, q_l115, q_l116, q_l117, q_l118, q_l119, q_l120, q_l126, q_l132, q_l133, q_l135, q_l136, q_l138, q_l146, q_l147, q_l148, q_l149, q_l150, q_l151, q_l152, q_l153, q_l154, q_l155, q_l156, q_l157, q_l158, q_l214, q_l229, q_l244, q_l259, q_l300, q_l999, q_l1813, q_l2072, q_l10000, q_l65536, q_l1000000000, m_done, m_fails, m_thrown, m_th, gs_same, q_gsgs, c_raise0, c_raise1, c_raise2, c_raise3, c_raise4, m_isStack hb hs, m_in_t, mh, hM, h1, hl.1]
theorem c_clearN {M : gM} {o : Nat} (g : gSim M o r) (w : gRow β r) {b s a : Nat} (hb : b < 3) (hs : s < 4) (ha : a ≤ 9) : f_X5_clearingFault o (nI b) (nI s) (nI a) M = some (if r (7 + b) = nI 1 ∧ lkN r b = 0 ∧ hN r (b * 4 + s) ≠ 0 ∧ yN r < 15 then nI 0 else nI 3) := by
  have hp : b * 4 + s < 12 := by omega
  obtain ⟨hh', h5⟩ := w.h hp
  obtain ⟨hy, hy15⟩ := w.y
  have hl := lk_eq w hb
  have ll := hl.2
  have e11 : M (o + 11) b = nI (lkN r b) := by rw [(g.2.2.1 b hb).2, hl.1]
  have sh := sim_height g w hp
  rw [hh'] at sh
  have sy := sim_yard g w
  rw [hy] at sy
  have rP : ∀ {P : Prop} {_ : Decidable P}, P → (if P then nI 0 else nI 3) = nI 0 := fun h => if_pos h
  have rN : ∀ {P : Prop} {_ : Decidable P}, ¬ P → (if P then nI 0 else nI 3) = nI 3 := fun h => if_neg h
  unfold f_X5_clearingFault
  rcases sim_ship g w hb with ⟨h3, h2⟩ | ⟨h3, h2, -⟩
  · rw [rN (fun q => by rw [h3] at q; exact absurd q.1 (by decide))]
    by_cases c1 : hN r (b * 4 + s) = 0
    · by_cases c2 : yN r < 15
      · simp (disch := omega) only [↓reduceIte, eq_self, Bool.true_eq_false, Bool.false_eq_true, q_seqr, q_seql, v_ig, v_ni, v_le, v_nle, v_lt, v_nlt, v_eq, v_ne, v_gbt, v_gbf, v_gbd, v_m1lt, v_m1ge, v_m1ne, v_m1e, ↓q_bindD, ↓q_gLet, Option.isSome_some, Option.getD_some, nI_add, pk_mul, q_sub, q_m1, q_div, q_modN, nI_clamp, if_true, if_false, q_l0, q_l1, q_l2, q_l3, q_l4, q_l5, q_l6, q_l7, q_l8, q_l9, q_l10, q_l11, q_l12, q_l13, q_l14, q_l15, q_l16, q_l19, q_l20, q_l22, q_l24, q_l30, q_l32, q_l34, q_l36, q_l45, q_l47, q_l48, q_l57, q_l58, q_l59, q_l60, q_l61, q_l66, q_l75, q_l76, q_l94, q_l97, q_l99, q_l100, q_l101, q_l104, q_l105, q_l108, q_l109, q_l111, q_l114, q_l115, q_l116, q_l117, q_l118, q_l119, q_l120, q_l126, q_l132, q_l133, q_l135, q_l136, q_l138, q_l146, q_l147, q_l148, q_l149, q_l150, q_l151, q_l152, q_l153, q_l154, q_l155, q_l156, q_l157, q_l158, q_l214, q_l229, q_l244, q_l259, q_l300, q_l999, q_l1813, q_l2072, q_l10000, q_l65536, q_l1000000000, c_isBerth hb, c_isStack hs, c_pileOf, sh, sy, h2]
      · simp (disch := omega) only [↓reduceIte, eq_self, Bool.true_eq_false, Bool.false_eq_true, q_seqr, q_seql, v_ig, v_ni, v_le, v_nle, v_lt, v_nlt, v_eq, v_ne, v_gbt, v_gbf, v_gbd, v_m1lt, v_m1ge, v_m1ne, v_m1e, ↓q_bindD, ↓q_gLet, Option.isSome_some, Option.getD_some, nI_add, pk_mul, q_sub, q_m1, q_div, q_modN, nI_clamp, if_true, if_false, q_l0, q_l1, q_l2, q_l3, q_l4, q_l5, q_l6, q_l7, q_l8, q_l9, q_l10, q_l11, q_l12, q_l13, q_l14, q_l15, q_l16, q_l19, q_l20, q_l22, q_l24, q_l30, q_l32, q_l34, q_l36, q_l45, q_l47, q_l48, q_l57, q_l58, q_l59, q_l60, q_l61, q_l66, q_l75, q_l76, q_l94, q_l97, q_l99, q_l100, q_l101, q_l104, q_l105, q_l108, q_l109, q_l111, q_l114, q_l115, q_l116, q_l117, q_l118, q_l119, q_l120, q_l126, q_l132, q_l133, q_l135, q_l136, q_l138, q_l146, q_l147, q_l148, q_l149, q_l150, q_l151, q_l152, q_l153, q_l154, q_l155, q_l156, q_l157, q_l158, q_l214, q_l229, q_l244, q_l259, q_l300, q_l999, q_l1813, q_l2072, q_l10000, q_l65536, q_l1000000000, c_isBerth hb, c_isStack hs, c_pileOf, sh, sy, h2]
    · by_cases c2 : yN r < 15
      · simp (disch := omega) only [↓reduceIte, eq_self, Bool.true_eq_false, Bool.false_eq_true, q_seqr, q_seql, v_ig, v_ni, v_le, v_nle, v_lt, v_nlt, v_eq, v_ne, v_gbt, v_gbf, v_gbd, v_m1lt, v_m1ge, v_m1ne, v_m1e, ↓q_bindD, ↓q_gLet, Option.isSome_some, Option.getD_some, nI_add, pk_mul, q_sub, q_m1, q_div, q_modN, nI_clamp, if_true, if_false, q_l0, q_l1, q_l2, q_l3, q_l4, q_l5, q_l6, q_l7, q_l8, q_l9, q_l10, q_l11, q_l12, q_l13, q_l14, q_l15, q_l16, q_l19, q_l20, q_l22, q_l24, q_l30, q_l32, q_l34, q_l36, q_l45, q_l47, q_l48, q_l57, q_l58, q_l59, q_l60, q_l61, q_l66, q_l75, q_l76, q_l94, q_l97, q_l99, q_l100, q_l101, q_l104, q_l105, q_l108, q_l109, q_l111, q_l114, q_l115, q_l116, q_l117, q_l118, q_l119, q_l120, q_l126, q_l132, q_l133, q_l135, q_l136, q_l138, q_l146, q_l147, q_l148, q_l149, q_l150, q_l151, q_l152, q_l153, q_l154, q_l155, q_l156, q_l157, q_l158, q_l214, q_l229, q_l244, q_l259, q_l300, q_l999, q_l1813, q_l2072, q_l10000, q_l65536, q_l1000000000, c_isBerth hb, c_isStack hs, c_pileOf, sh, sy, h2]
      · simp (disch := omega) only [↓reduceIte, eq_self, Bool.true_eq_false, Bool.false_eq_true, q_seqr, q_seql, v_ig, v_ni, v_le, v_nle, v_lt, v_nlt, v_eq, v_ne, v_gbt, v_gbf, v_gbd, v_m1lt, v_m1ge, v_m1ne, v_m1e, ↓q_bindD, ↓q_gLet, Option.isSome_some, Option.getD_some, nI_add, pk_mul, q_sub, q_m1, q_div, q_modN, nI_clamp, if_true, if_false, q_l0, q_l1, q_l2, q_l3, q_l4, q_l5, q_l6, q_l7, q_l8, q_l9, q_l10, q_l11, q_l12, q_l13, q_l14, q_l15, q_l16, q_l19, q_l20, q_l22, q_l24, q_l30, q_l32, q_l34, q_l36, q_l45, q_l47, q_l48, q_l57, q_l58, q_l59, q_l60, q_l61, q_l66, q_l75, q_l76, q_l94, q_l97, q_l99, q_l100, q_l101, q_l104, q_l105, q_l108, q_l109, q_l111, q_l114, q_l115, q_l116, q_l117, q_l118, q_l119, q_l120, q_l126, q_l132, q_l133, q_l135, q_l136, q_l138, q_l146, q_l147, q_l148, q_l149, q_l150, q_l151, q_l152, q_l153, q_l154, q_l155, q_l156, q_l157, q_l158, q_l214, q_l229, q_l244, q_l259, q_l300, q_l999, q_l1813, q_l2072, q_l10000, q_l65536, q_l1000000000, c_isBerth hb, c_isStack hs, c_pileOf, sh, sy, h2]
  · by_cases c1 : hN r (b * 4 + s) = 0
    · rw [rN (fun q => q.2.2.1 c1)]
      by_cases c2 : yN r < 15
      · by_cases c3 : lkN r b = 0
        · simp (disch := omega) only [↓reduceIte, eq_self, Bool.true_eq_false, Bool.false_eq_true, q_seqr, q_seql, v_ig, v_ni, v_le, v_nle, v_lt, v_nlt, v_eq, v_ne, v_gbt, v_gbf, v_gbd, v_m1lt, v_m1ge, v_m1ne, v_m1e, ↓q_bindD, ↓q_gLet, Option.isSome_some, Option.getD_some, nI_add, pk_mul, q_sub, q_m1, q_div, q_modN, nI_clamp, if_true, if_false, q_l0, q_l1, q_l2, q_l3, q_l4, q_l5, q_l6, q_l7, q_l8, q_l9, q_l10, q_l11, q_l12, q_l13, q_l14, q_l15, q_l16, q_l19, q_l20, q_l22, q_l24, q_l30, q_l32, q_l34, q_l36, q_l45, q_l47, q_l48, q_l57, q_l58, q_l59, q_l60, q_l61, q_l66, q_l75, q_l76, q_l94, q_l97, q_l99, q_l100, q_l101, q_l104, q_l105, q_l108, q_l109, q_l111, q_l114, q_l115, q_l116, q_l117, q_l118, q_l119, q_l120, q_l126, q_l132, q_l133, q_l135, q_l136, q_l138, q_l146, q_l147, q_l148, q_l149, q_l150, q_l151, q_l152, q_l153, q_l154, q_l155, q_l156, q_l157, q_l158, q_l214, q_l229, q_l244, q_l259, q_l300, q_l999, q_l1813, q_l2072, q_l10000, q_l65536, q_l1000000000, c_isBerth hb, c_isStack hs, c_pileOf, sh, sy, h2, e11]
        · simp (disch := omega) only [↓reduceIte, eq_self, Bool.true_eq_false, Bool.false_eq_true, q_seqr, q_seql, v_ig, v_ni, v_le, v_nle, v_lt, v_nlt, v_eq, v_ne, v_gbt, v_gbf, v_gbd, v_m1lt, v_m1ge, v_m1ne, v_m1e, ↓q_bindD, ↓q_gLet, Option.isSome_some, Option.getD_some, nI_add, pk_mul, q_sub, q_m1, q_div, q_modN, nI_clamp, if_true, if_false, q_l0, q_l1, q_l2, q_l3, q_l4, q_l5, q_l6, q_l7, q_l8, q_l9, q_l10, q_l11, q_l12, q_l13, q_l14, q_l15, q_l16, q_l19, q_l20, q_l22, q_l24, q_l30, q_l32, q_l34, q_l36, q_l45, q_l47, q_l48, q_l57, q_l58, q_l59, q_l60, q_l61, q_l66, q_l75, q_l76, q_l94, q_l97, q_l99, q_l100, q_l101, q_l104, q_l105, q_l108, q_l109, q_l111, q_l114, q_l115, q_l116, q_l117, q_l118, q_l119, q_l120, q_l126, q_l132, q_l133, q_l135, q_l136, q_l138, q_l146, q_l147, q_l148, q_l149, q_l150, q_l151, q_l152, q_l153, q_l154, q_l155, q_l156, q_l157, q_l158, q_l214, q_l229, q_l244, q_l259, q_l300, q_l999, q_l1813, q_l2072, q_l10000, q_l65536, q_l1000000000, c_isBerth hb, c_isStack hs, c_pileOf, sh, sy, h2, e11]
      · by_cases c3 : lkN r b = 0
        · simp (disch := omega) only [↓reduceIte, eq_self, Bool.true_eq_false, Bool.false_eq_true, q_seqr, q_seql, v_ig, v_ni, v_le, v_nle, v_lt, v_nlt, v_eq, v_ne, v_gbt, v_gbf, v_gbd, v_m1lt, v_m1ge, v_m1ne, v_m1e, ↓q_bindD, ↓q_gLet, Option.isSome_some, Option.getD_some, nI_add, pk_mul, q_sub, q_m1, q_div, q_modN, nI_clamp, if_true, if_false, q_l0, q_l1, q_l2, q_l3, q_l4, q_l5, q_l6, q_l7, q_l8, q_l9, q_l10, q_l11, q_l12, q_l13, q_l14, q_l15, q_l16, q_l19, q_l20, q_l22, q_l24, q_l30, q_l32, q_l34, q_l36, q_l45, q_l47, q_l48, q_l57, q_l58, q_l59, q_l60, q_l61, q_l66, q_l75, q_l76, q_l94, q_l97, q_l99, q_l100, q_l101, q_l104, q_l105, q_l108, q_l109, q_l111, q_l114, q_l115, q_l116, q_l117, q_l118, q_l119, q_l120, q_l126, q_l132, q_l133, q_l135, q_l136, q_l138, q_l146, q_l147, q_l148, q_l149, q_l150, q_l151, q_l152, q_l153, q_l154, q_l155, q_l156, q_l157, q_l158, q_l214, q_l229, q_l244, q_l259, q_l300, q_l999, q_l1813, q_l2072, q_l10000, q_l65536, q_l1000000000, c_isBerth hb, c_isStack hs, c_pileOf, sh, sy, h2, e11]
        · simp (disch := omega) only [↓reduceIte, eq_self, Bool.true_eq_false, Bool.false_eq_true, q_seqr, q_seql, v_ig, v_ni, v_le, v_nle, v_lt, v_nlt, v_eq, v_ne, v_gbt, v_gbf, v_gbd, v_m1lt, v_m1ge, v_m1ne, v_m1e, ↓q_bindD, ↓q_gLet, Option.isSome_some, Option.getD_some, nI_add, pk_mul, q_sub, q_m1, q_div, q_modN, nI_clamp, if_true, if_false, q_l0, q_l1, q_l2, q_l3, q_l4, q_l5, q_l6, q_l7, q_l8, q_l9, q_l10, q_l11, q_l12, q_l13, q_l14, q_l15, q_l16, q_l19, q_l20, q_l22, q_l24, q_l30, q_l32, q_l34, q_l36, q_l45, q_l47, q_l48, q_l57, q_l58, q_l59, q_l60, q_l61, q_l66, q_l75, q_l76, q_l94, q_l97, q_l99, q_l100, q_l101, q_l104, q_l105, q_l108, q_l109, q_l111, q_l114, q_l115, q_l116, q_l117, q_l118, q_l119, q_l120, q_l126, q_l132, q_l133, q_l135, q_l136, q_l138, q_l146, q_l147, q_l148, q_l149, q_l150, q_l151, q_l152, q_l153, q_l154, q_l155, q_l156, q_l157, q_l158, q_l214, q_l229, q_l244, q_l259, q_l300, q_l999, q_l1813, q_l2072, q_l10000, q_l65536, q_l1000000000, c_isBerth hb, c_isStack hs, c_pileOf, sh, sy, h2, e11]
    · by_cases c2 : yN r < 15
      · by_cases c3 : lkN r b = 0
        · rw [rP ⟨h3, c3, c1, c2⟩]
          simp (disch := omega) only [↓reduceIte, eq_self, Bool.true_eq_false, Bool.false_eq_true, q_seqr, q_seql, v_ig, v_ni, v_le, v_nle, v_lt, v_nlt, v_eq, v_ne, v_gbt, v_gbf, v_gbd, v_m1lt, v_m1ge, v_m1ne, v_m1e, ↓q_bindD, ↓q_gLet, Option.isSome_some, Option.getD_some, nI_add, pk_mul, q_sub, q_m1, q_div, q_modN, nI_clamp, if_true, if_false, q_l0, q_l1, q_l2, q_l3, q_l4, q_l5, q_l6, q_l7, q_l8, q_l9, q_l10, q_l11, q_l12, q_l13, q_l14, q_l15, q_l16, q_l19, q_l20, q_l22, q_l24, q_l30, q_l32, q_l34, q_l36, q_l45, q_l47, q_l48, q_l57, q_l58, q_l59, q_l60, q_l61, q_l66, q_l75, q_l76, q_l94, q_l97, q_l99, q_l100, q_l101, q_l104, q_l105, q_l108, q_l109, q_l111, q_l114, q_l115, q_l116, q_l117, q_l118, q_l119, q_l120, q_l126, q_l132, q_l133, q_l135, q_l136, q_l138, q_l146, q_l147, q_l148, q_l149, q_l150, q_l151, q_l152, q_l153, q_l154, q_l155, q_l156, q_l157, q_l158, q_l214, q_l229, q_l244, q_l259, q_l300, q_l999, q_l1813, q_l2072, q_l10000, q_l65536, q_l1000000000, c_isBerth hb, c_isStack hs, c_pileOf, sh, sy, h2, e11]
        · rw [rN (fun q => c3 q.2.1)]
          simp (disch := omega) only [↓reduceIte, eq_self, Bool.true_eq_false, Bool.false_eq_true, q_seqr, q_seql, v_ig, v_ni, v_le, v_nle, v_lt, v_nlt, v_eq, v_ne, v_gbt, v_gbf, v_gbd, v_m1lt, v_m1ge, v_m1ne, v_m1e, ↓q_bindD, ↓q_gLet, Option.isSome_some, Option.getD_some, nI_add, pk_mul, q_sub, q_m1, q_div, q_modN, nI_clamp, if_true, if_false, q_l0, q_l1, q_l2, q_l3, q_l4, q_l5, q_l6, q_l7, q_l8, q_l9, q_l10, q_l11, q_l12, q_l13, q_l14, q_l15, q_l16, q_l19, q_l20, q_l22, q_l24, q_l30, q_l32, q_l34, q_l36, q_l45, q_l47, q_l48, q_l57, q_l58, q_l59, q_l60, q_l61, q_l66, q_l75, q_l76, q_l94, q_l97, q_l99, q_l100, q_l101, q_l104, q_l105, q_l108, q_l109, q_l111, q_l114, q_l115, q_l116, q_l117, q_l118, q_l119, q_l120, q_l126, q_l132, q_l133, q_l135, q_l136, q_l138, q_l146, q_l147, q_l148, q_l149, q_l150, q_l151, q_l152, q_l153, q_l154, q_l155, q_l156, q_l157, q_l158, q_l214, q_l229, q_l244, q_l259, q_l300, q_l999, q_l1813, q_l2072, q_l10000, q_l65536, q_l1000000000, c_isBerth hb, c_isStack hs, c_pileOf, sh, sy, h2, e11]
      · rw [rN (fun q => c2 q.2.2.2)]
        by_cases c3 : lkN r b = 0
        · simp (disch := omega) only [↓reduceIte, eq_self, Bool.true_eq_false, Bool.false_eq_true, q_seqr, q_seql, v_ig, v_ni, v_le, v_nle, v_lt, v_nlt, v_eq, v_ne, v_gbt, v_gbf, v_gbd, v_m1lt, v_m1ge, v_m1ne, v_m1e, ↓q_bindD, ↓q_gLet, Option.isSome_some, Option.getD_some, nI_add, pk_mul, q_sub, q_m1, q_div, q_modN, nI_clamp, if_true, if_false, q_l0, q_l1, q_l2, q_l3, q_l4, q_l5, q_l6, q_l7, q_l8, q_l9, q_l10, q_l11, q_l12, q_l13, q_l14, q_l15, q_l16, q_l19, q_l20, q_l22, q_l24, q_l30, q_l32, q_l34, q_l36, q_l45, q_l47, q_l48, q_l57, q_l58, q_l59, q_l60, q_l61, q_l66, q_l75, q_l76, q_l94, q_l97, q_l99, q_l100, q_l101, q_l104, q_l105, q_l108, q_l109, q_l111, q_l114, q_l115, q_l116, q_l117, q_l118, q_l119, q_l120, q_l126, q_l132, q_l133, q_l135, q_l136, q_l138, q_l146, q_l147, q_l148, q_l149, q_l150, q_l151, q_l152, q_l153, q_l154, q_l155, q_l156, q_l157, q_l158, q_l214, q_l229, q_l244, q_l259, q_l300, q_l999, q_l1813, q_l2072, q_l10000, q_l65536, q_l1000000000, c_isBerth hb, c_isStack hs, c_pileOf, sh, sy, h2, e11]
        · simp (disch := omega) only [↓reduceIte, eq_self, Bool.true_eq_false, Bool.false_eq_true, q_seqr, q_seql, v_ig, v_ni, v_le, v_nle, v_lt, v_nlt, v_eq, v_ne, v_gbt, v_gbf, v_gbd, v_m1lt, v_m1ge, v_m1ne, v_m1e, ↓q_bindD, ↓q_gLet, Option.isSome_some, Option.getD_some, nI_add, pk_mul, q_sub, q_m1, q_div, q_modN, nI_clamp, if_true, if_false, q_l0, q_l1, q_l2, q_l3, q_l4, q_l5, q_l6, q_l7, q_l8, q_l9, q_l10, q_l11, q_l12, q_l13, q_l14, q_l15, q_l16, q_l19, q_l20, q_l22, q_l24, q_l30, q_l32, q_l34, q_l36, q_l45, q_l47, q_l48, q_l57, q_l58, q_l59, q_l60, q_l61, q_l66, q_l75, q_l76, q_l94, q_l97, q_l99, q_l100, q_l101, q_l104, q_l105, q_l108, q_l109, q_l111, q_l114, q_l115, q_l116, q_l117, q_l118, q_l119, q_l120, q_l126, q_l132, q_l133, q_l135, q_l136, q_l138, q_l146, q_l147, q_l148, q_l149, q_l150, q_l151, q_l152, q_l153, q_l154, q_l155, q_l156, q_l157, q_l158, q_l214, q_l229, q_l244, q_l259, q_l300, q_l999, q_l1813, q_l2072, q_l10000, q_l65536, q_l1000000000, c_isBerth hb, c_isStack hs, c_pileOf, sh, sy, h2, e11]
/-- the class's answer right -/
theorem c_clear1 {M : gM} {o c j p h : Nat} {v a : Int32} (g : gSim M o r) (w : gRow β r) (hp : p < 12) (hh : hN r p = h + 1) (hy15 : yN r < 15) (hc : M (o + 1) 6 = nI c) (h75 : c ≤ 75) (hP : (tRows M o c).Perm (tAll r)) (hpw : (tRows M o c).Pairwise (fun x y => x.1 < y.1))
    (hj : j < c) (ht : tRow M o j = tCell r (5 * p + h)) : gSim (gs (ptM M o j (nI 12) (nI (yN r))) o 8 (r 3 + nI 1)) o (clR r p h (yN r)) := by
  obtain ⟨hP', hA⟩ := clR_all w hp hh rfl hy15
  refine gSim_list (c := c) g (fun a h1 h2 => by rw [q_gsn (by omega), ptM_fr (by omega)]) (fun j hj => clR_o (by omega) (by omega) (by omega) (by omega)) ?_ ?_ h75 ?_ ?_
  · rw [q_gsk (by omega), q_gsk (by omega), q_gsk (by omega), q_gss rfl, q_gsk (by omega), q_gsk (by omega), ptM_fr (by omega), clR_3, clR_o (j := 0) (by omega) (by omega) (by omega) (by omega), clR_o (j := 2) (by omega) (by omega) (by omega) (by omega), clR_o (j := 1) (by omega) (by omega) (by omega) (by omega), clR_o (j := 4) (by omega) (by omega) (by omega) (by omega), clR_o (j := 5) (by omega) (by omega) (by omega) (by omega)]
    exact ⟨g.1.1, g.1.2.1, g.1.2.2.1, rfl, g.1.2.2.2.2⟩
  · rw [q_gsn (by omega), ptM_fr (by omega)]
    exact hc
  · rw [tRows_frame (fun a h1 h2 => q_gsn (by omega))]
    exact ptM_perm hj ht (hP.trans hP') hA
  · rw [tRows_frame (fun a h1 h2 => q_gsn (by omega))]
    exact rows_pw (ptM_fr (by omega)) hpw
theorem c_top {M : gM} {o p h u k : Nat} (g : gSim M o r) (w : gRow β r) (hp : p < 12) (hh : hN r p = h + 1) (hu : r (94 + (5 * p + h)) = nI u) (hk : r (154 + (5 * p + h)) = nI k) (hu9 : u ≤ 30) (hk9 : k ≤ 99) :
    ∃ c j, M (o + 1) 6 = nI c ∧ c ≤ 75 ∧ (tRows M o c).Perm (tAll r) ∧ (tRows M o c).Pairwise (fun x y => x.1 < y.1) ∧ j < c ∧ tRow M o j = tCell r (5 * p + h) ∧ f_X0_topRow o (nI p) M = some (nI j) ∧ f_X0_answer o (nI j) M = some (nI ((k * 7 + u) % 10)) := by
  obtain ⟨c, hc, h75, hP, hpw⟩ := g.rows
  rcases c_topRow g w hc h75 hP hp with ⟨h9, -⟩ | ⟨-, j, hj, ht, htop⟩
  · omega
  · rw [hh, Nat.add_sub_cancel] at ht
    have e4 : M (o + 4) j = nI k := (congrArg (fun t => t.2.2.1) ht).trans hk
    have e3 : M (o + 3) j = nI u := (congrArg (fun t => t.2.1) ht).trans hu
    exact ⟨c, j, hc, h75, hP, hpw, hj, ht, htop, c_answer hc h75 hj e4 hk9 e3 hu9⟩
theorem T_clear (w : gRow β r) (hβ : β ≤ 590) (v s a : Int32) : gCmd β r (fun o M => f_X5_clearingFault o v s a M) (fun o M => (f_X5_tryAnswer o v s a M).bind fun p => some (gb p.1, p.2)) (fun o M => (f_X5_tryAnswer o v s a M).bind fun p => some p.2) (fun M => f_X7_clears v s a M) (fun f => f) kOAS := by
  rcases q_cases v 3 with ⟨b, hb, rfl⟩ | hv
  · rcases q_cases s 4 with ⟨s, hs, rfl⟩ | hs
    · have hp : b * 4 + s < 12 := by omega
      obtain ⟨hh, h5⟩ := w.h hp
      obtain ⟨hy, hy15⟩ := w.y
      rcases q_in3 a 0 9 (by omega) (by omega) with ⟨a, -, ha9, rfl⟩ | ha
      · have hl := lk_eq w hb
        by_cases ok : r (7 + b) = nI 1 ∧ lkN r b = 0 ∧ hN r (b * 4 + s) ≠ 0 ∧ yN r < 15
        · have fault : ∀ M o, gSim M o r → f_X5_clearingFault o (nI b) (nI s) (nI a) M = some (nI 0) := fun M o g => by rw [c_clearN g w hb hs ha9, if_pos ok]
          obtain ⟨h1, l0, h0, y15⟩ := ok
          obtain ⟨h, hhe⟩ : ∃ h, hN r (b * 4 + s) = h + 1 := ⟨hN r (b * 4 + s) - 1, by omega⟩
          have l0' : r (19 + b) = nI 0 := by rw [hl.1, l0]
          obtain ⟨hf, ed, em⟩ := cell_full (r := r) (p := b * 4 + s) (l := h) (by omega) h5
          obtain ⟨-, ⟨u, hu, hu1, hu9⟩, k, hk, hk9⟩ := w.ok (cell_mem (q := 5 * (b * 4 + s) + h) (by omega) hf)
          have hu : r (94 + (5 * (b * 4 + s) + h)) = nI u := hu
          have hk : r (154 + (5 * (b * 4 + s) + h)) = nI k := hk
          by_cases ea : (k * 7 + u) % 10 = a
          · have w' := clR_row w (by omega) hp hhe rfl y15
            refine Or.inr ⟨_, nI 1, w', fun M o g => ?_, fun M hM => by rw [← ea]; exact m_clear1 w hM hb hs h1 l0' hhe y15 hu hk hu9 hk9⟩
            obtain ⟨c, j, hc, h75, hP, hpw, hj, ht, htop, hans⟩ := c_top g w hp hhe hu hk hu9 hk9
            have hy' := sim_yard g w
            rw [hy] at hy'
            have e8 : M o 8 = r 3 := g.1.2.2.2.1
            have hd : f_X5_tryAnswer o (nI b) (nI s) (nI a) M = some (true, gs (ptM M o j (nI 12) (nI (yN r))) o 8 (r 3 + nI 1)) := by
              have hcp := c_put hc h75 hj hy'
              unfold f_X5_tryAnswer
              simp (disch := omega) only [↓reduceIte, eq_self, Bool.true_eq_false, Bool.false_eq_true, q_seqr, q_seql, v_ig, v_ni, v_le, v_nle, v_lt, v_nlt, v_eq, v_ne, v_gbt, v_gbf, v_gbd, v_m1lt, v_m1ge, v_m1ne, v_m1e, ↓q_bindD, ↓q_gLet, Option.isSome_some, Option.getD_some, nI_add, pk_mul, q_sub, q_m1, q_div, q_modN, nI_clamp, if_true, if_false, q_l0, q_l1, q_l2, q_l3, q_l4, q_l5, q_l6, q_l7, q_l8, q_l9, q_l10, q_l11, q_l12, q_l13, q_l14, q_l15, q_l16, q_l19, q_l20, q_l22, q_l24, q_l30, q_l32, q_l34, q_l36, q_l45, q_l47, q_l48, q_l57, q_l58, q_l59, q_l60, q_l61, q_l66, q_l75, q_l76, q_l94, q_l97, q_l99, q_l100, q_l101, q_l104, q_l105, q_l108, q_l109, q_l111, q_l114, q_l115, q_l116, q_l117, q_l118, q_l119, q_l120, q_l126, q_l132, q_l133, q_l135, q_l136, q_l138, q_l146, q_l147, q_l148, q_l149, q_l150, q_l151, q_l152, q_l153, q_l154, q_l155, q_l156, q_l157, q_l158, q_l214, q_l229, q_l244, q_l259, q_l300, q_l999, q_l1813, q_l2072, q_l10000, q_l65536, q_l1000000000, c_pileOf, htop, hans, ea, hcp, ptM_fr, e8]
            refine ⟨fault M o g, gs (ptM M o j (nI 12) (nI (yN r))) o 8 (r 3 + nI 1), ?_, ?_, ?_, c_clear1 (v := 0) (a := 0) g w hp hhe y15 hc h75 hP hpw hj ht⟩
            · show (f_X5_tryAnswer o (nI b) (nI s) (nI a) M).bind (fun p => some (gb p.1, p.2)) = _
              rw [hd, Option.bind_some]
              rfl
            · show (f_X5_tryAnswer o (nI b) (nI s) (nI a) M).bind (fun p => some p.2) = _
              rw [hd, Option.bind_some]
            · intro i hi
              rw [q_gsn (by omega), ptM_fr (by omega)]
          · have ht3 : ∃ t, r (16 + b) = nI t ∧ t < 3 := by
              obtain ⟨t, l, h1, h2, -⟩ := w.tl hb
              exact ⟨t, h1, h2⟩
            obtain ⟨t, ht1, ht3⟩ := ht3
            have w' := wrR_row w (by omega) hb ht3
            refine Or.inr ⟨_, nI 0, w', fun M o g => ?_, fun M hM => m_clear0 w hM hb hs h1 l0' hhe y15 hu hk hu9 hk9 ha9 ea ht3 ht1⟩
            obtain ⟨c, j, hc, h75, hP, hpw, hj, ht, htop, hans⟩ := c_top g w hp hhe hu hk hu9 hk9
            have cw := c_wrong (M := M) (o := o) hb ht3 (by rw [(g.2.2.1 b hb).1, ht1])
            have hd : f_X5_tryAnswer o (nI b) (nI s) (nI a) M = some (false, wrM M o b t) := by
              unfold f_X5_tryAnswer
              simp (disch := omega) only [↓reduceIte, eq_self, Bool.true_eq_false, Bool.false_eq_true, q_seqr, q_seql, v_ig, v_ni, v_le, v_nle, v_lt, v_nlt, v_eq, v_ne, v_gbt, v_gbf, v_gbd, v_m1lt, v_m1ge, v_m1ne, v_m1e, ↓q_bindD, ↓q_gLet, Option.isSome_some, Option.getD_some, nI_add, pk_mul, q_sub, q_m1, q_div, q_modN, nI_clamp, if_true, if_false, q_l0, q_l1, q_l2, q_l3, q_l4, q_l5, q_l6, q_l7, q_l8, q_l9, q_l10, q_l11, q_l12, q_l13, q_l14, q_l15, q_l16, q_l19, q_l20, q_l22, q_l24, q_l30, q_l32, q_l34, q_l36, q_l45, q_l47, q_l48, q_l57, q_l58, q_l59, q_l60, q_l61, q_l66, q_l75, q_l76, q_l94, q_l97, q_l99, q_l100, q_l101, q_l104, q_l105, q_l108, q_l109, q_l111, q_l114, q_l115, q_l116, q_l117, q_l118, q_l119, q_l120, q_l126, q_l132, q_l133, q_l135, q_l136, q_l138, q_l146, q_l147, q_l148, q_l149, q_l150, q_l151, q_l152, q_l153, q_l154, q_l155, q_l156, q_l157, q_l158, q_l214, q_l229, q_l244, q_l259, q_l300, q_l999, q_l1813, q_l2072, q_l10000, q_l65536, q_l1000000000, c_pileOf, htop, hans, cw]
            refine ⟨fault M o g, wrM M o b t, ?_, ?_, ?_, wr_sim g hb ht3⟩
            · show (f_X5_tryAnswer o (nI b) (nI s) (nI a) M).bind (fun p => some (gb p.1, p.2)) = _
              rw [hd, Option.bind_some]
              rfl
            · show (f_X5_tryAnswer o (nI b) (nI s) (nI a) M).bind (fun p => some p.2) = _
              rw [hd, Option.bind_some]
            · intro i hi
              exact wrM_fr (by omega)
        · refine Or.inl ⟨3, by omega, ⟨rfl, by decide⟩, fun M o g => ?_, fun M hM => m_clearN w hM hb hs ha9 ok⟩
          show f_X5_clearingFault o (nI b) (nI s) (nI a) M = _
          rw [c_clearN g w hb hs ha9, if_neg ok]
      · refine Or.inl ⟨2, by omega, ⟨rfl, by decide⟩, fun M o g => ?_, fun M hM => ?_⟩
        · unfold f_X5_clearingFault
          by_cases h1 : a < nI 0
          · simp (disch := omega) only [↓reduceIte, eq_self, Bool.true_eq_false, Bool.false_eq_true, q_seqr, q_seql, v_ig, v_ni, v_le, v_nle, v_lt, v_nlt, v_eq, v_ne, v_gbt, v_gbf, v_gbd, v_m1lt, v_m1ge, v_m1ne, v_m1e, ↓q_bindD, ↓q_gLet, Option.isSome_some, Option.getD_some, nI_add, pk_mul, q_sub, q_m1, q_div, q_modN, nI_clamp, if_true, if_false, q_l0, q_l1, q_l2, q_l3, q_l4, q_l5, q_l6, q_l7, q_l8, q_l9, q_l10, q_l11, q_l12, q_l13, q_l14, q_l15, q_l16, q_l19, q_l20, q_l22, q_l24, q_l30, q_l32, q_l34, q_l36, q_l45, q_l47, q_l48, q_l57, q_l58, q_l59, q_l60, q_l61, q_l66, q_l75, q_l76, q_l94, q_l97, q_l99, q_l100, q_l101, q_l104, q_l105, q_l108, q_l109, q_l111, q_l114, q_l115, q_l116, q_l117, q_l118, q_l119, q_l120, q_l126, q_l132, q_l133, q_l135, q_l136, q_l138, q_l146, q_l147, q_l148, q_l149, q_l150, q_l151, q_l152, q_l153, q_l154, q_l155, q_l156, q_l157, q_l158, q_l214, q_l229, q_l244, q_l259, q_l300, q_l999, q_l1813, q_l2072, q_l10000, q_l65536, q_l1000000000, c_isBerth hb, c_isStack hs, h1]
          · obtain ⟨q, k1, k2, rfl⟩ := q_gt (ha.resolve_left h1) (by omega)
            simp (disch := omega) only [↓reduceIte, eq_self, Bool.true_eq_false, Bool.false_eq_true, q_seqr, q_seql, v_ig, v_ni, v_le, v_nle, v_lt, v_nlt, v_eq, v_ne, v_gbt, v_gbf, v_gbd, v_m1lt, v_m1ge, v_m1ne, v_m1e, ↓q_bindD, ↓q_gLet, Option.isSome_some, Option.getD_some, nI_add, pk_mul, q_sub, q_m1, q_div, q_modN, nI_clamp, if_true, if_false, q_l0, q_l1, q_l2, q_l3, q_l4, q_l5, q_l6, q_l7, q_l8, q_l9, q_l10, q_l11, q_l12, q_l13, q_l14, q_l15, q_l16, q_l19, q_l20, q_l22, q_l24, q_l30, q_l32, q_l34, q_l36, q_l45, q_l47, q_l48, q_l57, q_l58, q_l59, q_l60, q_l61, q_l66, q_l75, q_l76, q_l94, q_l97, q_l99, q_l100, q_l101, q_l104, q_l105, q_l108, q_l109, q_l111, q_l114, q_l115, q_l116, q_l117, q_l118, q_l119, q_l120, q_l126, q_l132, q_l133, q_l135, q_l136, q_l138, q_l146, q_l147, q_l148, q_l149, q_l150, q_l151, q_l152, q_l153, q_l154, q_l155, q_l156, q_l157, q_l158, q_l214, q_l229, q_l244, q_l259, q_l300, q_l999, q_l1813, q_l2072, q_l10000, q_l65536, q_l1000000000, c_isBerth hb, c_isStack hs]
        · unfold f_X7_clears
          simp (disch := omega) only [↓reduceIte, eq_self, Bool.true_eq_false, Bool.false_eq_true, q_seqr, q_seql, v_ig, v_ni, v_le, v_nle, v_lt, v_nlt, v_eq, v_ne, v_gbt, v_gbf, v_gbd, v_m1lt, v_m1ge, v_m1ne, v_m1e, ↓q_bindD, ↓q_gLet, Option.isSome_some, Option.getD_some, nI_add, pk_mul, q_sub, q_m1, q_div, q_modN, nI_clamp, if_true, if_false, q_l0, q_l1, q_l2, q_l3, q_l4, q_l5, q_l6, q_l7, q_l8, q_l9, q_l10, q_l11, q_l12, q_l13, q_l14, q_l15, q_l16, q_l19, q_l20, q_l22, q_l24, q_l30, q_l32, q_l34, q_l36, q_l45, q_l47, q_l48, q_l57, q_l58, q_l59, q_l60, q_l61, q_l66, q_l75, q_l76, q_l94, q_l97, q_l99, q_l100, q_l101, q_l104, q_l105, q_l108, q_l109, q_l111, q_l114, q_l115, q_l116, q_l117, q_l118, q_l119, q_l120, q_l126, q_l132, q_l133, q_l135, q_l136, q_l138, q_l146, q_l147, q_l148, q_l149, q_l150, q_l151, q_l152, q_l153, q_l154, q_l155, q_l156, q_l157, q_l158, q_l214, q_l229, q_l244, q_l259, q_l300, q_l999, q_l1813, q_l2072, q_l10000, q_l65536, q_l1000000000, m_done, m_fails, m_thrown, m_th, gs_same, q_gsgs, c_raise0, c_raise1, c_raise2, c_raise3, c_raise4, m_isStack hb hs, m_in_f ha]
    · refine Or.inl ⟨1, by omega, ⟨rfl, by decide⟩, fun M o g => ?_, fun M hM => ?_⟩
      · unfold f_X5_clearingFault
        simp (disch := omega) only [↓reduceIte, eq_self, Bool.true_eq_false, Bool.false_eq_true, q_seqr, q_seql, v_ig, v_ni, v_le, v_nle, v_lt, v_nlt, v_eq, v_ne, v_gbt, v_gbf, v_gbd, v_m1lt, v_m1ge, v_m1ne, v_m1e, ↓q_bindD, ↓q_gLet, Option.isSome_some, Option.getD_some, nI_add, pk_mul, q_sub, q_m1, q_div, q_modN, nI_clamp, if_true, if_false, q_l0, q_l1, q_l2, q_l3, q_l4, q_l5, q_l6, q_l7, q_l8, q_l9, q_l10, q_l11, q_l12, q_l13, q_l14, q_l15, q_l16, q_l19, q_l20, q_l22, q_l24, q_l30, q_l32, q_l34, q_l36, q_l45, q_l47, q_l48, q_l57, q_l58, q_l59, q_l60, q_l61, q_l66, q_l75, q_l76, q_l94, q_l97, q_l99, q_l100, q_l101, q_l104, q_l105, q_l108, q_l109, q_l111, q_l114, q_l115, q_l116, q_l117, q_l118, q_l119, q_l120, q_l126, q_l132, q_l133, q_l135, q_l136, q_l138, q_l146, q_l147, q_l148, q_l149, q_l150, q_l151, q_l152, q_l153, q_l154, q_l155, q_l156, q_l157, q_l158, q_l214, q_l229, q_l244, q_l259, q_l300, q_l999, q_l1813, q_l2072, q_l10000, q_l65536, q_l1000000000, c_isBerth hb, c_isStack_n hs]
      · unfold f_X7_clears
        simp (disch := omega) only [↓reduceIte, eq_self, Bool.true_eq_false, Bool.false_eq_true, q_seqr, q_seql, v_ig, v_ni, v_le, v_nle, v_lt, v_nlt, v_eq, v_ne, v_gbt, v_gbf, v_gbd, v_m1lt, v_m1ge, v_m1ne, v_m1e, ↓q_bindD, ↓q_gLet, Option.isSome_some, Option.getD_some, nI_add, pk_mul, q_sub, q_m1, q_div, q_modN, nI_clamp, if_true, if_false, q_l0, q_l1, q_l2, q_l3, q_l4, q_l5, q_l6, q_l7, q_l8, q_l9, q_l10, q_l11, q_l12, q_l13, q_l14, q_l15, q_l16, q_l19, q_l20, q_l22, q_l24, q_l30, q_l32, q_l34, q_l36, q_l45, q_l47, q_l48, q_l57, q_l58, q_l59, q_l60, q_l61, q_l66, q_l75, q_l76, q_l94, q_l97, q_l99, q_l100, q_l101, q_l104, q_l105, q_l108, q_l109, q_l111, q_l114, q_l115, q_l116, q_l117, q_l118, q_l119, q_l120, q_l126, q_l132, q_l133, q_l135, q_l136, q_l138, q_l146, q_l147, q_l148, q_l149, q_l150, q_l151, q_l152, q_l153, q_l154, q_l155, q_l156, q_l157, q_l158, q_l214, q_l229, q_l244, q_l259, q_l300, q_l999, q_l1813, q_l2072, q_l10000, q_l65536, q_l1000000000, m_done, m_fails, m_thrown, m_th, gs_same, q_gsgs, c_raise0, c_raise1, c_raise2, c_raise3, c_raise4, m_isStack_n (Or.inr hs)]
  · refine Or.inl ⟨1, by omega, ⟨rfl, by decide⟩, fun M o g => ?_, fun M hM => ?_⟩
    · unfold f_X5_clearingFault
      simp (disch := omega) only [↓reduceIte, eq_self, Bool.true_eq_false, Bool.false_eq_true, q_seqr, q_seql, v_ig, v_ni, v_le, v_nle, v_lt, v_nlt, v_eq, v_ne, v_gbt, v_gbf, v_gbd, v_m1lt, v_m1ge, v_m1ne, v_m1e, ↓q_bindD, ↓q_gLet, Option.isSome_some, Option.getD_some, nI_add, pk_mul, q_sub, q_m1, q_div, q_modN, nI_clamp, if_true, if_false, q_l0, q_l1, q_l2, q_l3, q_l4, q_l5, q_l6, q_l7, q_l8, q_l9, q_l10, q_l11, q_l12, q_l13, q_l14, q_l15, q_l16, q_l19, q_l20, q_l22, q_l24, q_l30, q_l32, q_l34, q_l36, q_l45, q_l47, q_l48, q_l57, q_l58, q_l59, q_l60, q_l61, q_l66, q_l75, q_l76, q_l94, q_l97, q_l99, q_l100, q_l101, q_l104, q_l105, q_l108, q_l109, q_l111, q_l114, q_l115, q_l116, q_l117, q_l118, q_l119, q_l120, q_l126, q_l132, q_l133, q_l135, q_l136, q_l138, q_l146, q_l147, q_l148, q_l149, q_l150, q_l151, q_l152, q_l153, q_l154, q_l155, q_l156, q_l157, q_l158, q_l214, q_l229, q_l244, q_l259, q_l300, q_l999, q_l1813, q_l2072, q_l10000, q_l65536, q_l1000000000, c_isBerth_n hv]
    · unfold f_X7_clears
      simp (disch := omega) only [↓reduceIte, eq_self, Bool.true_eq_false, Bool.false_eq_true, q_seqr, q_seql, v_ig, v_ni, v_le, v_nle, v_lt, v_nlt, v_eq, v_ne, v_gbt, v_gbf, v_gbd, v_m1lt, v_m1ge, v_m1ne, v_m1e, ↓q_bindD, ↓q_gLet, Option.isSome_some, Option.getD_some, nI_add, pk_mul, q_sub, q_m1, q_div, q_modN, nI_clamp, if_true, if_false, q_l0, q_l1, q_l2, q_l3, q_l4, q_l5, q_l6, q_l7, q_l8, q_l9, q_l10, q_l11, q_l12, q_l13, q_l14, q_l15, q_l16, q_l19, q_l20, q_l22, q_l24, q_l30, q_l32, q_l34, q_l36, q_l45, q_l47, q_l48, q_l57, q_l58, q_l59, q_l60, q_l61, q_l66, q_l75, q_l76, q_l94, q_l97, q_l99, q_l100, q_l101, q_l104, q_l105, q_l108, q_l109, q_l111, q_l114, q_l115, q_l116, q_l117, q_l118, q_l119, q_l120, q_l126, q_l132, q_l133, q_l135, q_l136, q_l138, q_l146, q_l147, q_l148, q_l149, q_l150, q_l151, q_l152, q_l153, q_l154, q_l155, q_l156, q_l157, q_l158, q_l214, q_l229, q_l244, q_l259, q_l300, q_l999, q_l1813, q_l2072, q_l10000, q_l65536, q_l1000000000, m_done, m_fails, m_thrown, m_th, gs_same, q_gsgs, c_raise0, c_raise1, c_raise2, c_raise3, c_raise4, m_isStack_n (Or.inl hv)]
end TC
