/-! Changes: what they leave alone, and the two sides' transitions. -/
def gFr (o : Nat) (M M1 : gM) : Prop := ∀ a, (a < o ∨ o + 12 ≤ a) → M1 a = M a
theorem gFr.rf {o : Nat} {M : gM} : gFr o M M := fun _ _ => rfl
theorem gFr.tr {o : Nat} {M M1 M2 : gM} (h : gFr o M M1) (h2 : gFr o M1 M2) : gFr o M M2 := fun a ha => (h2 a ha).trans (h a ha)
theorem gFr.gs {o a k : Nat} {v : Int32} {M : gM} (h : o ≤ a) (h2 : a < o + 12) : gFr o M (gs M a k v) := fun b hb => gs_nea (by omega)
theorem q_gs151 (M : gM) (k : Nat) (v : Int32) : gs M 151 k v = gw M 151 (upd (M 151) k v) := rfl
theorem gw_gw (M : gM) (a : Nat) (f g : Nat → Int32) : gw (gw M a f) a g = gw M a g := by
  funext b
  by_cases h : b = a
  · rw [h, gw_same, gw_same]
  · rw [gw_ne h, gw_ne h, gw_ne h]
theorem gw_id (M : gM) (a : Nat) : gw M a (M a) = M := by
  funext b
  by_cases h : b = a
  · rw [h, gw_same]
  · rw [gw_ne h]
theorem q_ups {f : Nat → Int32} {k j : Nat} {x : Int32} (h : j = k) : upd f k x j = x := if_pos h
theorem q_upn {f : Nat → Int32} {k j : Nat} {x : Int32} (h : j ≠ k) : upd f k x j = f j := if_neg h
theorem q_gsn {M : gM} {a k b : Nat} {v : Int32} (h : b ≠ a) : gs M a k v b = M b := gs_nea h
theorem q_gss {M : gM} {a k j : Nat} {v : Int32} (h : j = k) : gs M a k v a j = v := by rw [h, gs_same]
theorem q_gsk {M : gM} {a k j : Nat} {v : Int32} (h : j ≠ k) : gs M a k v a j = M a j := gs_nek h
/-- the exception of a fault -/
def eN (f : Nat) : String := if f = 1 then "java/lang/IndexOutOfBoundsException" else if f = 2 then "java/lang/IllegalArgumentException" else if f = 3 then "java/lang/IllegalStateException" else "java/util/NoSuchElementException"
def gOK (codes : List String) (code : Nat → Nat) (f : Nat) : Prop := codes[code f - 1]? = some (eN f) ∧ (0 < code f ∧ f ≤ 4)
/-- a command: the class's test, its carrying out (with its answer; and alone), the reference's way; r' the row behind it -/
def gCmd (β : Nat) (r : Nat → Int32) (cf : Nat → gM → Option Int32) (cd : Nat → gM → Option (Int32 × gM)) (cr : Nat → gM → Option gM) (m : gM → Option (Int32 × gM)) (code : Nat → Nat) (codes : List String) : Prop :=
  (∃ f, f ≠ 0 ∧ gOK codes code f ∧ (∀ M o, gSim M o r → cf o M = some (nI f)) ∧ ∀ M, M 151 = r → m M = some (nI 0, gs M 150 13 (nI (code f)))) ∨
  (∃ r' x, gRow (β + 1) r' ∧ (∀ M o, gSim M o r → cf o M = some (nI 0) ∧ ∃ M1, cd o M = some (x, M1) ∧ cr o M = some M1 ∧ gFr o M M1 ∧ gSim M1 o r') ∧ ∀ M, M 151 = r → m M = some (x, gs (gw M 151 r') 150 13 (nI 0)))
theorem hN_eq {r r' : Nat → Int32} {p : Nat} (h : r' (22 + p) = r (22 + p)) : hN r' p = hN r p := by unfold hN; rw [h]
theorem tAll_congr {r r' : Nat → Int32} (h : ∀ k, k = 6 ∨ 22 ≤ k → r' k = r k) : tAll r' = tAll r := by
  unfold tAll tShip tYard
  have e1 : fullB r' = fullB r := by
    funext c
    unfold fullB
    rw [hN_eq (h (22 + c / 5) (by omega))]
  have e2 : tCell r' = tCell r := by
    funext c
    unfold tCell
    rw [h (34 + c) (by omega), h (94 + c) (by omega), h (154 + c) (by omega)]
  have e3 : tYd r' = tYd r := by
    funext c
    unfold tYd
    rw [h (214 + c) (by omega), h (229 + c) (by omega), h (244 + c) (by omega)]
  have e4 : yN r' = yN r := by unfold yN; rw [h 6 (by omega)]
  rw [e1, e2, e3, e4]
theorem gRow_keep {β β' : Nat} {r r' : Nat → Int32} (w : gRow β r) (hβ : β ≤ β') (hk : ∀ k, k = 1 ∨ k = 4 ∨ k = 6 ∨ 22 ≤ k → r' k = r k) (h0 : ∃ h, r' 0 = nI h ∧ h ≤ 100 * β')
    (hb : ∀ b, b < 3 → r' (7 + b) = nI 0 ∨ (r' (7 + b) = nI 1 ∧ ∃ d u, r' (10 + b) = nI d ∧ 1 ≤ d ∧ d ≤ 9 ∧ r' (13 + b) = nI u ∧ u ≤ 100 * β' + 999))
    (htl : ∀ b, b < 3 → ∃ t l, r' (16 + b) = nI t ∧ t < 3 ∧ r' (19 + b) = nI l ∧ l ≤ 2) : gRow β' r' := by
  have e := tAll_congr (r := r) (r' := r') (fun k h => hk k (by omega))
  have en : nxN r' = nxN r := by unfold nxN; rw [hk 1 (by omega)]
  have ey : yN r' = yN r := by unfold yN; rw [hk 6 (by omega)]
  obtain ⟨-, ⟨b1, b2⟩, c, ⟨d1, d2⟩, -, -, f, d, k1, k2⟩ := w
  refine ⟨h0, ⟨by rw [hk 1 (by omega), en]; exact b1, by omega⟩, fun p hp => ?_, ⟨by rw [hk 6 (by omega), ey]; exact d1, by omega⟩, hb, htl, fun t ht => ?_, d, by rw [hk 4 (by omega)]; exact k1, by rw [en, e]; exact k2⟩
  · rw [hk (22 + p) (by omega), hN_eq (hk (22 + p) (by omega))]
    exact c p hp
  · rw [e] at ht
    rw [en]
    exact f t ht
/-- the rows stay, and so do the reference's containers -/
theorem gSim_keep {M M1 : gM} {o : Nat} {r r' : Nat → Int32} (g : gSim M o r) (hM : ∀ a, o + 1 ≤ a → a ≤ o + 6 → M1 a = M a) (hk : ∀ k, k = 6 ∨ 22 ≤ k → r' k = r k)
    (h1 : M1 o 5 = r' 0 ∧ M1 o 6 = r' 2 ∧ M1 o 7 = r' 1 ∧ M1 o 8 = r' 3 ∧ M1 o 9 = r' 4 ∧ M1 o 10 = r' 5)
    (h2 : ∀ b, b < 3 → (r' (7 + b) = nI 0 ∧ M1 (o + 8) b = nI 0) ∨ (r' (7 + b) = nI 1 ∧ M1 (o + 8) b = r' (10 + b) ∧ M1 (o + 9) b = r' (13 + b)))
    (h3 : ∀ b, b < 3 → M1 (o + 10) b = r' (16 + b) ∧ M1 (o + 11) b = r' (19 + b)) : gSim M1 o r' := by
  obtain ⟨c, hc, h75, hP, hp⟩ := g.rows
  have e : tRows M1 o c = tRows M o c := tRows_frame (fun a h1 h2 => hM a (by omega) (by omega))
  refine ⟨h1, h2, h3, c, by rw [hM (o + 1) (by omega) (by omega)]; exact hc, h75, ?_, by rw [e]; exact hp⟩
  rw [e, tAll_congr hk]
  exact hP
theorem q_gt {v : Int32} {n : Nat} (h : nI n < v) (hn : n < 2 ^ 31) : ∃ k, n < k ∧ k < 2 ^ 31 ∧ v = nI k := by
  have h1 := Int32.lt_iff_toInt_lt.mp h
  rw [nI_toInt hn] at h1
  obtain ⟨k, hk, rfl⟩ := nI_of (x := v) (fun q => by
    have h2 := Int32.lt_iff_toInt_lt.mp q
    have e0 : (0 : Int32).toInt = 0 := rfl
    omega)
  rw [nI_toInt hk] at h1
  exact ⟨k, by omega, hk, rfl⟩
def moR (r : Nat → Int32) (b d u : Nat) : Nat → Int32 := upd (upd (upd r (7 + b) (nI 1)) (10 + b) (nI d)) (13 + b) (nI u)
def lvR (r : Nat → Int32) (b : Nat) : Nat → Int32 := upd (upd (upd r (7 + b) (nI 0)) (16 + b) (nI 0)) (19 + b) (nI 0)
section TR
variable {r : Nat → Int32} {β : Nat}
/-! moor -/
theorem moR_row (w : gRow β r) (hβ : β ≤ 600) {b d u : Nat} (hb : b < 3) (hd1 : 1 ≤ d) (hd9 : d ≤ 9) (hu : u ≤ hrN r + 999) : gRow (β + 1) (moR r b d u) := by
  have hh := w.hrs hβ
  unfold moR
  refine gRow_keep w (by omega) (fun k hk => ?_) ⟨hrN r, ?_, by omega⟩ (fun b' hb' => ?_) (fun b' hb' => ?_)
  · rw [q_upn (by omega), q_upn (by omega), q_upn (by omega)]
  · rw [q_upn (by omega), q_upn (by omega), q_upn (by omega)]; exact hh.1
  · by_cases e : b' = b
    · subst e
      refine Or.inr ⟨?_, d, u, ?_, hd1, hd9, ?_, by omega⟩
      · rw [q_upn (by omega), q_upn (by omega), q_ups rfl]
      · rw [q_upn (by omega), q_ups rfl]
      · rw [q_ups rfl]
    · rw [q_upn (by omega), q_upn (by omega), q_upn (by omega), q_upn (by omega), q_upn (by omega), q_upn (by omega), q_upn (by omega), q_upn (by omega), q_upn (by omega)]
      exact (w.up (show β ≤ β + 1 by omega)).b hb'
  · rw [q_upn (by omega), q_upn (by omega), q_upn (by omega), q_upn (by omega), q_upn (by omega), q_upn (by omega)]
    exact w.tl hb'
theorem moR_sim {M : gM} {o b d u : Nat} (g : gSim M o r) (hb : b < 3) : gSim (gs (gs M (o + 8) b (nI d)) (o + 9) b (nI u)) o (moR r b d u) := by
  unfold moR
  refine gSim_keep g (fun a h1 h2 => by rw [q_gsn (by omega), q_gsn (by omega)]) (fun k hk => by rw [q_upn (by omega), q_upn (by omega), q_upn (by omega)]) ?_ (fun b' hb' => ?_) (fun b' hb' => ?_)
  · rw [q_gsn (by omega), q_gsn (by omega)]
    rw [q_upn (by omega), q_upn (by omega), q_upn (by omega), q_upn (by omega), q_upn (by omega), q_upn (by omega), q_upn (by omega), q_upn (by omega), q_upn (by omega), q_upn (by omega), q_upn (by omega), q_upn (by omega), q_upn (by omega), q_upn (by omega), q_upn (by omega), q_upn (by omega), q_upn (by omega), q_upn (by omega)]
    exact g.1
  · by_cases e : b' = b
    · subst e
      refine Or.inr ⟨?_, ?_, ?_⟩
      · rw [q_upn (by omega), q_upn (by omega), q_ups rfl]
      · rw [q_gsn (by omega), q_gss rfl, q_upn (by omega), q_ups rfl]
      · rw [q_gss rfl, q_ups rfl]
    · rw [q_gsn (by omega), q_gsk e, q_gsk e, q_gsn (by omega), q_upn (by omega), q_upn (by omega), q_upn (by omega), q_upn (by omega), q_upn (by omega), q_upn (by omega), q_upn (by omega), q_upn (by omega), q_upn (by omega)]
      exact g.2.1 b' hb'
  · rw [q_gsn (by omega), q_gsn (by omega), q_gsn (by omega), q_gsn (by omega), q_upn (by omega), q_upn (by omega), q_upn (by omega), q_upn (by omega), q_upn (by omega), q_upn (by omega)]
    exact g.2.2.1 b' hb'
theorem T_moor (w : gRow β r) (hβ : β ≤ 590) (v d u : Int32) : gCmd β r (fun o M => f_X5_mooringFault o v d u M) (fun o M => (f_X5_putShip o v d u M).bind fun M1 => (f_X5_ships o M1).bind fun s => some (s, M1)) (fun o M => f_X5_putShip o v d u M) (fun M => f_X7_moors v d u M) (fun f => f) kOAS := by
  have hh := w.hrs (by omega)
  rcases q_cases v 3 with ⟨b, hb, rfl⟩ | hv
  · rcases q_in3 d 1 9 (by omega) (by omega) with ⟨d, hd1, hd9, rfl⟩ | hd
    · rcases q_in3 u (hrN r) (hrN r + 999) (by omega) (by omega) with ⟨u, hu1, hu9, rfl⟩ | hu
      · rcases w.b hb with h0 | ⟨h1, -⟩
        · have w' := moR_row w (by omega) hb hd1 hd9 hu9
          refine Or.inr ⟨moR r b d u, moR r b d u 7 + moR r b d u 8 + moR r b d u 9, w', fun M o g => ?_, fun M hM => ?_⟩
          · have g' := moR_sim (d := d) (u := u) g hb
            have hp : f_X5_putShip o (nI b) (nI d) (nI u) M = some (gs (gs M (o + 8) b (nI d)) (o + 9) b (nI u)) := by
              unfold f_X5_putShip
              simp (disch := omega) only [q_seqr, q_seql, q_ig, q_ni, q_le, q_nle, q_lt, q_nlt, q_eq, q_ne, q_eqr, q_gbt, q_gbf, q_gbd, q_m1lt, q_m1ge, q_m1ne, q_m1eq, q_m1e, Option.bind_some, gLet, nI_add, pk_mul, q_sub, q_m1, q_div, q_modN, nI_clamp, if_true, if_false, Bool.false_eq_true, q_l0, q_l1, q_l2, q_l3, q_l4, q_l5, q_l6, q_l7, q_l8, q_l9, q_l10, q_l11, q_l12, q_l13, q_l14, q_l15, q_l16, q_l19, q_l20, q_l22, q_l24, q_l30, q_l32, q_l34, q_l36, q_l45, q_l47, q_l48, q_l57, q_l58, q_l59, q_l60, q_l61, q_l66, q_l75, q_l76, q_l94, q_l97, q_l99, q_l100, q_l101, q_l104, q_l105, q_l108, q_l109, q_l111, q_l114, q_l115, q_l116, q_l117, q_l118, q_l119, q_l120, q_l126, q_l132, q_l133, q_l135, q_l136, q_l138, q_l146, q_l147, q_l148, q_l149, q_l150, q_l151, q_l152, q_l153, q_l154, q_l155, q_l156, q_l157, q_l158, q_l214, q_l229, q_l244, q_l259, q_l300, q_l999, q_l1813, q_l2072, q_l10000, q_l65536, q_l1000000000, c_isBerth hb]
            rcases sim_ship g w hb with ⟨-, h2⟩ | ⟨h3, -⟩
            · refine ⟨?_, _, ?_, hp, (gFr.gs (by omega) (by omega)).tr (gFr.gs (by omega) (by omega)), g'⟩
              · unfold f_X5_mooringFault
                simp (disch := omega) only [q_seqr, q_seql, q_ig, q_ni, q_le, q_nle, q_lt, q_nlt, q_eq, q_ne, q_eqr, q_gbt, q_gbf, q_gbd, q_m1lt, q_m1ge, q_m1ne, q_m1eq, q_m1e, Option.bind_some, gLet, nI_add, pk_mul, q_sub, q_m1, q_div, q_modN, nI_clamp, if_true, if_false, Bool.false_eq_true, q_l0, q_l1, q_l2, q_l3, q_l4, q_l5, q_l6, q_l7, q_l8, q_l9, q_l10, q_l11, q_l12, q_l13, q_l14, q_l15, q_l16, q_l19, q_l20, q_l22, q_l24, q_l30, q_l32, q_l34, q_l36, q_l45, q_l47, q_l48, q_l57, q_l58, q_l59, q_l60, q_l61, q_l66, q_l75, q_l76, q_l94, q_l97, q_l99, q_l100, q_l101, q_l104, q_l105, q_l108, q_l109, q_l111, q_l114, q_l115, q_l116, q_l117, q_l118, q_l119, q_l120, q_l126, q_l132, q_l133, q_l135, q_l136, q_l138, q_l146, q_l147, q_l148, q_l149, q_l150, q_l151, q_l152, q_l153, q_l154, q_l155, q_l156, q_l157, q_l158, q_l214, q_l229, q_l244, q_l259, q_l300, q_l999, q_l1813, q_l2072, q_l10000, q_l65536, q_l1000000000, c_isBerth hb, g.1.1, hh.1, h2]
              · show ((f_X5_putShip o (nI b) (nI d) (nI u) M).bind fun M1 => (f_X5_ships o M1).bind fun s => some (s, M1)) = _
                rw [hp, Option.bind_some, c_ships g' w', Option.bind_some]
            · rw [h0] at h3; exact absurd h3 (by decide)
          · unfold f_X7_moors
            simp (disch := omega) only [q_seqr, q_seql, q_ig, q_ni, q_le, q_nle, q_lt, q_nlt, q_eq, q_ne, q_eqr, q_gbt, q_gbf, q_gbd, q_m1lt, q_m1ge, q_m1ne, q_m1eq, q_m1e, Option.bind_some, gLet, nI_add, pk_mul, q_sub, q_m1, q_div, q_modN, nI_clamp, if_true, if_false, Bool.false_eq_true, q_l0, q_l1, q_l2, q_l3, q_l4, q_l5, q_l6, q_l7, q_l8, q_l9, q_l10, q_l11, q_l12, q_l13, q_l14, q_l15, q_l16, q_l19, q_l20, q_l22, q_l24, q_l30, q_l32, q_l34, q_l36, q_l45, q_l47, q_l48, q_l57, q_l58, q_l59, q_l60, q_l61, q_l66, q_l75, q_l76, q_l94, q_l97, q_l99, q_l100, q_l101, q_l104, q_l105, q_l108, q_l109, q_l111, q_l114, q_l115, q_l116, q_l117, q_l118, q_l119, q_l120, q_l126, q_l132, q_l133, q_l135, q_l136, q_l138, q_l146, q_l147, q_l148, q_l149, q_l150, q_l151, q_l152, q_l153, q_l154, q_l155, q_l156, q_l157, q_l158, q_l214, q_l229, q_l244, q_l259, q_l300, q_l999, q_l1813, q_l2072, q_l10000, q_l65536, q_l1000000000, m_done, m_fails, m_thrown, m_th, gs_same, q_gsgs, c_raise0, c_raise1, c_raise2, c_raise3, c_raise4, m_isBerth hb, m_in_t, hM, hh.1, h0, q_gs151, gw_same, gw_gw, m_ships]
            rfl
        · refine Or.inl ⟨3, by omega, ⟨rfl, by decide⟩, fun M o g => ?_, fun M hM => ?_⟩
          · rcases sim_ship g w hb with ⟨h3, -⟩ | ⟨-, h2, -⟩
            · rw [h1] at h3; exact absurd h3 (by decide)
            · unfold f_X5_mooringFault
              simp (disch := omega) only [q_seqr, q_seql, q_ig, q_ni, q_le, q_nle, q_lt, q_nlt, q_eq, q_ne, q_eqr, q_gbt, q_gbf, q_gbd, q_m1lt, q_m1ge, q_m1ne, q_m1eq, q_m1e, Option.bind_some, gLet, nI_add, pk_mul, q_sub, q_m1, q_div, q_modN, nI_clamp, if_true, if_false, Bool.false_eq_true, q_l0, q_l1, q_l2, q_l3, q_l4, q_l5, q_l6, q_l7, q_l8, q_l9, q_l10, q_l11, q_l12, q_l13, q_l14, q_l15, q_l16, q_l19, q_l20, q_l22, q_l24, q_l30, q_l32, q_l34, q_l36, q_l45, q_l47, q_l48, q_l57, q_l58, q_l59, q_l60, q_l61, q_l66, q_l75, q_l76, q_l94, q_l97, q_l99, q_l100, q_l101, q_l104, q_l105, q_l108, q_l109, q_l111, q_l114, q_l115, q_l116, q_l117, q_l118, q_l119, q_l120, q_l126, q_l132, q_l133, q_l135, q_l136, q_l138, q_l146, q_l147, q_l148, q_l149, q_l150, q_l151, q_l152, q_l153, q_l154, q_l155, q_l156, q_l157, q_l158, q_l214, q_l229, q_l244, q_l259, q_l300, q_l999, q_l1813, q_l2072, q_l10000, q_l65536, q_l1000000000, c_isBerth hb, g.1.1, hh.1, h2]
          · unfold f_X7_moors
            simp (disch := omega) only [q_seqr, q_seql, q_ig, q_ni, q_le, q_nle, q_lt, q_nlt, q_eq, q_ne, q_eqr, q_gbt, q_gbf, q_gbd, q_m1lt, q_m1ge, q_m1ne, q_m1eq, q_m1e, Option.bind_some, gLet, nI_add, pk_mul, q_sub, q_m1, q_div, q_modN, nI_clamp, if_true, if_false, Bool.false_eq_true, q_l0, q_l1, q_l2, q_l3, q_l4, q_l5, q_l6, q_l7, q_l8, q_l9, q_l10, q_l11, q_l12, q_l13, q_l14, q_l15, q_l16, q_l19, q_l20, q_l22, q_l24, q_l30, q_l32, q_l34, q_l36, q_l45, q_l47, q_l48, q_l57, q_l58, q_l59, q_l60, q_l61, q_l66, q_l75, q_l76, q_l94, q_l97, q_l99, q_l100, q_l101, q_l104, q_l105, q_l108, q_l109, q_l111, q_l114, q_l115, q_l116, q_l117, q_l118, q_l119, q_l120, q_l126, q_l132, q_l133, q_l135, q_l136, q_l138, q_l146, q_l147, q_l148, q_l149, q_l150, q_l151, q_l152, q_l153, q_l154, q_l155, q_l156, q_l157, q_l158, q_l214, q_l229, q_l244, q_l259, q_l300, q_l999, q_l1813, q_l2072, q_l10000, q_l65536, q_l1000000000, m_done, m_fails, m_thrown, m_th, gs_same, q_gsgs, c_raise0, c_raise1, c_raise2, c_raise3, c_raise4, m_isBerth hb, m_in_t, hM, hh.1, h1]
      · refine Or.inl ⟨2, by omega, ⟨rfl, by decide⟩, fun M o g => ?_, fun M hM => ?_⟩
        · unfold f_X5_mooringFault
          by_cases h1 : u < nI (hrN r)
          · simp (disch := omega) only [q_seqr, q_seql, q_ig, q_ni, q_le, q_nle, q_lt, q_nlt, q_eq, q_ne, q_eqr, q_gbt, q_gbf, q_gbd, q_m1lt, q_m1ge, q_m1ne, q_m1eq, q_m1e, Option.bind_some, gLet, nI_add, pk_mul, q_sub, q_m1, q_div, q_modN, nI_clamp, if_true, if_false, Bool.false_eq_true, q_l0, q_l1, q_l2, q_l3, q_l4, q_l5, q_l6, q_l7, q_l8, q_l9, q_l10, q_l11, q_l12, q_l13, q_l14, q_l15, q_l16, q_l19, q_l20, q_l22, q_l24, q_l30, q_l32, q_l34, q_l36, q_l45, q_l47, q_l48, q_l57, q_l58, q_l59, q_l60, q_l61, q_l66, q_l75, q_l76, q_l94, q_l97, q_l99, q_l100, q_l101, q_l104, q_l105, q_l108, q_l109, q_l111, q_l114, q_l115, q_l116, q_l117, q_l118, q_l119, q_l120, q_l126, q_l132, q_l133, q_l135, q_l136, q_l138, q_l146, q_l147, q_l148, q_l149, q_l150, q_l151, q_l152, q_l153, q_l154, q_l155, q_l156, q_l157, q_l158, q_l214, q_l229, q_l244, q_l259, q_l300, q_l999, q_l1813, q_l2072, q_l10000, q_l65536, q_l1000000000, c_isBerth hb, g.1.1, hh.1, if_pos h1]
          · obtain ⟨k, k1, k2, rfl⟩ := q_gt (hu.resolve_left h1) (by omega)
            simp (disch := omega) only [q_seqr, q_seql, q_ig, q_ni, q_le, q_nle, q_lt, q_nlt, q_eq, q_ne, q_eqr, q_gbt, q_gbf, q_gbd, q_m1lt, q_m1ge, q_m1ne, q_m1eq, q_m1e, Option.bind_some, gLet, nI_add, pk_mul, q_sub, q_m1, q_div, q_modN, nI_clamp, if_true, if_false, Bool.false_eq_true, q_l0, q_l1, q_l2, q_l3, q_l4, q_l5, q_l6, q_l7, q_l8, q_l9, q_l10, q_l11, q_l12, q_l13, q_l14, q_l15, q_l16, q_l19, q_l20, q_l22, q_l24, q_l30, q_l32, q_l34, q_l36, q_l45, q_l47, q_l48, q_l57, q_l58, q_l59, q_l60, q_l61, q_l66, q_l75, q_l76, q_l94, q_l97, q_l99, q_l100, q_l101, q_l104, q_l105, q_l108, q_l109, q_l111, q_l114, q_l115, q_l116, q_l117, q_l118, q_l119, q_l120, q_l126, q_l132, q_l133, q_l135, q_l136, q_l138, q_l146, q_l147, q_l148, q_l149, q_l150, q_l151, q_l152, q_l153, q_l154, q_l155, q_l156, q_l157, q_l158, q_l214, q_l229, q_l244, q_l259, q_l300, q_l999, q_l1813, q_l2072, q_l10000, q_l65536, q_l1000000000, c_isBerth hb, g.1.1, hh.1]
        · unfold f_X7_moors
          simp (disch := omega) only [q_seqr, q_seql, q_ig, q_ni, q_le, q_nle, q_lt, q_nlt, q_eq, q_ne, q_eqr, q_gbt, q_gbf, q_gbd, q_m1lt, q_m1ge, q_m1ne, q_m1eq, q_m1e, Option.bind_some, gLet, nI_add, pk_mul, q_sub, q_m1, q_div, q_modN, nI_clamp, if_true, if_false, Bool.false_eq_true, q_l0, q_l1, q_l2, q_l3, q_l4, q_l5, q_l6, q_l7, q_l8, q_l9, q_l10, q_l11, q_l12, q_l13, q_l14, q_l15, q_l16, q_l19, q_l20, q_l22, q_l24, q_l30, q_l32, q_l34, q_l36, q_l45, q_l47, q_l48, q_l57, q_l58, q_l59, q_l60, q_l61, q_l66, q_l75, q_l76, q_l94, q_l97, q_l99, q_l100, q_l101, q_l104, q_l105, q_l108, q_l109, q_l111, q_l114, q_l115, q_l116, q_l117, q_l118, q_l119, q_l120, q_l126, q_l132, q_l133, q_l135, q_l136, q_l138, q_l146, q_l147, q_l148, q_l149, q_l150, q_l151, q_l152, q_l153, q_l154, q_l155, q_l156, q_l157, q_l158, q_l214, q_l229, q_l244, q_l259, q_l300, q_l999, q_l1813, q_l2072, q_l10000, q_l65536, q_l1000000000, m_done, m_fails, m_thrown, m_th, gs_same, q_gsgs, c_raise0, c_raise1, c_raise2, c_raise3, c_raise4, m_isBerth hb, m_in_t, hM, hh.1, m_in_f hu]
    · refine Or.inl ⟨2, by omega, ⟨rfl, by decide⟩, fun M o g => ?_, fun M hM => ?_⟩
      · unfold f_X5_mooringFault
        by_cases h1 : d < nI 1
        · simp (disch := omega) only [q_seqr, q_seql, q_ig, q_ni, q_le, q_nle, q_lt, q_nlt, q_eq, q_ne, q_eqr, q_gbt, q_gbf, q_gbd, q_m1lt, q_m1ge, q_m1ne, q_m1eq, q_m1e, Option.bind_some, gLet, nI_add, pk_mul, q_sub, q_m1, q_div, q_modN, nI_clamp, if_true, if_false, Bool.false_eq_true, q_l0, q_l1, q_l2, q_l3, q_l4, q_l5, q_l6, q_l7, q_l8, q_l9, q_l10, q_l11, q_l12, q_l13, q_l14, q_l15, q_l16, q_l19, q_l20, q_l22, q_l24, q_l30, q_l32, q_l34, q_l36, q_l45, q_l47, q_l48, q_l57, q_l58, q_l59, q_l60, q_l61, q_l66, q_l75, q_l76, q_l94, q_l97, q_l99, q_l100, q_l101, q_l104, q_l105, q_l108, q_l109, q_l111, q_l114, q_l115, q_l116, q_l117, q_l118, q_l119, q_l120, q_l126, q_l132, q_l133, q_l135, q_l136, q_l138, q_l146, q_l147, q_l148, q_l149, q_l150, q_l151, q_l152, q_l153, q_l154, q_l155, q_l156, q_l157, q_l158, q_l214, q_l229, q_l244, q_l259, q_l300, q_l999, q_l1813, q_l2072, q_l10000, q_l65536, q_l1000000000, c_isBerth hb, if_pos h1]
        · simp (disch := omega) only [q_seqr, q_seql, q_ig, q_ni, q_le, q_nle, q_lt, q_nlt, q_eq, q_ne, q_eqr, q_gbt, q_gbf, q_gbd, q_m1lt, q_m1ge, q_m1ne, q_m1eq, q_m1e, Option.bind_some, gLet, nI_add, pk_mul, q_sub, q_m1, q_div, q_modN, nI_clamp, if_true, if_false, Bool.false_eq_true, q_l0, q_l1, q_l2, q_l3, q_l4, q_l5, q_l6, q_l7, q_l8, q_l9, q_l10, q_l11, q_l12, q_l13, q_l14, q_l15, q_l16, q_l19, q_l20, q_l22, q_l24, q_l30, q_l32, q_l34, q_l36, q_l45, q_l47, q_l48, q_l57, q_l58, q_l59, q_l60, q_l61, q_l66, q_l75, q_l76, q_l94, q_l97, q_l99, q_l100, q_l101, q_l104, q_l105, q_l108, q_l109, q_l111, q_l114, q_l115, q_l116, q_l117, q_l118, q_l119, q_l120, q_l126, q_l132, q_l133, q_l135, q_l136, q_l138, q_l146, q_l147, q_l148, q_l149, q_l150, q_l151, q_l152, q_l153, q_l154, q_l155, q_l156, q_l157, q_l158, q_l214, q_l229, q_l244, q_l259, q_l300, q_l999, q_l1813, q_l2072, q_l10000, q_l65536, q_l1000000000, c_isBerth hb, if_neg h1, if_pos (hd.resolve_left h1)]
      · unfold f_X7_moors
        simp (disch := omega) only [q_seqr, q_seql, q_ig, q_ni, q_le, q_nle, q_lt, q_nlt, q_eq, q_ne, q_eqr, q_gbt, q_gbf, q_gbd, q_m1lt, q_m1ge, q_m1ne, q_m1eq, q_m1e, Option.bind_some, gLet, nI_add, pk_mul, q_sub, q_m1, q_div, q_modN, nI_clamp, if_true, if_false, Bool.false_eq_true, q_l0, q_l1, q_l2, q_l3, q_l4, q_l5, q_l6, q_l7, q_l8, q_l9, q_l10, q_l11, q_l12, q_l13, q_l14, q_l15, q_l16, q_l19, q_l20, q_l22, q_l24, q_l30, q_l32, q_l34, q_l36, q_l45, q_l47, q_l48, q_l57, q_l58, q_l59, q_l60, q_l61, q_l66, q_l75, q_l76, q_l94, q_l97, q_l99, q_l100, q_l101, q_l104, q_l105, q_l108, q_l109, q_l111, q_l114, q_l115, q_l116, q_l117, q_l118, q_l119, q_l120, q_l126, q_l132, q_l133, q_l135, q_l136, q_l138, q_l146, q_l147, q_l148, q_l149, q_l150, q_l151, q_l152, q_l153, q_l154, q_l155, q_l156, q_l157, q_l158, q_l214, q_l229, q_l244, q_l259, q_l300, q_l999, q_l1813, q_l2072, q_l10000, q_l65536, q_l1000000000, m_done, m_fails, m_thrown, m_th, gs_same, q_gsgs, c_raise0, c_raise1, c_raise2, c_raise3, c_raise4, m_isBerth hb, m_in_f hd]
  · refine Or.inl ⟨1, by omega, ⟨rfl, by decide⟩, fun M o g => ?_, fun M hM => ?_⟩
    · unfold f_X5_mooringFault
      simp (disch := omega) only [q_seqr, q_seql, q_ig, q_ni, q_le, q_nle, q_lt, q_nlt, q_eq, q_ne, q_eqr, q_gbt, q_gbf, q_gbd, q_m1lt, q_m1ge, q_m1ne, q_m1eq, q_m1e, Option.bind_some, gLet, nI_add, pk_mul, q_sub, q_m1, q_div, q_modN, nI_clamp, if_true, if_false, Bool.false_eq_true, q_l0, q_l1, q_l2, q_l3, q_l4, q_l5, q_l6, q_l7, q_l8, q_l9, q_l10, q_l11, q_l12, q_l13, q_l14, q_l15, q_l16, q_l19, q_l20, q_l22, q_l24, q_l30, q_l32, q_l34, q_l36, q_l45, q_l47, q_l48, q_l57, q_l58, q_l59, q_l60, q_l61, q_l66, q_l75, q_l76, q_l94, q_l97, q_l99, q_l100, q_l101, q_l104, q_l105, q_l108, q_l109, q_l111, q_l114, q_l115, q_l116, q_l117, q_l118, q_l119, q_l120, q_l126, q_l132, q_l133, q_l135, q_l136, q_l138, q_l146, q_l147, q_l148, q_l149, q_l150, q_l151, q_l152, q_l153, q_l154, q_l155, q_l156, q_l157, q_l158, q_l214, q_l229, q_l244, q_l259, q_l300, q_l999, q_l1813, q_l2072, q_l10000, q_l65536, q_l1000000000, c_isBerth_n hv]
    · unfold f_X7_moors
      simp (disch := omega) only [q_seqr, q_seql, q_ig, q_ni, q_le, q_nle, q_lt, q_nlt, q_eq, q_ne, q_eqr, q_gbt, q_gbf, q_gbd, q_m1lt, q_m1ge, q_m1ne, q_m1eq, q_m1e, Option.bind_some, gLet, nI_add, pk_mul, q_sub, q_m1, q_div, q_modN, nI_clamp, if_true, if_false, Bool.false_eq_true, q_l0, q_l1, q_l2, q_l3, q_l4, q_l5, q_l6, q_l7, q_l8, q_l9, q_l10, q_l11, q_l12, q_l13, q_l14, q_l15, q_l16, q_l19, q_l20, q_l22, q_l24, q_l30, q_l32, q_l34, q_l36, q_l45, q_l47, q_l48, q_l57, q_l58, q_l59, q_l60, q_l61, q_l66, q_l75, q_l76, q_l94, q_l97, q_l99, q_l100, q_l101, q_l104, q_l105, q_l108, q_l109, q_l111, q_l114, q_l115, q_l116, q_l117, q_l118, q_l119, q_l120, q_l126, q_l132, q_l133, q_l135, q_l136, q_l138, q_l146, q_l147, q_l148, q_l149, q_l150, q_l151, q_l152, q_l153, q_l154, q_l155, q_l156, q_l157, q_l158, q_l214, q_l229, q_l244, q_l259, q_l300, q_l999, q_l1813, q_l2072, q_l10000, q_l65536, q_l1000000000, m_done, m_fails, m_thrown, m_th, gs_same, q_gsgs, c_raise0, c_raise1, c_raise2, c_raise3, c_raise4, m_isBerth_n hv]
/-! leave -/
theorem lvR_row (w : gRow β r) (hβ : β ≤ 600) {b : Nat} (hb : b < 3) : gRow (β + 1) (lvR r b) := by
  have hh := w.hrs hβ
  unfold lvR
  refine gRow_keep w (by omega) (fun k hk => ?_) ⟨hrN r, ?_, by omega⟩ (fun b' hb' => ?_) (fun b' hb' => ?_)
  · rw [q_upn (by omega), q_upn (by omega), q_upn (by omega)]
  · rw [q_upn (by omega), q_upn (by omega), q_upn (by omega)]; exact hh.1
  · by_cases e : b' = b
    · subst e
      refine Or.inl ?_
      rw [q_upn (by omega), q_upn (by omega), q_ups rfl]
    · rw [q_upn (by omega), q_upn (by omega), q_upn (by omega), q_upn (by omega), q_upn (by omega), q_upn (by omega), q_upn (by omega), q_upn (by omega), q_upn (by omega)]
      exact (w.up (show β ≤ β + 1 by omega)).b hb'
  · by_cases e : b' = b
    · subst e
      refine ⟨0, 0, ?_, by omega, ?_, by omega⟩
      · rw [q_upn (by omega), q_ups rfl]
      · rw [q_ups rfl]
    · rw [q_upn (by omega), q_upn (by omega), q_upn (by omega), q_upn (by omega), q_upn (by omega), q_upn (by omega)]
      exact w.tl hb'
theorem lvR_sim {M : gM} {o b : Nat} (g : gSim M o r) (hb : b < 3) : gSim (gs (gs (gs (gs M (o + 8) b (nI 0)) (o + 9) b (nI 0)) (o + 10) b (nI 0)) (o + 11) b (nI 0)) o (lvR r b) := by
  unfold lvR
  refine gSim_keep g (fun a h1 h2 => by rw [q_gsn (by omega), q_gsn (by omega), q_gsn (by omega), q_gsn (by omega)]) (fun k hk => by rw [q_upn (by omega), q_upn (by omega), q_upn (by omega)]) ?_ (fun b' hb' => ?_) (fun b' hb' => ?_)
  · rw [q_gsn (by omega), q_gsn (by omega), q_gsn (by omega), q_gsn (by omega)]
    rw [q_upn (by omega), q_upn (by omega), q_upn (by omega), q_upn (by omega), q_upn (by omega), q_upn (by omega), q_upn (by omega), q_upn (by omega), q_upn (by omega), q_upn (by omega), q_upn (by omega), q_upn (by omega), q_upn (by omega), q_upn (by omega), q_upn (by omega), q_upn (by omega), q_upn (by omega), q_upn (by omega)]
    exact g.1
  · by_cases e : b' = b
    · subst e
      refine Or.inl ⟨?_, ?_⟩
      · rw [q_upn (by omega), q_upn (by omega), q_ups rfl]
      · rw [q_gsn (by omega), q_gsn (by omega), q_gsn (by omega), q_gss rfl]
    · have e8 : gs (gs (gs (gs M (o + 8) b (nI 0)) (o + 9) b (nI 0)) (o + 10) b (nI 0)) (o + 11) b (nI 0) (o + 8) b' = M (o + 8) b' := by
        rw [q_gsn (by omega), q_gsn (by omega), q_gsn (by omega), q_gsk e]
      have e9 : gs (gs (gs (gs M (o + 8) b (nI 0)) (o + 9) b (nI 0)) (o + 10) b (nI 0)) (o + 11) b (nI 0) (o + 9) b' = M (o + 9) b' := by
        rw [q_gsn (by omega), q_gsn (by omega), q_gsk e, q_gsn (by omega)]
      rw [e8, e9, q_upn (by omega), q_upn (by omega), q_upn (by omega), q_upn (by omega), q_upn (by omega), q_upn (by omega), q_upn (by omega), q_upn (by omega), q_upn (by omega)]
      exact g.2.1 b' hb'
  · by_cases e : b' = b
    · subst e
      refine ⟨?_, ?_⟩
      · rw [q_gsn (by omega), q_gss rfl, q_upn (by omega), q_ups rfl]
      · rw [q_gss rfl, q_ups rfl]
    · have e8 : gs (gs (gs (gs M (o + 8) b (nI 0)) (o + 9) b (nI 0)) (o + 10) b (nI 0)) (o + 11) b (nI 0) (o + 10) b' = M (o + 10) b' := by
        rw [q_gsn (by omega), q_gsk e, q_gsn (by omega), q_gsn (by omega)]
      have e9 : gs (gs (gs (gs M (o + 8) b (nI 0)) (o + 9) b (nI 0)) (o + 10) b (nI 0)) (o + 11) b (nI 0) (o + 11) b' = M (o + 11) b' := by
        rw [q_gsk e, q_gsn (by omega), q_gsn (by omega), q_gsn (by omega)]
      rw [e8, e9, q_upn (by omega), q_upn (by omega), q_upn (by omega), q_upn (by omega), q_upn (by omega), q_upn (by omega)]
      exact g.2.2.1 b' hb'
theorem T_leave (w : gRow β r) (hβ : β ≤ 590) (v : Int32) : gCmd β r (fun o M => f_X5_leavingFault o v M) (fun o M => (f_X5_takeShip o v M).bind fun M1 => (f_X5_ships o M1).bind fun s => some (s, M1)) (fun o M => f_X5_takeShip o v M) (fun M => f_X7_leaves v M) (fun f => if f = 1 then 1 else 2) kOS := by
  rcases q_cases v 3 with ⟨b, hb, rfl⟩ | hv
  · cases hm : mlB r b with
    | true =>
      have w' := lvR_row w (by omega) hb
      refine Or.inr ⟨lvR r b, lvR r b 7 + lvR r b 8 + lvR r b 9, w', fun M o g => ?_, fun M hM => ?_⟩
      · have g' := lvR_sim g hb
        have hp : f_X5_takeShip o (nI b) M = some (gs (gs (gs (gs M (o + 8) b (nI 0)) (o + 9) b (nI 0)) (o + 10) b (nI 0)) (o + 11) b (nI 0)) := by
          unfold f_X5_takeShip
          simp (disch := omega) only [q_seqr, q_seql, q_ig, q_ni, q_le, q_nle, q_lt, q_nlt, q_eq, q_ne, q_eqr, q_gbt, q_gbf, q_gbd, q_m1lt, q_m1ge, q_m1ne, q_m1eq, q_m1e, Option.bind_some, gLet, nI_add, pk_mul, q_sub, q_m1, q_div, q_modN, nI_clamp, if_true, if_false, Bool.false_eq_true, q_l0, q_l1, q_l2, q_l3, q_l4, q_l5, q_l6, q_l7, q_l8, q_l9, q_l10, q_l11, q_l12, q_l13, q_l14, q_l15, q_l16, q_l19, q_l20, q_l22, q_l24, q_l30, q_l32, q_l34, q_l36, q_l45, q_l47, q_l48, q_l57, q_l58, q_l59, q_l60, q_l61, q_l66, q_l75, q_l76, q_l94, q_l97, q_l99, q_l100, q_l101, q_l104, q_l105, q_l108, q_l109, q_l111, q_l114, q_l115, q_l116, q_l117, q_l118, q_l119, q_l120, q_l126, q_l132, q_l133, q_l135, q_l136, q_l138, q_l146, q_l147, q_l148, q_l149, q_l150, q_l151, q_l152, q_l153, q_l154, q_l155, q_l156, q_l157, q_l158, q_l214, q_l229, q_l244, q_l259, q_l300, q_l999, q_l1813, q_l2072, q_l10000, q_l65536, q_l1000000000, c_isBerth hb]
        refine ⟨by have := c_leavingFault g w (by omega) hb; rw [hm, if_pos rfl] at this; exact this, _, ?_, hp, (gFr.gs (by omega) (by omega)).tr ((gFr.gs (by omega) (by omega)).tr ((gFr.gs (by omega) (by omega)).tr (gFr.gs (by omega) (by omega)))), g'⟩
        show ((f_X5_takeShip o (nI b) M).bind fun M1 => (f_X5_ships o M1).bind fun s => some (s, M1)) = _
        rw [hp, Option.bind_some, c_ships g' w', Option.bind_some]
      · have hl := m_mayLeave (M := M) (by rw [hM]; exact w) (by omega) hb
        rw [hM, hm] at hl
        unfold f_X7_leaves
        simp (disch := omega) only [q_seqr, q_seql, q_ig, q_ni, q_le, q_nle, q_lt, q_nlt, q_eq, q_ne, q_eqr, q_gbt, q_gbf, q_gbd, q_m1lt, q_m1ge, q_m1ne, q_m1eq, q_m1e, Option.bind_some, gLet, nI_add, pk_mul, q_sub, q_m1, q_div, q_modN, nI_clamp, if_true, if_false, Bool.false_eq_true, q_l0, q_l1, q_l2, q_l3, q_l4, q_l5, q_l6, q_l7, q_l8, q_l9, q_l10, q_l11, q_l12, q_l13, q_l14, q_l15, q_l16, q_l19, q_l20, q_l22, q_l24, q_l30, q_l32, q_l34, q_l36, q_l45, q_l47, q_l48, q_l57, q_l58, q_l59, q_l60, q_l61, q_l66, q_l75, q_l76, q_l94, q_l97, q_l99, q_l100, q_l101, q_l104, q_l105, q_l108, q_l109, q_l111, q_l114, q_l115, q_l116, q_l117, q_l118, q_l119, q_l120, q_l126, q_l132, q_l133, q_l135, q_l136, q_l138, q_l146, q_l147, q_l148, q_l149, q_l150, q_l151, q_l152, q_l153, q_l154, q_l155, q_l156, q_l157, q_l158, q_l214, q_l229, q_l244, q_l259, q_l300, q_l999, q_l1813, q_l2072, q_l10000, q_l65536, q_l1000000000, m_done, m_fails, m_thrown, m_th, gs_same, q_gsgs, c_raise0, c_raise1, c_raise2, c_raise3, c_raise4, m_isBerth hb, hl, hM, q_gs151, gw_same, gw_gw, m_ships]
        rfl
    | false =>
      refine Or.inl ⟨3, by omega, ⟨rfl, by decide⟩, fun M o g => ?_, fun M hM => ?_⟩
      · have := c_leavingFault g w (by omega) hb
        rw [hm, if_neg Bool.false_ne_true] at this
        exact this
      · have hl := m_mayLeave (M := M) (by rw [hM]; exact w) (by omega) hb
        rw [hM, hm] at hl
        unfold f_X7_leaves
        simp (disch := omega) only [q_seqr, q_seql, q_ig, q_ni, q_le, q_nle, q_lt, q_nlt, q_eq, q_ne, q_eqr, q_gbt, q_gbf, q_gbd, q_m1lt, q_m1ge, q_m1ne, q_m1eq, q_m1e, Option.bind_some, gLet, nI_add, pk_mul, q_sub, q_m1, q_div, q_modN, nI_clamp, if_true, if_false, Bool.false_eq_true, q_l0, q_l1, q_l2, q_l3, q_l4, q_l5, q_l6, q_l7, q_l8, q_l9, q_l10, q_l11, q_l12, q_l13, q_l14, q_l15, q_l16, q_l19, q_l20, q_l22, q_l24, q_l30, q_l32, q_l34, q_l36, q_l45, q_l47, q_l48, q_l57, q_l58, q_l59, q_l60, q_l61, q_l66, q_l75, q_l76, q_l94, q_l97, q_l99, q_l100, q_l101, q_l104, q_l105, q_l108, q_l109, q_l111, q_l114, q_l115, q_l116, q_l117, q_l118, q_l119, q_l120, q_l126, q_l132, q_l133, q_l135, q_l136, q_l138, q_l146, q_l147, q_l148, q_l149, q_l150, q_l151, q_l152, q_l153, q_l154, q_l155, q_l156, q_l157, q_l158, q_l214, q_l229, q_l244, q_l259, q_l300, q_l999, q_l1813, q_l2072, q_l10000, q_l65536, q_l1000000000, m_done, m_fails, m_thrown, m_th, gs_same, q_gsgs, c_raise0, c_raise1, c_raise2, c_raise3, c_raise4, m_isBerth hb, hl]
        rfl
  · refine Or.inl ⟨1, by omega, ⟨rfl, by decide⟩, fun M o g => c_leavingFault_n hv, fun M hM => ?_⟩
    unfold f_X7_leaves
    simp (disch := omega) only [q_seqr, q_seql, q_ig, q_ni, q_le, q_nle, q_lt, q_nlt, q_eq, q_ne, q_eqr, q_gbt, q_gbf, q_gbd, q_m1lt, q_m1ge, q_m1ne, q_m1eq, q_m1e, Option.bind_some, gLet, nI_add, pk_mul, q_sub, q_m1, q_div, q_modN, nI_clamp, if_true, if_false, Bool.false_eq_true, q_l0, q_l1, q_l2, q_l3, q_l4, q_l5, q_l6, q_l7, q_l8, q_l9, q_l10, q_l11, q_l12, q_l13, q_l14, q_l15, q_l16, q_l19, q_l20, q_l22, q_l24, q_l30, q_l32, q_l34, q_l36, q_l45, q_l47, q_l48, q_l57, q_l58, q_l59, q_l60, q_l61, q_l66, q_l75, q_l76, q_l94, q_l97, q_l99, q_l100, q_l101, q_l104, q_l105, q_l108, q_l109, q_l111, q_l114, q_l115, q_l116, q_l117, q_l118, q_l119, q_l120, q_l126, q_l132, q_l133, q_l135, q_l136, q_l138, q_l146, q_l147, q_l148, q_l149, q_l150, q_l151, q_l152, q_l153, q_l154, q_l155, q_l156, q_l157, q_l158, q_l214, q_l229, q_l244, q_l259, q_l300, q_l999, q_l1813, q_l2072, q_l10000, q_l65536, q_l1000000000, m_done, m_fails, m_thrown, m_th, gs_same, q_gsgs, c_raise0, c_raise1, c_raise2, c_raise3, c_raise4, m_isBerth_n hv]
end TR
