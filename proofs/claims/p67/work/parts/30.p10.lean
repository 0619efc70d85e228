/-! Weights, and pairs of a stack. -/
theorem lp_sumN {β : Type} (F : Nat → Int32 → Int32 → Option β) (fin : Nat → β) (f : Nat → Nat) (c k0 : Nat)
    (h1 : ∀ n k a, k0 ≤ k → k < c → F (n + 1) (nI k) (nI a) = F n (nI (k + 1)) (nI (a + f k))) (h2 : ∀ n a, F (n + 1) (nI c) (nI a) = some (fin a)) (hc : c < 3000) (hk0 : k0 ≤ c) (a0 : Nat) :
    F gF (nI k0) (nI a0) = some (fin (a0 + ((List.range' k0 (c - k0)).map f).sum)) := by
  have key : ∀ d n k a, k0 ≤ k → k + d = c → d < n → F n (nI k) (nI a) = some (fin (a + ((List.range' k d).map f).sum)) := by
    intro d
    induction d with
    | zero =>
      intro n k a h0 hk hn
      obtain ⟨m, rfl⟩ : ∃ m, n = m + 1 := ⟨n - 1, by omega⟩
      have hk : k = c := by omega
      subst hk
      rw [h2 m a]
      simp
    | succ d ih =>
      intro n k a h0 hk hn
      obtain ⟨m, rfl⟩ : ∃ m, n = m + 1 := ⟨n - 1, by omega⟩
      rw [h1 m k a h0 (by omega), ih m (k + 1) _ (by omega) (by omega) (by omega), List.range'_succ, List.map_cons, List.sum_cons, Nat.add_assoc]
  exact key (c - k0) gF k0 a0 (Nat.le_refl _) (by omega) (by unfold gF; omega)
theorem sum_filter {α : Type} (L : List α) (P : α → Bool) (f : α → Nat) : ((L.filter P).map f).sum = (L.map (fun x => if P x = true then f x else 0)).sum := by
  induction L with
  | nil => rfl
  | cons a L ih =>
    cases h : P a with
    | true => rw [List.filter_cons_of_pos h, List.map_cons, List.map_cons, List.sum_cons, List.sum_cons, ih, if_pos h]
    | false =>
      rw [List.filter_cons_of_neg (by rw [h]; exact Bool.false_ne_true), List.map_cons, List.sum_cons, ih, if_neg (by rw [h]; exact Bool.false_ne_true), Nat.zero_add]
theorem sum_zero {α : Type} (L : List α) (f : α → Nat) (h : ∀ x ∈ L, f x = 0) : (L.map f).sum = 0 := by
  induction L with
  | nil => rfl
  | cons a L ih => rw [List.map_cons, List.sum_cons, h a List.mem_cons_self, ih (fun x hx => h x (List.mem_cons_of_mem _ hx))]
def wN (t : tC) : Nat := t.2.1.toNatClampNeg
def wq (r : Nat → Int32) (q : Nat) : Nat := if fullB r q = true then (r (94 + q)).toNatClampNeg else 0
def WB (r : Nat → Int32) (b : Nat) : Nat := ((List.range' (20 * b) 20).map (wq r)).sum
theorem WB_nest (f : Nat → Nat) (b : Nat) (hb : b < 3) : ((List.range' 0 4).map (fun s => ((List.range' 0 5).map (fun l => f (5 * (b * 4 + s) + l))).sum)).sum = ((List.range' (20 * b) 20).map f).sum := by
  have hb : b = 0 ∨ b = 1 ∨ b = 2 := by omega
  rcases hb with rfl | rfl | rfl <;> simp [List.range', Nat.add_assoc]
theorem WB_all (f : Nat → Nat) (b : Nat) (hb : b < 3) : ((List.range 60).map (fun q => if q / 20 = b then f q else 0)).sum = ((List.range' (20 * b) 20).map f).sum := by
  have e : List.range 60 = [0,1,2,3,4,5,6,7,8,9,10,11,12,13,14,15,16,17,18,19,20,21,22,23,24,25,26,27,28,29,30,31,32,33,34,35,36,37,38,39,40,41,42,43,44,45,46,47,48,49,50,51,52,53,54,55,56,57,58,59] := rfl
  have hb : b = 0 ∨ b = 1 ∨ b = 2 := by omega
  rw [e]
  rcases hb with rfl | rfl | rfl <;> simp [List.range']
section PW
variable {M : gM} {o : Nat} {r : Nat → Int32} {β : Nat}
theorem wt_cell (w : gRow β r) {q : Nat} (hq : q < 60) (hf : fullB r q = true) : r (94 + q) = nI (wq r q) ∧ 1 ≤ wq r q ∧ wq r q ≤ 30 := by
  obtain ⟨-, ⟨u, u1, u2, u3⟩, -⟩ := w.t (cell_mem hq hf)
  have u1 : r (94 + q) = nI u := u1
  have : wq r q = u := by unfold wq; rw [if_pos hf, u1]; exact nI_clamp (by omega)
  rw [this]
  exact ⟨u1, u2, u3⟩
theorem wq_le (w : gRow β r) {q : Nat} (hq : q < 60) : wq r q ≤ 30 := by
  by_cases hf : fullB r q = true
  · exact (wt_cell w hq hf).2.2
  · unfold wq; rw [if_neg hf]; omega
/-- the weight at a place, 0 where none lies -/
theorem c_weightAt (g : gSim M o r) (w : gRow β r) {p l : Nat} (hp : p < 12) (hl : l < 5) : ∃ x, f_X0_rowAt o (nI p) (nI l) M = some x ∧ f_X0_weight o x M = some (nI (wq r (5 * p + l))) := by
  obtain ⟨c, hc, h75, hP, -⟩ := g.rows
  have h5 := (w.h hp).2
  by_cases h : l < hN r p
  · obtain ⟨j, hj, ht, h1⟩ := sim_cell g w hc h75 hP hp h
    obtain ⟨f1, f2, f3⟩ := cell_full h h5
    refine ⟨_, h1, ?_⟩
    have e : M (o + 3) j = r (94 + (5 * p + l)) := congrArg (fun t => t.2.1) ht
    rw [s_weight hc h75 hj, e, (wt_cell w (by omega) f1).1]
  · refine ⟨_, sim_noRow g hc h75 hP (noLev w hp (v := nI l) (fun q => by have := q.2; rw [nI_toInt (by omega)] at this; omega)), ?_⟩
    have : wq r (5 * p + l) = 0 := by
      unfold wq fullB
      rw [show (5 * p + l) / 5 = p by omega, show (5 * p + l) % 5 = l by omega, if_neg (by simpa using h)]
    rw [s_weight_m, this]
theorem c_weightByStacks (g : gSim M o r) (w : gRow β r) {b : Nat} (hb : b < 3) : f_X0_weightByStacks o (nI b) M = some (nI (WB r b)) := by
  have inner : ∀ s, s < 4 → ∀ a, f_X0_weightByStacks_L19 o M (nI (b * 4 + s)) (nI s) (nI b) gF (nI 0) (nI a) = some (nI 5, nI (a + ((List.range' 0 5).map (fun l => wq r (5 * (b * 4 + s) + l))).sum)) := fun s hs a =>
    lp_sumN (fun n k a => f_X0_weightByStacks_L19 o M (nI (b * 4 + s)) (nI s) (nI b) n k a) (fun a => (nI 5, nI a)) (fun l => wq r (5 * (b * 4 + s) + l)) 5 0 (fun n k a _ hk => by
      show f_X0_weightByStacks_L19 o M (nI (b * 4 + s)) (nI s) (nI b) (n + 1) (nI k) (nI a) = _
      obtain ⟨x, x1, x2⟩ := c_weightAt g w (p := b * 4 + s) (l := k) (by omega) hk
      rw [f_X0_weightByStacks_L19]
      simp (disch := omega) only [q_seqr, q_seql, q_ig, q_ni, q_le, q_nle, q_lt, q_nlt, q_eq, q_ne, q_eqr, q_gbt, q_gbf, q_gbd, q_m1lt, q_m1ge, q_m1ne, q_m1eq, q_m1e, Option.bind_some, gLet, nI_add, pk_mul, q_sub, q_m1, q_div, q_modN, nI_clamp, if_true, if_false, Bool.false_eq_true, q_l0, q_l1, q_l2, q_l3, q_l4, q_l5, q_l6, q_l7, q_l8, q_l9, q_l10, q_l11, q_l12, q_l13, q_l14, q_l15, q_l16, q_l19, q_l20, q_l22, q_l24, q_l30, q_l32, q_l34, q_l36, q_l45, q_l47, q_l48, q_l57, q_l58, q_l59, q_l60, q_l61, q_l66, q_l75, q_l76, q_l94, q_l97, q_l99, q_l100, q_l101, q_l104, q_l105, q_l108, q_l109, q_l111, q_l114, q_l115, q_l116, q_l117, q_l118, q_l119, q_l120, q_l126, q_l132, q_l133, q_l135, q_l136, q_l138, q_l146, q_l147, q_l148, q_l149, q_l150, q_l151, q_l152, q_l153, q_l154, q_l155, q_l156, q_l157, q_l158, q_l214, q_l229, q_l244, q_l259, q_l300, q_l999, q_l1813, q_l2072, q_l10000, q_l65536, q_l1000000000, x1, x2]) (fun n a => by
      show f_X0_weightByStacks_L19 o M (nI (b * 4 + s)) (nI s) (nI b) (n + 1) (nI 5) (nI a) = _
      rw [f_X0_weightByStacks_L19]
      simp (disch := omega) only [q_seqr, q_seql, q_ig, q_ni, q_le, q_nle, q_lt, q_nlt, q_eq, q_ne, q_eqr, q_gbt, q_gbf, q_gbd, q_m1lt, q_m1ge, q_m1ne, q_m1eq, q_m1e, Option.bind_some, gLet, nI_add, pk_mul, q_sub, q_m1, q_div, q_modN, nI_clamp, if_true, if_false, Bool.false_eq_true, q_l0, q_l1, q_l2, q_l3, q_l4, q_l5, q_l6, q_l7, q_l8, q_l9, q_l10, q_l11, q_l12, q_l13, q_l14, q_l15, q_l16, q_l19, q_l20, q_l22, q_l24, q_l30, q_l32, q_l34, q_l36, q_l45, q_l47, q_l48, q_l57, q_l58, q_l59, q_l60, q_l61, q_l66, q_l75, q_l76, q_l94, q_l97, q_l99, q_l100, q_l101, q_l104, q_l105, q_l108, q_l109, q_l111, q_l114, q_l115, q_l116, q_l117, q_l118, q_l119, q_l120, q_l126, q_l132, q_l133, q_l135, q_l136, q_l138, q_l146, q_l147, q_l148, q_l149, q_l150, q_l151, q_l152, q_l153, q_l154, q_l155, q_l156, q_l157, q_l158, q_l214, q_l229, q_l244, q_l259, q_l300, q_l999, q_l1813, q_l2072, q_l10000, q_l65536, q_l1000000000]) (by omega) (by omega) a
  have outer := lp_sumN (fun n k a => f_X0_weightByStacks_L4 o M (nI b) n k a) (fun a => nI a) (fun s => ((List.range' 0 5).map (fun l => wq r (5 * (b * 4 + s) + l))).sum) 4 0 (fun n k a _ hk => by
      show f_X0_weightByStacks_L4 o M (nI b) (n + 1) (nI k) (nI a) = _
      rw [f_X0_weightByStacks_L4]
      simp (disch := omega) only [q_seqr, q_seql, q_ig, q_ni, q_le, q_nle, q_lt, q_nlt, q_eq, q_ne, q_eqr, q_gbt, q_gbf, q_gbd, q_m1lt, q_m1ge, q_m1ne, q_m1eq, q_m1e, Option.bind_some, gLet, nI_add, pk_mul, q_sub, q_m1, q_div, q_modN, nI_clamp, if_true, if_false, Bool.false_eq_true, q_l0, q_l1, q_l2, q_l3, q_l4, q_l5, q_l6, q_l7, q_l8, q_l9, q_l10, q_l11, q_l12, q_l13, q_l14, q_l15, q_l16, q_l19, q_l20, q_l22, q_l24, q_l30, q_l32, q_l34, q_l36, q_l45, q_l47, q_l48, q_l57, q_l58, q_l59, q_l60, q_l61, q_l66, q_l75, q_l76, q_l94, q_l97, q_l99, q_l100, q_l101, q_l104, q_l105, q_l108, q_l109, q_l111, q_l114, q_l115, q_l116, q_l117, q_l118, q_l119, q_l120, q_l126, q_l132, q_l133, q_l135, q_l136, q_l138, q_l146, q_l147, q_l148, q_l149, q_l150, q_l151, q_l152, q_l153, q_l154, q_l155, q_l156, q_l157, q_l158, q_l214, q_l229, q_l244, q_l259, q_l300, q_l999, q_l1813, q_l2072, q_l10000, q_l65536, q_l1000000000, c_pileOf, inner k hk a]) (fun n a => by
      show f_X0_weightByStacks_L4 o M (nI b) (n + 1) (nI 4) (nI a) = _
      rw [f_X0_weightByStacks_L4]
      simp (disch := omega) only [q_seqr, q_seql, q_ig, q_ni, q_le, q_nle, q_lt, q_nlt, q_eq, q_ne, q_eqr, q_gbt, q_gbf, q_gbd, q_m1lt, q_m1ge, q_m1ne, q_m1eq, q_m1e, Option.bind_some, gLet, nI_add, pk_mul, q_sub, q_m1, q_div, q_modN, nI_clamp, if_true, if_false, Bool.false_eq_true, q_l0, q_l1, q_l2, q_l3, q_l4, q_l5, q_l6, q_l7, q_l8, q_l9, q_l10, q_l11, q_l12, q_l13, q_l14, q_l15, q_l16, q_l19, q_l20, q_l22, q_l24, q_l30, q_l32, q_l34, q_l36, q_l45, q_l47, q_l48, q_l57, q_l58, q_l59, q_l60, q_l61, q_l66, q_l75, q_l76, q_l94, q_l97, q_l99, q_l100, q_l101, q_l104, q_l105, q_l108, q_l109, q_l111, q_l114, q_l115, q_l116, q_l117, q_l118, q_l119, q_l120, q_l126, q_l132, q_l133, q_l135, q_l136, q_l138, q_l146, q_l147, q_l148, q_l149, q_l150, q_l151, q_l152, q_l153, q_l154, q_l155, q_l156, q_l157, q_l158, q_l214, q_l229, q_l244, q_l259, q_l300, q_l999, q_l1813, q_l2072, q_l10000, q_l65536, q_l1000000000]) (by omega) (by omega) 0
  unfold f_X0_weightByStacks
  rw [show (0 : Int32) = nI 0 from rfl]
  refine outer.trans ?_
  unfold WB
  rw [Nat.zero_add, ← WB_nest (wq r) b hb]
theorem m_weightOn (hr : M 151 = r) (w : gRow β r) {b : Nat} (hb : b < 3) : f_X7_weightOn_L24 (nI 0) (nI b) gF (nI (20 * b)) (nI 0) M = some (nI (WB r b), gs M 150 13 (nI 0)) := by
  have h := lp_sumN (fun n k a => f_X7_weightOn_L24 (nI 0) (nI b) n k a M) (fun a => (nI a, gs M 150 13 (nI 0))) (wq r) (20 * (b + 1)) (20 * b) (fun n k a h0 hk => by
      show f_X7_weightOn_L24 (nI 0) (nI b) (n + 1) (nI k) (nI a) M = _
      rw [f_X7_weightOn_L24]
      have hk60 : k < 60 := by omega
      by_cases hf : fullB r k = true
      · simp (disch := omega) only [q_seqr, q_seql, q_ig, q_ni, q_le, q_nle, q_lt, q_nlt, q_eq, q_ne, q_eqr, q_gbt, q_gbf, q_gbd, q_m1lt, q_m1ge, q_m1ne, q_m1eq, q_m1e, Option.bind_some, gLet, nI_add, pk_mul, q_sub, q_m1, q_div, q_modN, nI_clamp, if_true, if_false, Bool.false_eq_true, q_l0, q_l1, q_l2, q_l3, q_l4, q_l5, q_l6, q_l7, q_l8, q_l9, q_l10, q_l11, q_l12, q_l13, q_l14, q_l15, q_l16, q_l19, q_l20, q_l22, q_l24, q_l30, q_l32, q_l34, q_l36, q_l45, q_l47, q_l48, q_l57, q_l58, q_l59, q_l60, q_l61, q_l66, q_l75, q_l76, q_l94, q_l97, q_l99, q_l100, q_l101, q_l104, q_l105, q_l108, q_l109, q_l111, q_l114, q_l115, q_l116, q_l117, q_l118, q_l119, q_l120, q_l126, q_l132, q_l133, q_l135, q_l136, q_l138, q_l146, q_l147, q_l148, q_l149, q_l150, q_l151, q_l152, q_l153, q_l154, q_l155, q_l156, q_l157, q_l158, q_l214, q_l229, q_l244, q_l259, q_l300, q_l999, q_l1813, q_l2072, q_l10000, q_l65536, q_l1000000000, m_isFull hr w hk60, hf, hr, (wt_cell w hk60 hf).1]
      · have hf0 : fullB r k = false := by simpa using hf
        have : wq r k = 0 := by unfold wq; rw [if_neg hf]
        simp (disch := omega) only [q_seqr, q_seql, q_ig, q_ni, q_le, q_nle, q_lt, q_nlt, q_eq, q_ne, q_eqr, q_gbt, q_gbf, q_gbd, q_m1lt, q_m1ge, q_m1ne, q_m1eq, q_m1e, Option.bind_some, gLet, nI_add, pk_mul, q_sub, q_m1, q_div, q_modN, nI_clamp, if_true, if_false, Bool.false_eq_true, q_l0, q_l1, q_l2, q_l3, q_l4, q_l5, q_l6, q_l7, q_l8, q_l9, q_l10, q_l11, q_l12, q_l13, q_l14, q_l15, q_l16, q_l19, q_l20, q_l22, q_l24, q_l30, q_l32, q_l34, q_l36, q_l45, q_l47, q_l48, q_l57, q_l58, q_l59, q_l60, q_l61, q_l66, q_l75, q_l76, q_l94, q_l97, q_l99, q_l100, q_l101, q_l104, q_l105, q_l108, q_l109, q_l111, q_l114, q_l115, q_l116, q_l117, q_l118, q_l119, q_l120, q_l126, q_l132, q_l133, q_l135, q_l136, q_l138, q_l146, q_l147, q_l148, q_l149, q_l150, q_l151, q_l152, q_l153, q_l154, q_l155, q_l156, q_l157, q_l158, q_l214, q_l229, q_l244, q_l259, q_l300, q_l999, q_l1813, q_l2072, q_l10000, q_l65536, q_l1000000000, m_isFull hr w hk60, hf0, this]) (fun n a => by
      show f_X7_weightOn_L24 (nI 0) (nI b) (n + 1) (nI (20 * (b + 1))) (nI a) M = _
      rw [f_X7_weightOn_L24]
      simp (disch := omega) only [q_seqr, q_seql, q_ig, q_ni, q_le, q_nle, q_lt, q_nlt, q_eq, q_ne, q_eqr, q_gbt, q_gbf, q_gbd, q_m1lt, q_m1ge, q_m1ne, q_m1eq, q_m1e, Option.bind_some, gLet, nI_add, pk_mul, q_sub, q_m1, q_div, q_modN, nI_clamp, if_true, if_false, Bool.false_eq_true, q_l0, q_l1, q_l2, q_l3, q_l4, q_l5, q_l6, q_l7, q_l8, q_l9, q_l10, q_l11, q_l12, q_l13, q_l14, q_l15, q_l16, q_l19, q_l20, q_l22, q_l24, q_l30, q_l32, q_l34, q_l36, q_l45, q_l47, q_l48, q_l57, q_l58, q_l59, q_l60, q_l61, q_l66, q_l75, q_l76, q_l94, q_l97, q_l99, q_l100, q_l101, q_l104, q_l105, q_l108, q_l109, q_l111, q_l114, q_l115, q_l116, q_l117, q_l118, q_l119, q_l120, q_l126, q_l132, q_l133, q_l135, q_l136, q_l138, q_l146, q_l147, q_l148, q_l149, q_l150, q_l151, q_l152, q_l153, q_l154, q_l155, q_l156, q_l157, q_l158, q_l214, q_l229, q_l244, q_l259, q_l300, q_l999, q_l1813, q_l2072, q_l10000, q_l65536, q_l1000000000, m_done, m_fails, m_thrown, m_th, gs_same, q_gsgs, c_raise0, c_raise1, c_raise2, c_raise3, c_raise4]) (by omega) (by omega) 0
  refine h.trans ?_
  unfold WB
  rw [Nat.zero_add, show 20 * (b + 1) - 20 * b = 20 by omega]
theorem Q_weightOn (g : gSim M 0 (M 151)) (w : gRow β (M 151)) (v : Int32) : gQ kON M (f_X6_weightOn v M) (f_X7_weightOn v M) := by
  rcases ship_cases g w v with ⟨hv, h1, h2⟩ | ⟨b, hb, rfl, hm, h0, h1, h2⟩ | ⟨b, hb, rfl, hm, h0, h1, h2, -⟩
  · refine gQ_l 0 (nI 0) rfl ?_ ?_
    · unfold f_X6_weightOn; simp (disch := omega) only [q_seqr, q_seql, q_ig, q_ni, q_le, q_nle, q_lt, q_nlt, q_eq, q_ne, q_eqr, q_gbt, q_gbf, q_gbd, q_m1lt, q_m1ge, q_m1ne, q_m1eq, q_m1e, Option.bind_some, gLet, nI_add, pk_mul, q_sub, q_m1, q_div, q_modN, nI_clamp, if_true, if_false, Bool.false_eq_true, q_l0, q_l1, q_l2, q_l3, q_l4, q_l5, q_l6, q_l7, q_l8, q_l9, q_l10, q_l11, q_l12, q_l13, q_l14, q_l15, q_l16, q_l19, q_l20, q_l22, q_l24, q_l30, q_l32, q_l34, q_l36, q_l45, q_l47, q_l48, q_l57, q_l58, q_l59, q_l60, q_l61, q_l66, q_l75, q_l76, q_l94, q_l97, q_l99, q_l100, q_l101, q_l104, q_l105, q_l108, q_l109, q_l111, q_l114, q_l115, q_l116, q_l117, q_l118, q_l119, q_l120, q_l126, q_l132, q_l133, q_l135, q_l136, q_l138, q_l146, q_l147, q_l148, q_l149, q_l150, q_l151, q_l152, q_l153, q_l154, q_l155, q_l156, q_l157, q_l158, q_l214, q_l229, q_l244, q_l259, q_l300, q_l999, q_l1813, q_l2072, q_l10000, q_l65536, q_l1000000000, m_done, m_fails, m_thrown, m_th, gs_same, q_gsgs, c_raise0, c_raise1, c_raise2, c_raise3, c_raise4, h1]
    · unfold f_X7_weightOn; simp (disch := omega) only [q_seqr, q_seql, q_ig, q_ni, q_le, q_nle, q_lt, q_nlt, q_eq, q_ne, q_eqr, q_gbt, q_gbf, q_gbd, q_m1lt, q_m1ge, q_m1ne, q_m1eq, q_m1e, Option.bind_some, gLet, nI_add, pk_mul, q_sub, q_m1, q_div, q_modN, nI_clamp, if_true, if_false, Bool.false_eq_true, q_l0, q_l1, q_l2, q_l3, q_l4, q_l5, q_l6, q_l7, q_l8, q_l9, q_l10, q_l11, q_l12, q_l13, q_l14, q_l15, q_l16, q_l19, q_l20, q_l22, q_l24, q_l30, q_l32, q_l34, q_l36, q_l45, q_l47, q_l48, q_l57, q_l58, q_l59, q_l60, q_l61, q_l66, q_l75, q_l76, q_l94, q_l97, q_l99, q_l100, q_l101, q_l104, q_l105, q_l108, q_l109, q_l111, q_l114, q_l115, q_l116, q_l117, q_l118, q_l119, q_l120, q_l126, q_l132, q_l133, q_l135, q_l136, q_l138, q_l146, q_l147, q_l148, q_l149, q_l150, q_l151, q_l152, q_l153, q_l154, q_l155, q_l156, q_l157, q_l158, q_l214, q_l229, q_l244, q_l259, q_l300, q_l999, q_l1813, q_l2072, q_l10000, q_l65536, q_l1000000000, m_done, m_fails, m_thrown, m_th, gs_same, q_gsgs, c_raise0, c_raise1, c_raise2, c_raise3, c_raise4, h2]
  · refine gQ_l 1 (nI 0) rfl ?_ ?_
    · unfold f_X6_weightOn; simp (disch := omega) only [q_seqr, q_seql, q_ig, q_ni, q_le, q_nle, q_lt, q_nlt, q_eq, q_ne, q_eqr, q_gbt, q_gbf, q_gbd, q_m1lt, q_m1ge, q_m1ne, q_m1eq, q_m1e, Option.bind_some, gLet, nI_add, pk_mul, q_sub, q_m1, q_div, q_modN, nI_clamp, if_true, if_false, Bool.false_eq_true, q_l0, q_l1, q_l2, q_l3, q_l4, q_l5, q_l6, q_l7, q_l8, q_l9, q_l10, q_l11, q_l12, q_l13, q_l14, q_l15, q_l16, q_l19, q_l20, q_l22, q_l24, q_l30, q_l32, q_l34, q_l36, q_l45, q_l47, q_l48, q_l57, q_l58, q_l59, q_l60, q_l61, q_l66, q_l75, q_l76, q_l94, q_l97, q_l99, q_l100, q_l101, q_l104, q_l105, q_l108, q_l109, q_l111, q_l114, q_l115, q_l116, q_l117, q_l118, q_l119, q_l120, q_l126, q_l132, q_l133, q_l135, q_l136, q_l138, q_l146, q_l147, q_l148, q_l149, q_l150, q_l151, q_l152, q_l153, q_l154, q_l155, q_l156, q_l157, q_l158, q_l214, q_l229, q_l244, q_l259, q_l300, q_l999, q_l1813, q_l2072, q_l10000, q_l65536, q_l1000000000, m_done, m_fails, m_thrown, m_th, gs_same, q_gsgs, c_raise0, c_raise1, c_raise2, c_raise3, c_raise4, h1]
    · unfold f_X7_weightOn; simp (disch := omega) only [q_seqr, q_seql, q_ig, q_ni, q_le, q_nle, q_lt, q_nlt, q_eq, q_ne, q_eqr, q_gbt, q_gbf, q_gbd, q_m1lt, q_m1ge, q_m1ne, q_m1eq, q_m1e, Option.bind_some, gLet, nI_add, pk_mul, q_sub, q_m1, q_div, q_modN, nI_clamp, if_true, if_false, Bool.false_eq_true, q_l0, q_l1, q_l2, q_l3, q_l4, q_l5, q_l6, q_l7, q_l8, q_l9, q_l10, q_l11, q_l12, q_l13, q_l14, q_l15, q_l16, q_l19, q_l20, q_l22, q_l24, q_l30, q_l32, q_l34, q_l36, q_l45, q_l47, q_l48, q_l57, q_l58, q_l59, q_l60, q_l61, q_l66, q_l75, q_l76, q_l94, q_l97, q_l99, q_l100, q_l101, q_l104, q_l105, q_l108, q_l109, q_l111, q_l114, q_l115, q_l116, q_l117, q_l118, q_l119, q_l120, q_l126, q_l132, q_l133, q_l135, q_l136, q_l138, q_l146, q_l147, q_l148, q_l149, q_l150, q_l151, q_l152, q_l153, q_l154, q_l155, q_l156, q_l157, q_l158, q_l214, q_l229, q_l244, q_l259, q_l300, q_l999, q_l1813, q_l2072, q_l10000, q_l65536, q_l1000000000, m_done, m_fails, m_thrown, m_th, gs_same, q_gsgs, c_raise0, c_raise1, c_raise2, c_raise3, c_raise4, h2]
  · refine gQ_r (nI (WB (M 151) b)) ?_ ?_
    · unfold f_X6_weightOn; simp (disch := omega) only [q_seqr, q_seql, q_ig, q_ni, q_le, q_nle, q_lt, q_nlt, q_eq, q_ne, q_eqr, q_gbt, q_gbf, q_gbd, q_m1lt, q_m1ge, q_m1ne, q_m1eq, q_m1e, Option.bind_some, gLet, nI_add, pk_mul, q_sub, q_m1, q_div, q_modN, nI_clamp, if_true, if_false, Bool.false_eq_true, q_l0, q_l1, q_l2, q_l3, q_l4, q_l5, q_l6, q_l7, q_l8, q_l9, q_l10, q_l11, q_l12, q_l13, q_l14, q_l15, q_l16, q_l19, q_l20, q_l22, q_l24, q_l30, q_l32, q_l34, q_l36, q_l45, q_l47, q_l48, q_l57, q_l58, q_l59, q_l60, q_l61, q_l66, q_l75, q_l76, q_l94, q_l97, q_l99, q_l100, q_l101, q_l104, q_l105, q_l108, q_l109, q_l111, q_l114, q_l115, q_l116, q_l117, q_l118, q_l119, q_l120, q_l126, q_l132, q_l133, q_l135, q_l136, q_l138, q_l146, q_l147, q_l148, q_l149, q_l150, q_l151, q_l152, q_l153, q_l154, q_l155, q_l156, q_l157, q_l158, q_l214, q_l229, q_l244, q_l259, q_l300, q_l999, q_l1813, q_l2072, q_l10000, q_l65536, q_l1000000000, m_done, m_fails, m_thrown, m_th, gs_same, q_gsgs, c_raise0, c_raise1, c_raise2, c_raise3, c_raise4, h1, c_weightByStacks g w hb]
    · unfold f_X7_weightOn; simp (disch := omega) only [q_seqr, q_seql, q_ig, q_ni, q_le, q_nle, q_lt, q_nlt, q_eq, q_ne, q_eqr, q_gbt, q_gbf, q_gbd, q_m1lt, q_m1ge, q_m1ne, q_m1eq, q_m1e, Option.bind_some, gLet, nI_add, pk_mul, q_sub, q_m1, q_div, q_modN, nI_clamp, if_true, if_false, Bool.false_eq_true, q_l0, q_l1, q_l2, q_l3, q_l4, q_l5, q_l6, q_l7, q_l8, q_l9, q_l10, q_l11, q_l12, q_l13, q_l14, q_l15, q_l16, q_l19, q_l20, q_l22, q_l24, q_l30, q_l32, q_l34, q_l36, q_l45, q_l47, q_l48, q_l57, q_l58, q_l59, q_l60, q_l61, q_l66, q_l75, q_l76, q_l94, q_l97, q_l99, q_l100, q_l101, q_l104, q_l105, q_l108, q_l109, q_l111, q_l114, q_l115, q_l116, q_l117, q_l118, q_l119, q_l120, q_l126, q_l132, q_l133, q_l135, q_l136, q_l138, q_l146, q_l147, q_l148, q_l149, q_l150, q_l151, q_l152, q_l153, q_l154, q_l155, q_l156, q_l157, q_l158, q_l214, q_l229, q_l244, q_l259, q_l300, q_l999, q_l1813, q_l2072, q_l10000, q_l65536, q_l1000000000, m_done, m_fails, m_thrown, m_th, gs_same, q_gsgs, c_raise0, c_raise1, c_raise2, c_raise3, c_raise4, h2, m_weightOn rfl w hb]
/-- a container on a berth's ship -/
def inB (b : Nat) (t : tC) : Bool := decide (t.2.2.2.1 ≠ nI 12 ∧ t.2.2.2.1 / nI 4 = nI b)
theorem c_isAt (g : gSim M o r) {c : Nat} (hc : M (o + 1) 6 = nI c) (h75 : c ≤ 75) {j : Nat} (hj : j < c) (b : Nat) : f_X0_isAt o (nI j) (nI b) M = some (inB b (tRow M o j)) := by
  unfold f_X0_isAt inB tRow
  simp (disch := omega) only [q_seqr, q_seql, q_ig, q_ni, q_le, q_nle, q_lt, q_nlt, q_eq, q_ne, q_eqr, q_gbt, q_gbf, q_gbd, q_m1lt, q_m1ge, q_m1ne, q_m1eq, q_m1e, Option.bind_some, gLet, nI_add, pk_mul, q_sub, q_m1, q_div, q_modN, nI_clamp, if_true, if_false, Bool.false_eq_true, q_l0, q_l1, q_l2, q_l3, q_l4, q_l5, q_l6, q_l7, q_l8, q_l9, q_l10, q_l11, q_l12, q_l13, q_l14, q_l15, q_l16, q_l19, q_l20, q_l22, q_l24, q_l30, q_l32, q_l34, q_l36, q_l45, q_l47, q_l48, q_l57, q_l58, q_l59, q_l60, q_l61, q_l66, q_l75, q_l76, q_l94, q_l97, q_l99, q_l100, q_l101, q_l104, q_l105, q_l108, q_l109, q_l111, q_l114, q_l115, q_l116, q_l117, q_l118, q_l119, q_l120, q_l126, q_l132, q_l133, q_l135, q_l136, q_l138, q_l146, q_l147, q_l148, q_l149, q_l150, q_l151, q_l152, q_l153, q_l154, q_l155, q_l156, q_l157, q_l158, q_l214, q_l229, q_l244, q_l259, q_l300, q_l999, q_l1813, q_l2072, q_l10000, q_l65536, q_l1000000000, s_hasRow hc h75 hj]
  by_cases e : M (o + 5) j = nI 12
  · simp [e]
  · rw [if_neg e]
    by_cases e2 : M (o + 5) j / nI 4 = nI b
    · simp [e, e2]
    · simp [e, e2]
theorem sum_WB (b : Nat) (hb : b < 3) : ((tAll r).map (fun t => if inB b t = true then wN t else 0)).sum = WB r b := by
  rw [tAll, List.map_append, List.sum_append]
  have h2 : ((tYard r).map (fun t => if inB b t = true then wN t else 0)).sum = 0 := sum_zero _ _ (fun t ht => by
    obtain ⟨l, -, rfl⟩ := List.mem_map.mp ht
    rw [if_neg]
    simp [inB, tYd])
  rw [h2, Nat.add_zero, tShip, List.map_map, sum_filter]
  unfold WB
  rw [← WB_all (wq r) b hb]
  congr 1
  apply List.map_congr_left
  intro q hq
  have hq := List.mem_range.mp hq
  have e1 : ¬ nI (q / 5) = nI 12 := fun e => by have := (nI_eq (by omega) (by omega)).mp e; omega
  have e2 : nI (q / 5) / nI 4 = nI b ↔ q / 20 = b := by
    rw [pk_div (by omega) (by omega) (by omega), nI_eq (by omega) (by omega), show q / 5 / 4 = q / 20 by omega]
  by_cases hf : fullB r q = true
  · simp only [Function.comp, hf, if_true]
    by_cases e3 : q / 20 = b
    · rw [if_pos e3, if_pos (show inB b (tCell r q) = true from decide_eq_true ⟨e1, e2.mpr e3⟩)]
      unfold wq
      rw [if_pos hf]
      rfl
    · rw [if_neg e3, if_neg (show ¬ inB b (tCell r q) = true from fun h => e3 (e2.mp (of_decide_eq_true h).2))]
  · rw [if_neg hf]
    unfold wq
    rw [if_neg hf]
    split <;> rfl
theorem c_weightByIds (g : gSim M o r) (w : gRow β r) {b : Nat} (hb : b < 3) : f_X0_weightByIds o (nI b) M = some (nI (WB r b)) := by
  obtain ⟨c, hc, h75, hP, -⟩ := g.rows
  have h := lp_sumN (fun n k a => f_X0_weightByIds_L4 o M (nI b) n k a) (fun a => nI a) (fun k => if inB b (tRow M o k) = true then wN (tRow M o k) else 0) c 0 (fun n k a _ hk => by
      show f_X0_weightByIds_L4 o M (nI b) (n + 1) (nI k) (nI a) = _
      rw [f_X0_weightByIds_L4]
      obtain ⟨-, ⟨u, u1, u2, u3⟩, -⟩ := w.t (of_rows hP hk)
      have u1 : M (o + 3) k = nI u := u1
      have e : wN (tRow M o k) = u := by show (M (o + 3) k).toNatClampNeg = u; rw [u1]; exact nI_clamp (by omega)
      rw [e]
      cases hi : inB b (tRow M o k) with
      | true => simp (disch := omega) only [q_seqr, q_seql, q_ig, q_ni, q_le, q_nle, q_lt, q_nlt, q_eq, q_ne, q_eqr, q_gbt, q_gbf, q_gbd, q_m1lt, q_m1ge, q_m1ne, q_m1eq, q_m1e, Option.bind_some, gLet, nI_add, pk_mul, q_sub, q_m1, q_div, q_modN, nI_clamp, if_true, if_false, Bool.false_eq_true, q_l0, q_l1, q_l2, q_l3, q_l4, q_l5, q_l6, q_l7, q_l8, q_l9, q_l10, q_l11, q_l12, q_l13, q_l14, q_l15, q_l16, q_l19, q_l20, q_l22, q_l24, q_l30, q_l32, q_l34, q_l36, q_l45, q_l47, q_l48, q_l57, q_l58, q_l59, q_l60, q_l61, q_l66, q_l75, q_l76, q_l94, q_l97, q_l99, q_l100, q_l101, q_l104, q_l105, q_l108, q_l109, q_l111, q_l114, q_l115, q_l116, q_l117, q_l118, q_l119, q_l120, q_l126, q_l132, q_l133, q_l135, q_l136, q_l138, q_l146, q_l147, q_l148, q_l149, q_l150, q_l151, q_l152, q_l153, q_l154, q_l155, q_l156, q_l157, q_l158, q_l214, q_l229, q_l244, q_l259, q_l300, q_l999, q_l1813, q_l2072, q_l10000, q_l65536, q_l1000000000, hc, c_isAt g hc h75 hk b, hi, s_weight hc h75 hk, u1]
      | false => simp (disch := omega) only [q_seqr, q_seql, q_ig, q_ni, q_le, q_nle, q_lt, q_nlt, q_eq, q_ne, q_eqr, q_gbt, q_gbf, q_gbd, q_m1lt, q_m1ge, q_m1ne, q_m1eq, q_m1e, Option.bind_some, gLet, nI_add, pk_mul, q_sub, q_m1, q_div, q_modN, nI_clamp, if_true, if_false, Bool.false_eq_true, q_l0, q_l1, q_l2, q_l3, q_l4, q_l5, q_l6, q_l7, q_l8, q_l9, q_l10, q_l11, q_l12, q_l13, q_l14, q_l15, q_l16, q_l19, q_l20, q_l22, q_l24, q_l30, q_l32, q_l34, q_l36, q_l45, q_l47, q_l48, q_l57, q_l58, q_l59, q_l60, q_l61, q_l66, q_l75, q_l76, q_l94, q_l97, q_l99, q_l100, q_l101, q_l104, q_l105, q_l108, q_l109, q_l111, q_l114, q_l115, q_l116, q_l117, q_l118, q_l119, q_l120, q_l126, q_l132, q_l133, q_l135, q_l136, q_l138, q_l146, q_l147, q_l148, q_l149, q_l150, q_l151, q_l152, q_l153, q_l154, q_l155, q_l156, q_l157, q_l158, q_l214, q_l229, q_l244, q_l259, q_l300, q_l999, q_l1813, q_l2072, q_l10000, q_l65536, q_l1000000000, hc, c_isAt g hc h75 hk b, hi, Nat.add_zero]) (fun n a => by
      show f_X0_weightByIds_L4 o M (nI b) (n + 1) (nI c) (nI a) = _
      rw [f_X0_weightByIds_L4]
      simp (disch := omega) only [q_seqr, q_seql, q_ig, q_ni, q_le, q_nle, q_lt, q_nlt, q_eq, q_ne, q_eqr, q_gbt, q_gbf, q_gbd, q_m1lt, q_m1ge, q_m1ne, q_m1eq, q_m1e, Option.bind_some, gLet, nI_add, pk_mul, q_sub, q_m1, q_div, q_modN, nI_clamp, if_true, if_false, Bool.false_eq_true, q_l0, q_l1, q_l2, q_l3, q_l4, q_l5, q_l6, q_l7, q_l8, q_l9, q_l10, q_l11, q_l12, q_l13, q_l14, q_l15, q_l16, q_l19, q_l20, q_l22, q_l24, q_l30, q_l32, q_l34, q_l36, q_l45, q_l47, q_l48, q_l57, q_l58, q_l59, q_l60, q_l61, q_l66, q_l75, q_l76, q_l94, q_l97, q_l99, q_l100, q_l101, q_l104, q_l105, q_l108, q_l109, q_l111, q_l114, q_l115, q_l116, q_l117, q_l118, q_l119, q_l120, q_l126, q_l132, q_l133, q_l135, q_l136, q_l138, q_l146, q_l147, q_l148, q_l149, q_l150, q_l151, q_l152, q_l153, q_l154, q_l155, q_l156, q_l157, q_l158, q_l214, q_l229, q_l244, q_l259, q_l300, q_l999, q_l1813, q_l2072, q_l10000, q_l65536, q_l1000000000, hc]) (by omega) (by omega) 0
  unfold f_X0_weightByIds
  rw [show (0 : Int32) = nI 0 from rfl]
  refine h.trans ?_
  have hs : ((tRows M o c).map (fun t => if inB b t = true then wN t else 0)).sum = ((tAll r).map (fun t => if inB b t = true then wN t else 0)).sum := (hP.map _).sum_nat
  rw [Nat.zero_add, Nat.sub_zero, ← sum_WB (r := r) b hb, ← hs, tRows, List.map_map, List.range_eq_range']
  rfl
theorem Q_weightOnByContainers (g : gSim M 0 (M 151)) (w : gRow β (M 151)) (v : Int32) : gQ kON M (f_X6_weightOnByContainers v M) (f_X7_weightOnByContainers v M) := by
  rcases ship_cases g w v with ⟨hv, h1, h2⟩ | ⟨b, hb, rfl, hm, h0, h1, h2⟩ | ⟨b, hb, rfl, hm, h0, h1, h2, -⟩
  · refine gQ_l 0 (nI 0) rfl ?_ ?_
    · unfold f_X6_weightOnByContainers; simp (disch := omega) only [q_seqr, q_seql, q_ig, q_ni, q_le, q_nle, q_lt, q_nlt, q_eq, q_ne, q_eqr, q_gbt, q_gbf, q_gbd, q_m1lt, q_m1ge, q_m1ne, q_m1eq, q_m1e, Option.bind_some, gLet, nI_add, pk_mul, q_sub, q_m1, q_div, q_modN, nI_clamp, if_true, if_false, Bool.false_eq_true, q_l0, q_l1, q_l2, q_l3, q_l4, q_l5, q_l6, q_l7, q_l8, q_l9, q_l10, q_l11, q_l12, q_l13, q_l14, q_l15, q_l16, q_l19, q_l20, q_l22, q_l24, q_l30, q_l32, q_l34, q_l36, q_l45, q_l47, q_l48, q_l57, q_l58, q_l59, q_l60, q_l61, q_l66, q_l75, q_l76, q_l94, q_l97, q_l99, q_l100, q_l101, q_l104, q_l105, q_l108, q_l109, q_l111, q_l114, q_l115, q_l116, q_l117, q_l118, q_l119, q_l120, q_l126, q_l132, q_l133, q_l135, q_l136, q_l138, q_l146, q_l147, q_l148, q_l149, q_l150, q_l151, q_l152, q_l153, q_l154, q_l155, q_l156, q_l157, q_l158, q_l214, q_l229, q_l244, q_l259, q_l300, q_l999, q_l1813, q_l2072, q_l10000, q_l65536, q_l1000000000, m_done, m_fails, m_thrown, m_th, gs_same, q_gsgs, c_raise0, c_raise1, c_raise2, c_raise3, c_raise4, h1]
    · unfold f_X7_weightOnByContainers f_X7_weightOn; simp (disch := omega) only [q_seqr, q_seql, q_ig, q_ni, q_le, q_nle, q_lt, q_nlt, q_eq, q_ne, q_eqr, q_gbt, q_gbf, q_gbd, q_m1lt, q_m1ge, q_m1ne, q_m1eq, q_m1e, Option.bind_some, gLet, nI_add, pk_mul, q_sub, q_m1, q_div, q_modN, nI_clamp, if_true, if_false, Bool.false_eq_true, q_l0, q_l1, q_l2, q_l3, q_l4, q_l5, q_l6, q_l7, q_l8, q_l9, q_l10, q_l11, q_l12, q_l13, q_l14, q_l15, q_l16, q_l19, q_l20, q_l22, q_l24, q_l30, q_l32, q_l34, q_l36, q_l45, q_l47, q_l48, q_l57, q_l58, q_l59, q_l60, q_l61, q_l66, q_l75, q_l76, q_l94, q_l97, q_l99, q_l100, q_l101, q_l104, q_l105, q_l108, q_l109, q_l111, q_l114, q_l115, q_l116, q_l117, q_l118, q_l119, q_l120, q_l126, q_l132, q_l133, q_l135, q_l136, q_l138, q_l146, q_l147, q_l148, q_l149, q_l150, q_l151, q_l152, q_l153, q_l154, q_l155, q_l156, q_l157, q_l158, q_l214, q_l229, q_l244, q_l259, q_l300, q_l999, q_l1813, q_l2072, q_l10000, q_l65536, q_l1000000000, m_done, m_fails, m_thrown, m_th, gs_same, q_gsgs, c_raise0, c_raise1, c_raise2, c_raise3, c_raise4, h2]
  · refine gQ_l 1 (nI 0) rfl ?_ ?_
    · unfold f_X6_weightOnByContainers; simp (disch := omega) only [q_seqr, q_seql, q_ig, q_ni, q_le, q_nle, q_lt, q_nlt, q_eq, q_ne, q_eqr, q_gbt, q_gbf, q_gbd, q_m1lt, q_m1ge, q_m1ne, q_m1eq, q_m1e, Option.bind_some, gLet, nI_add, pk_mul, q_sub, q_m1, q_div, q_modN, nI_clamp, if_true, if_false, Bool.false_eq_true, q_l0, q_l1, q_l2, q_l3, q_l4, q_l5, q_l6, q_l7, q_l8, q_l9, q_l10, q_l11, q_l12, q_l13, q_l14, q_l15, q_l16, q_l19, q_l20, q_l22, q_l24, q_l30, q_l32, q_l34, q_l36, q_l45, q_l47, q_l48, q_l57, q_l58, q_l59, q_l60, q_l61, q_l66, q_l75, q_l76, q_l94, q_l97, q_l99, q_l100, q_l101, q_l104, q_l105, q_l108, q_l109, q_l111, q_l114, q_l115, q_l116, q_l117, q_l118, q_l119, q_l120, q_l126, q_l132, q_l133, q_l135, q_l136, q_l138, q_l146, q_l147, q_l148, q_l149, q_l150, q_l151, q_l152, q_l153, q_l154, q_l155, q_l156, q_l157, q_l158, q_l214, q_l229, q_l244, q_l259, q_l300, q_l999, q_l1813, q_l2072, q_l10000, q_l65536, q_l1000000000, m_done, m_fails, m_thrown, m_th, gs_same, q_gsgs, c_raise0, c_raise1, c_raise2, c_raise3, c_raise4, h1]
    · unfold f_X7_weightOnByContainers f_X7_weightOn; simp (disch := omega) only [q_seqr, q_seql, q_ig, q_ni, q_le, q_nle, q_lt, q_nlt, q_eq, q_ne, q_eqr, q_gbt, q_gbf, q_gbd, q_m1lt, q_m1ge, q_m1ne, q_m1eq, q_m1e, Option.bind_some, gLet, nI_add, pk_mul, q_sub, q_m1, q_div, q_modN, nI_clamp, if_true, if_false, Bool.false_eq_true, q_l0, q_l1, q_l2, q_l3, q_l4, q_l5, q_l6, q_l7, q_l8, q_l9, q_l10, q_l11, q_l12, q_l13, q_l14, q_l15, q_l16, q_l19, q_l20, q_l22, q_l24, q_l30, q_l32, q_l34, q_l36, q_l45, q_l47, q_l48, q_l57, q_l58, q_l59, q_l60, q_l61, q_l66, q_l75, q_l76, q_l94, q_l97, q_l99, q_l100, q_l101, q_l104, q_l105, q_l108, q_l109, q_l111, q_l114, q_l115, q_l116, q_l117, q_l118, q_l119, q_l120, q_l126, q_l132, q_l133, q_l135, q_l136, q_l138, q_l146, q_l147, q_l148, q_l149, q_l150, q_l151, q_l152, q_l153, q_l154, q_l155, q_l156, q_l157, q_l158, q_l214, q_l229, q_l244, q_l259, q_l300, q_l999, q_l1813, q_l2072, q_l10000, q_l65536, q_l1000000000, m_done, m_fails, m_thrown, m_th, gs_same, q_gsgs, c_raise0, c_raise1, c_raise2, c_raise3, c_raise4, h2]
  · refine gQ_r (nI (WB (M 151) b)) ?_ ?_
    · unfold f_X6_weightOnByContainers; simp (disch := omega) only [q_seqr, q_seql, q_ig, q_ni, q_le, q_nle, q_lt, q_nlt, q_eq, q_ne, q_eqr, q_gbt, q_gbf, q_gbd, q_m1lt, q_m1ge, q_m1ne, q_m1eq, q_m1e, Option.bind_some, gLet, nI_add, pk_mul, q_sub, q_m1, q_div, q_modN, nI_clamp, if_true, if_false, Bool.false_eq_true, q_l0, q_l1, q_l2, q_l3, q_l4, q_l5, q_l6, q_l7, q_l8, q_l9, q_l10, q_l11, q_l12, q_l13, q_l14, q_l15, q_l16, q_l19, q_l20, q_l22, q_l24, q_l30, q_l32, q_l34, q_l36, q_l45, q_l47, q_l48, q_l57, q_l58, q_l59, q_l60, q_l61, q_l66, q_l75, q_l76, q_l94, q_l97, q_l99, q_l100, q_l101, q_l104, q_l105, q_l108, q_l109, q_l111, q_l114, q_l115, q_l116, q_l117, q_l118, q_l119, q_l120, q_l126, q_l132, q_l133, q_l135, q_l136, q_l138, q_l146, q_l147, q_l148, q_l149, q_l150, q_l151, q_l152, q_l153, q_l154, q_l155, q_l156, q_l157, q_l158, q_l214, q_l229, q_l244, q_l259, q_l300, q_l999, q_l1813, q_l2072, q_l10000, q_l65536, q_l1000000000, m_done, m_fails, m_thrown, m_th, gs_same, q_gsgs, c_raise0, c_raise1, c_raise2, c_raise3, c_raise4, h1, c_weightByIds g w hb]
    · unfold f_X7_weightOnByContainers f_X7_weightOn; simp (disch := omega) only [q_seqr, q_seql, q_ig, q_ni, q_le, q_nle, q_lt, q_nlt, q_eq, q_ne, q_eqr, q_gbt, q_gbf, q_gbd, q_m1lt, q_m1ge, q_m1ne, q_m1eq, q_m1e, Option.bind_some, gLet, nI_add, pk_mul, q_sub, q_m1, q_div, q_modN, nI_clamp, if_true, if_false, Bool.false_eq_true, q_l0, q_l1, q_l2, q_l3, q_l4, q_l5, q_l6, q_l7, q_l8, q_l9, q_l10, q_l11, q_l12, q_l13, q_l14, q_l15, q_l16, q_l19, q_l20, q_l22, q_l24, q_l30, q_l32, q_l34, q_l36, q_l45, q_l47, q_l48, q_l57, q_l58, q_l59, q_l60, q_l61, q_l66, q_l75, q_l76, q_l94, q_l97, q_l99, q_l100, q_l101, q_l104, q_l105, q_l108, q_l109, q_l111, q_l114, q_l115, q_l116, q_l117, q_l118, q_l119, q_l120, q_l126, q_l132, q_l133, q_l135, q_l136, q_l138, q_l146, q_l147, q_l148, q_l149, q_l150, q_l151, q_l152, q_l153, q_l154, q_l155, q_l156, q_l157, q_l158, q_l214, q_l229, q_l244, q_l259, q_l300, q_l999, q_l1813, q_l2072, q_l10000, q_l65536, q_l1000000000, m_done, m_fails, m_thrown, m_th, gs_same, q_gsgs, c_raise0, c_raise1, c_raise2, c_raise3, c_raise4, h2, m_weightOn rfl w hb]
/-! a heavy one over a light one -/
def hlI (r : Nat → Int32) (p u : Nat) : Nat := ((List.range' 0 u).map (fun l => if wq r (5 * p + l) < wq r (5 * p + u) then 1 else 0)).sum
theorem c_hol (g : gSim M o r) (w : gRow β r) {p : Nat} (hp : p < 12) : f_X0_heavyOverLightPairs o (nI p) M = some (nI (((List.range' 1 4).map (hlI r p)).sum)) := by
  have inner : ∀ u, u < 5 → ∀ a, f_X0_heavyOverLightPairs_L12 o M (nI u) (nI p) gF (nI 0) (nI a) = some (nI u, nI (a + hlI r p u)) := fun u hu a =>
    lp_sumN (fun n k a => f_X0_heavyOverLightPairs_L12 o M (nI u) (nI p) n k a) (fun a => (nI u, nI a)) (fun l => if wq r (5 * p + l) < wq r (5 * p + u) then 1 else 0) u 0 (fun n k a _ hk => by
      show f_X0_heavyOverLightPairs_L12 o M (nI u) (nI p) (n + 1) (nI k) (nI a) = _
      obtain ⟨x, x1, x2⟩ := c_weightAt g w (p := p) (l := u) hp hu
      obtain ⟨y, y1, y2⟩ := c_weightAt g w (p := p) (l := k) hp (by omega)
      have b1 := wq_le w (q := 5 * p + u) (by omega)
      have b2 := wq_le w (q := 5 * p + k) (by omega)
      rw [f_X0_heavyOverLightPairs_L12]
      by_cases e : wq r (5 * p + k) < wq r (5 * p + u)
      · simp (disch := omega) only [q_seqr, q_seql, q_ig, q_ni, q_le, q_nle, q_lt, q_nlt, q_eq, q_ne, q_eqr, q_gbt, q_gbf, q_gbd, q_m1lt, q_m1ge, q_m1ne, q_m1eq, q_m1e, Option.bind_some, gLet, nI_add, pk_mul, q_sub, q_m1, q_div, q_modN, nI_clamp, if_true, if_false, Bool.false_eq_true, q_l0, q_l1, q_l2, q_l3, q_l4, q_l5, q_l6, q_l7, q_l8, q_l9, q_l10, q_l11, q_l12, q_l13, q_l14, q_l15, q_l16, q_l19, q_l20, q_l22, q_l24, q_l30, q_l32, q_l34, q_l36, q_l45, q_l47, q_l48, q_l57, q_l58, q_l59, q_l60, q_l61, q_l66, q_l75, q_l76, q_l94, q_l97, q_l99, q_l100, q_l101, q_l104, q_l105, q_l108, q_l109, q_l111, q_l114, q_l115, q_l116, q_l117, q_l118, q_l119, q_l120, q_l126, q_l132, q_l133, q_l135, q_l136, q_l138, q_l146, q_l147, q_l148, q_l149, q_l150, q_l151, q_l152, q_l153, q_l154, q_l155, q_l156, q_l157, q_l158, q_l214, q_l229, q_l244, q_l259, q_l300, q_l999, q_l1813, q_l2072, q_l10000, q_l65536, q_l1000000000, x1, x2, y1, y2, if_pos e]
      · simp (disch := omega) only [q_seqr, q_seql, q_ig, q_ni, q_le, q_nle, q_lt, q_nlt, q_eq, q_ne, q_eqr, q_gbt, q_gbf, q_gbd, q_m1lt, q_m1ge, q_m1ne, q_m1eq, q_m1e, Option.bind_some, gLet, nI_add, pk_mul, q_sub, q_m1, q_div, q_modN, nI_clamp, if_true, if_false, Bool.false_eq_true, q_l0, q_l1, q_l2, q_l3, q_l4, q_l5, q_l6, q_l7, q_l8, q_l9, q_l10, q_l11, q_l12, q_l13, q_l14, q_l15, q_l16, q_l19, q_l20, q_l22, q_l24, q_l30, q_l32, q_l34, q_l36, q_l45, q_l47, q_l48, q_l57, q_l58, q_l59, q_l60, q_l61, q_l66, q_l75, q_l76, q_l94, q_l97, q_l99, q_l100, q_l101, q_l104, q_l105, q_l108, q_l109, q_l111, q_l114, q_l115, q_l116, q_l117, q_l118, q_l119, q_l120, q_l126, q_l132, q_l133, q_l135, q_l136, q_l138, q_l146, q_l147, q_l148, q_l149, q_l150, q_l151, q_l152, q_l153, q_l154, q_l155, q_l156, q_l157, q_l158, q_l214, q_l229, q_l244, q_l259, q_l300, q_l999, q_l1813, q_l2072, q_l10000, q_l65536, q_l1000000000, x1, x2, y1, y2, if_neg e, Nat.add_zero]) (fun n a => by
      show f_X0_heavyOverLightPairs_L12 o M (nI u) (nI p) (n + 1) (nI u) (nI a) = _
      rw [f_X0_heavyOverLightPairs_L12]
      simp (disch := omega) only [q_seqr, q_seql, q_ig, q_ni, q_le, q_nle, q_lt, q_nlt, q_eq, q_ne, q_eqr, q_gbt, q_gbf, q_gbd, q_m1lt, q_m1ge, q_m1ne, q_m1eq, q_m1e, Option.bind_some, gLet, nI_add, pk_mul, q_sub, q_m1, q_div, q_modN, nI_clamp, if_true, if_false, Bool.false_eq_true, q_l0, q_l1, q_l2, q_l3, q_l4, q_l5, q_l6, q_l7, q_l8, q_l9, q_l10, q_l11, q_l12, q_l13, q_l14, q_l15, q_l16, q_l19, q_l20, q_l22, q_l24, q_l30, q_l32, q_l34, q_l36, q_l45, q_l47, q_l48, q_l57, q_l58, q_l59, q_l60, q_l61, q_l66, q_l75, q_l76, q_l94, q_l97, q_l99, q_l100, q_l101, q_l104, q_l105, q_l108, q_l109, q_l111, q_l114, q_l115, q_l116, q_l117, q_l118, q_l119, q_l120, q_l126, q_l132, q_l133, q_l135, q_l136, q_l138, q_l146, q_l147, q_l148, q_l149, q_l150, q_l151, q_l152, q_l153, q_l154, q_l155, q_l156, q_l157, q_l158, q_l214, q_l229, q_l244, q_l259, q_l300, q_l999, q_l1813, q_l2072, q_l10000, q_l65536, q_l1000000000]) (by omega) (by omega) a
  have outer := lp_sumN (fun n k a => f_X0_heavyOverLightPairs_L4 o M (nI p) n k a) (fun a => nI a) (hlI r p) 5 1 (fun n k a _ hk => by
      show f_X0_heavyOverLightPairs_L4 o M (nI p) (n + 1) (nI k) (nI a) = _
      rw [f_X0_heavyOverLightPairs_L4]
      simp (disch := omega) only [q_seqr, q_seql, q_ig, q_ni, q_le, q_nle, q_lt, q_nlt, q_eq, q_ne, q_eqr, q_gbt, q_gbf, q_gbd, q_m1lt, q_m1ge, q_m1ne, q_m1eq, q_m1e, Option.bind_some, gLet, nI_add, pk_mul, q_sub, q_m1, q_div, q_modN, nI_clamp, if_true, if_false, Bool.false_eq_true, q_l0, q_l1, q_l2, q_l3, q_l4, q_l5, q_l6, q_l7, q_l8, q_l9, q_l10, q_l11, q_l12, q_l13, q_l14, q_l15, q_l16, q_l19, q_l20, q_l22, q_l24, q_l30, q_l32, q_l34, q_l36, q_l45, q_l47, q_l48, q_l57, q_l58, q_l59, q_l60, q_l61, q_l66, q_l75, q_l76, q_l94, q_l97, q_l99, q_l100, q_l101, q_l104, q_l105, q_l108, q_l109, q_l111, q_l114, q_l115, q_l116, q_l117, q_l118, q_l119, q_l120, q_l126, q_l132, q_l133, q_l135, q_l136, q_l138, q_l146, q_l147, q_l148, q_l149, q_l150, q_l151, q_l152, q_l153, q_l154, q_l155, q_l156, q_l157, q_l158, q_l214, q_l229, q_l244, q_l259, q_l300, q_l999, q_l1813, q_l2072, q_l10000, q_l65536, q_l1000000000, inner k hk a]) (fun n a => by
      show f_X0_heavyOverLightPairs_L4 o M (nI p) (n + 1) (nI 5) (nI a) = _
      rw [f_X0_heavyOverLightPairs_L4]
      simp (disch := omega) only [q_seqr, q_seql, q_ig, q_ni, q_le, q_nle, q_lt, q_nlt, q_eq, q_ne, q_eqr, q_gbt, q_gbf, q_gbd, q_m1lt, q_m1ge, q_m1ne, q_m1eq, q_m1e, Option.bind_some, gLet, nI_add, pk_mul, q_sub, q_m1, q_div, q_modN, nI_clamp, if_true, if_false, Bool.false_eq_true, q_l0, q_l1, q_l2, q_l3, q_l4, q_l5, q_l6, q_l7, q_l8, q_l9, q_l10, q_l11, q_l12, q_l13, q_l14, q_l15, q_l16, q_l19, q_l20, q_l22, q_l24, q_l30, q_l32, q_l34, q_l36, q_l45, q_l47, q_l48, q_l57, q_l58, q_l59, q_l60, q_l61, q_l66, q_l75, q_l76, q_l94, q_l97, q_l99, q_l100, q_l101, q_l104, q_l105, q_l108, q_l109, q_l111, q_l114, q_l115, q_l116, q_l117, q_l118, q_l119, q_l120, q_l126, q_l132, q_l133, q_l135, q_l136, q_l138, q_l146, q_l147, q_l148, q_l149, q_l150, q_l151, q_l152, q_l153, q_l154, q_l155, q_l156, q_l157, q_l158, q_l214, q_l229, q_l244, q_l259, q_l300, q_l999, q_l1813, q_l2072, q_l10000, q_l65536, q_l1000000000]) (by omega) (by omega) 0
  unfold f_X0_heavyOverLightPairs
  rw [show (0 : Int32) = nI 0 from rfl, show (1 : Int32) = nI 1 from rfl]
  refine outer.trans ?_
  rw [Nat.zero_add]
theorem hl_top (w : gRow β r) {p u : Nat} (hp : p < 12) (hu : u < 5) (h : hN r p ≤ u) : hlI r p u = 0 := by
  unfold hlI
  apply sum_zero
  intro l _
  have : wq r (5 * p + u) = 0 := by
    unfold wq fullB
    rw [show (5 * p + u) / 5 = p by omega, show (5 * p + u) % 5 = u by omega, if_neg (by simp; omega)]
  rw [this, if_neg (by omega)]
theorem hl_sum (w : gRow β r) {p : Nat} (hp : p < 12) : ((List.range' 0 (hN r p)).map (hlI r p)).sum = ((List.range' 1 4).map (hlI r p)).sum := by
  have h5 := (w.h hp).2
  have z0 : hlI r p 0 = 0 := rfl
  have e : hN r p = 0 ∨ hN r p = 1 ∨ hN r p = 2 ∨ hN r p = 3 ∨ hN r p = 4 ∨ hN r p = 5 := by omega
  rcases e with e | e | e | e | e | e
  · have z1 := hl_top w hp (u := 1) (by omega) (by omega)
    have z2 := hl_top w hp (u := 2) (by omega) (by omega)
    have z3 := hl_top w hp (u := 3) (by omega) (by omega)
    have z4 := hl_top w hp (u := 4) (by omega) (by omega)
    rw [e]; simp [List.range', z0, z1, z2, z3, z4]
  · have z1 := hl_top w hp (u := 1) (by omega) (by omega)
    have z2 := hl_top w hp (u := 2) (by omega) (by omega)
    have z3 := hl_top w hp (u := 3) (by omega) (by omega)
    have z4 := hl_top w hp (u := 4) (by omega) (by omega)
    rw [e]; simp [List.range', z0, z1, z2, z3, z4]
  · have z2 := hl_top w hp (u := 2) (by omega) (by omega)
    have z3 := hl_top w hp (u := 3) (by omega) (by omega)
    have z4 := hl_top w hp (u := 4) (by omega) (by omega)
    rw [e]; simp [List.range', z0, z2, z3, z4]
  · have z3 := hl_top w hp (u := 3) (by omega) (by omega)
    have z4 := hl_top w hp (u := 4) (by omega) (by omega)
    rw [e]; simp [List.range', z0, z3, z4]
  · have z4 := hl_top w hp (u := 4) (by omega) (by omega)
    rw [e]; simp [List.range', z0, z4]
  · rw [e]; simp [List.range', z0]
theorem m_hol (hr : M 151 = r) (w : gRow β r) {b s : Nat} (hb : b < 3) (hs : s < 4) : f_X7_heavyOverLight_L23 (nI 0) (nI b) (nI s) gF (nI 0) (nI 0) M = some (nI (((List.range' 0 (hN r (b * 4 + s))).map (hlI r (b * 4 + s))).sum), gs M 150 13 (nI 0)) := by
  have hp : b * 4 + s < 12 := by omega
  have h5 := (w.h hp).2
  have hh : f_X7_height (nI b) (nI s) M = some (nI (hN r (b * 4 + s))) := by rw [← hr]; exact m_height (by rw [hr]; exact w) hb hs
  have wt : ∀ l, l < hN r (b * 4 + s) → r (94 + (20 * b + 5 * s + l)) = nI (wq r (5 * (b * 4 + s) + l)) ∧ wq r (5 * (b * 4 + s) + l) ≤ 30 := fun l hl => by
    obtain ⟨f1, f2, f3⟩ := cell_full hl h5
    have := wt_cell w (by omega) f1
    rw [show 20 * b + 5 * s + l = 5 * (b * 4 + s) + l by omega]
    exact ⟨this.1, this.2.2⟩
  have inner : ∀ u, u < hN r (b * 4 + s) → ∀ a, f_X7_heavyOverLight_L37 (nI u) (nI 0) (nI b) (nI s) gF (nI 0) (nI a) M = some (nI u, nI (a + hlI r (b * 4 + s) u), M) := fun u hu a =>
    lp_sumN (fun n k a => f_X7_heavyOverLight_L37 (nI u) (nI 0) (nI b) (nI s) n k a M) (fun a => (nI u, nI a, M)) (fun l => if wq r (5 * (b * 4 + s) + l) < wq r (5 * (b * 4 + s) + u) then 1 else 0) u 0 (fun n k a _ hk => by
      show f_X7_heavyOverLight_L37 (nI u) (nI 0) (nI b) (nI s) (n + 1) (nI k) (nI a) M = _
      have b1 := wt u hu
      have b2 := wt k (by omega)
      rw [f_X7_heavyOverLight_L37]
      unfold f_X7_cell
      by_cases e : wq r (5 * (b * 4 + s) + k) < wq r (5 * (b * 4 + s) + u)
      · simp (disch := omega) only [q_seqr, q_seql, q_ig, q_ni, q_le, q_nle, q_lt, q_nlt, q_eq, q_ne, q_eqr, q_gbt, q_gbf, q_gbd, q_m1lt, q_m1ge, q_m1ne, q_m1eq, q_m1e, Option.bind_some, gLet, nI_add, pk_mul, q_sub, q_m1, q_div, q_modN, nI_clamp, if_true, if_false, Bool.false_eq_true, q_l0, q_l1, q_l2, q_l3, q_l4, q_l5, q_l6, q_l7, q_l8, q_l9, q_l10, q_l11, q_l12, q_l13, q_l14, q_l15, q_l16, q_l19, q_l20, q_l22, q_l24, q_l30, q_l32, q_l34, q_l36, q_l45, q_l47, q_l48, q_l57, q_l58, q_l59, q_l60, q_l61, q_l66, q_l75, q_l76, q_l94, q_l97, q_l99, q_l100, q_l101, q_l104, q_l105, q_l108, q_l109, q_l111, q_l114, q_l115, q_l116, q_l117, q_l118, q_l119, q_l120, q_l126, q_l132, q_l133, q_l135, q_l136, q_l138, q_l146, q_l147, q_l148, q_l149, q_l150, q_l151, q_l152, q_l153, q_l154, q_l155, q_l156, q_l157, q_l158, q_l214, q_l229, q_l244, q_l259, q_l300, q_l999, q_l1813, q_l2072, q_l10000, q_l65536, q_l1000000000, hr, b1.1, b2.1, if_pos e]
      · simp (disch := omega) only [q_seqr, q_seql, q_ig, q_ni, q_le, q_nle, q_lt, q_nlt, q_eq, q_ne, q_eqr, q_gbt, q_gbf, q_gbd, q_m1lt, q_m1ge, q_m1ne, q_m1eq, q_m1e, Option.bind_some, gLet, nI_add, pk_mul, q_sub, q_m1, q_div, q_modN, nI_clamp, if_true, if_false, Bool.false_eq_true, q_l0, q_l1, q_l2, q_l3, q_l4, q_l5, q_l6, q_l7, q_l8, q_l9, q_l10, q_l11, q_l12, q_l13, q_l14, q_l15, q_l16, q_l19, q_l20, q_l22, q_l24, q_l30, q_l32, q_l34, q_l36, q_l45, q_l47, q_l48, q_l57, q_l58, q_l59, q_l60, q_l61, q_l66, q_l75, q_l76, q_l94, q_l97, q_l99, q_l100, q_l101, q_l104, q_l105, q_l108, q_l109, q_l111, q_l114, q_l115, q_l116, q_l117, q_l118, q_l119, q_l120, q_l126, q_l132, q_l133, q_l135, q_l136, q_l138, q_l146, q_l147, q_l148, q_l149, q_l150, q_l151, q_l152, q_l153, q_l154, q_l155, q_l156, q_l157, q_l158, q_l214, q_l229, q_l244, q_l259, q_l300, q_l999, q_l1813, q_l2072, q_l10000, q_l65536, q_l1000000000, hr, b1.1, b2.1, if_neg e, Nat.add_zero]) (fun n a => by
      show f_X7_heavyOverLight_L37 (nI u) (nI 0) (nI b) (nI s) (n + 1) (nI u) (nI a) M = _
      rw [f_X7_heavyOverLight_L37]
      simp (disch := omega) only [q_seqr, q_seql, q_ig, q_ni, q_le, q_nle, q_lt, q_nlt, q_eq, q_ne, q_eqr, q_gbt, q_gbf, q_gbd, q_m1lt, q_m1ge, q_m1ne, q_m1eq, q_m1e, Option.bind_some, gLet, nI_add, pk_mul, q_sub, q_m1, q_div, q_modN, nI_clamp, if_true, if_false, Bool.false_eq_true, q_l0, q_l1, q_l2, q_l3, q_l4, q_l5, q_l6, q_l7, q_l8, q_l9, q_l10, q_l11, q_l12, q_l13, q_l14, q_l15, q_l16, q_l19, q_l20, q_l22, q_l24, q_l30, q_l32, q_l34, q_l36, q_l45, q_l47, q_l48, q_l57, q_l58, q_l59, q_l60, q_l61, q_l66, q_l75, q_l76, q_l94, q_l97, q_l99, q_l100, q_l101, q_l104, q_l105, q_l108, q_l109, q_l111, q_l114, q_l115, q_l116, q_l117, q_l118, q_l119, q_l120, q_l126, q_l132, q_l133, q_l135, q_l136, q_l138, q_l146, q_l147, q_l148, q_l149, q_l150, q_l151, q_l152, q_l153, q_l154, q_l155, q_l156, q_l157, q_l158, q_l214, q_l229, q_l244, q_l259, q_l300, q_l999, q_l1813, q_l2072, q_l10000, q_l65536, q_l1000000000]) (by omega) (by omega) a
  have outer := lp_sumN (fun n k a => f_X7_heavyOverLight_L23 (nI 0) (nI b) (nI s) n k a M) (fun a => (nI a, gs M 150 13 (nI 0))) (hlI r (b * 4 + s)) (hN r (b * 4 + s)) 0 (fun n k a _ hk => by
      show f_X7_heavyOverLight_L23 (nI 0) (nI b) (nI s) (n + 1) (nI k) (nI a) M = _
      rw [f_X7_heavyOverLight_L23]
      simp (disch := omega) only [q_seqr, q_seql, q_ig, q_ni, q_le, q_nle, q_lt, q_nlt, q_eq, q_ne, q_eqr, q_gbt, q_gbf, q_gbd, q_m1lt, q_m1ge, q_m1ne, q_m1eq, q_m1e, Option.bind_some, gLet, nI_add, pk_mul, q_sub, q_m1, q_div, q_modN, nI_clamp, if_true, if_false, Bool.false_eq_true, q_l0, q_l1, q_l2, q_l3, q_l4, q_l5, q_l6, q_l7, q_l8, q_l9, q_l10, q_l11, q_l12, q_l13, q_l14, q_l15, q_l16, q_l19, q_l20, q_l22, q_l24, q_l30, q_l32, q_l34, q_l36, q_l45, q_l47, q_l48, q_l57, q_l58, q_l59, q_l60, q_l61, q_l66, q_l75, q_l76, q_l94, q_l97, q_l99, q_l100, q_l101, q_l104, q_l105, q_l108, q_l109, q_l111, q_l114, q_l115, q_l116, q_l117, q_l118, q_l119, q_l120, q_l126, q_l132, q_l133, q_l135, q_l136, q_l138, q_l146, q_l147, q_l148, q_l149, q_l150, q_l151, q_l152, q_l153, q_l154, q_l155, q_l156, q_l157, q_l158, q_l214, q_l229, q_l244, q_l259, q_l300, q_l999, q_l1813, q_l2072, q_l10000, q_l65536, q_l1000000000, hh, inner k hk a]) (fun n a => by
      show f_X7_heavyOverLight_L23 (nI 0) (nI b) (nI s) (n + 1) (nI (hN r (b * 4 + s))) (nI a) M = _
      rw [f_X7_heavyOverLight_L23]
      simp (disch := omega) only [q_seqr, q_seql, q_ig, q_ni, q_le, q_nle, q_lt, q_nlt, q_eq, q_ne, q_eqr, q_gbt, q_gbf, q_gbd, q_m1lt, q_m1ge, q_m1ne, q_m1eq, q_m1e, Option.bind_some, gLet, nI_add, pk_mul, q_sub, q_m1, q_div, q_modN, nI_clamp, if_true, if_false, Bool.false_eq_true, q_l0, q_l1, q_l2, q_l3, q_l4, q_l5, q_l6, q_l7, q_l8, q_l9, q_l10, q_l11, q_l12, q_l13, q_l14, q_l15, q_l16, q_l19, q_l20, q_l22, q_l24, q_l30, q_l32, q_l34, q_l36, q_l45, q_l47, q_l48, q_l57, q_l58, q_l59, q_l60, q_l61, q_l66, q_l75, q_l76, q_l94, q_l97, q_l99, q_l100, q_l101, q_l104, q_l105, q_l108, q_l109, q_l111, q_l114, q_l115, q_l116, q_l117, q_l118, q_l119, q_l120, q_l126, q_l132, q_l133, q_l135, q_l136, q_l138, q_l146, q_l147, q_l148, q_l149, q_l150, q_l151, q_l152, q_l153, q_l154, q_l155, q_l156, q_l157, q_l158, q_l214, q_l229, q_l244, q_l259, q_l300, q_l999, q_l1813, q_l2072, q_l10000, q_l65536, q_l1000000000, m_done, m_fails, m_thrown, m_th, gs_same, q_gsgs, c_raise0, c_raise1, c_raise2, c_raise3, c_raise4, hh]) (by omega) (by omega) 0
  refine outer.trans ?_
  rw [Nat.zero_add, Nat.sub_zero]
theorem Q_heavyOverLight (g : gSim M 0 (M 151)) (w : gRow β (M 151)) (v u : Int32) : gQ kON M (f_X6_heavyOverLight v u M) (f_X7_heavyOverLight v u M) := by
  rcases stack_cases g w v u with ⟨h1, h2⟩ | ⟨h1, h2⟩ | ⟨b, s, hb, hs, rfl, rfl, hm, h0, h1, h2⟩
  · refine gQ_l 0 (nI 0) rfl ?_ ?_
    · unfold f_X6_heavyOverLight; simp (disch := omega) only [q_seqr, q_seql, q_ig, q_ni, q_le, q_nle, q_lt, q_nlt, q_eq, q_ne, q_eqr, q_gbt, q_gbf, q_gbd, q_m1lt, q_m1ge, q_m1ne, q_m1eq, q_m1e, Option.bind_some, gLet, nI_add, pk_mul, q_sub, q_m1, q_div, q_modN, nI_clamp, if_true, if_false, Bool.false_eq_true, q_l0, q_l1, q_l2, q_l3, q_l4, q_l5, q_l6, q_l7, q_l8, q_l9, q_l10, q_l11, q_l12, q_l13, q_l14, q_l15, q_l16, q_l19, q_l20, q_l22, q_l24, q_l30, q_l32, q_l34, q_l36, q_l45, q_l47, q_l48, q_l57, q_l58, q_l59, q_l60, q_l61, q_l66, q_l75, q_l76, q_l94, q_l97, q_l99, q_l100, q_l101, q_l104, q_l105, q_l108, q_l109, q_l111, q_l114, q_l115, q_l116, q_l117, q_l118, q_l119, q_l120, q_l126, q_l132, q_l133, q_l135, q_l136, q_l138, q_l146, q_l147, q_l148, q_l149, q_l150, q_l151, q_l152, q_l153, q_l154, q_l155, q_l156, q_l157, q_l158, q_l214, q_l229, q_l244, q_l259, q_l300, q_l999, q_l1813, q_l2072, q_l10000, q_l65536, q_l1000000000, m_done, m_fails, m_thrown, m_th, gs_same, q_gsgs, c_raise0, c_raise1, c_raise2, c_raise3, c_raise4, h1]
    · unfold f_X7_heavyOverLight; simp (disch := omega) only [q_seqr, q_seql, q_ig, q_ni, q_le, q_nle, q_lt, q_nlt, q_eq, q_ne, q_eqr, q_gbt, q_gbf, q_gbd, q_m1lt, q_m1ge, q_m1ne, q_m1eq, q_m1e, Option.bind_some, gLet, nI_add, pk_mul, q_sub, q_m1, q_div, q_modN, nI_clamp, if_true, if_false, Bool.false_eq_true, q_l0, q_l1, q_l2, q_l3, q_l4, q_l5, q_l6, q_l7, q_l8, q_l9, q_l10, q_l11, q_l12, q_l13, q_l14, q_l15, q_l16, q_l19, q_l20, q_l22, q_l24, q_l30, q_l32, q_l34, q_l36, q_l45, q_l47, q_l48, q_l57, q_l58, q_l59, q_l60, q_l61, q_l66, q_l75, q_l76, q_l94, q_l97, q_l99, q_l100, q_l101, q_l104, q_l105, q_l108, q_l109, q_l111, q_l114, q_l115, q_l116, q_l117, q_l118, q_l119, q_l120, q_l126, q_l132, q_l133, q_l135, q_l136, q_l138, q_l146, q_l147, q_l148, q_l149, q_l150, q_l151, q_l152, q_l153, q_l154, q_l155, q_l156, q_l157, q_l158, q_l214, q_l229, q_l244, q_l259, q_l300, q_l999, q_l1813, q_l2072, q_l10000, q_l65536, q_l1000000000, m_done, m_fails, m_thrown, m_th, gs_same, q_gsgs, c_raise0, c_raise1, c_raise2, c_raise3, c_raise4, h2]
  · refine gQ_l 1 (nI 0) rfl ?_ ?_
    · unfold f_X6_heavyOverLight; simp (disch := omega) only [q_seqr, q_seql, q_ig, q_ni, q_le, q_nle, q_lt, q_nlt, q_eq, q_ne, q_eqr, q_gbt, q_gbf, q_gbd, q_m1lt, q_m1ge, q_m1ne, q_m1eq, q_m1e, Option.bind_some, gLet, nI_add, pk_mul, q_sub, q_m1, q_div, q_modN, nI_clamp, if_true, if_false, Bool.false_eq_true, q_l0, q_l1, q_l2, q_l3, q_l4, q_l5, q_l6, q_l7, q_l8, q_l9, q_l10, q_l11, q_l12, q_l13, q_l14, q_l15, q_l16, q_l19, q_l20, q_l22, q_l24, q_l30, q_l32, q_l34, q_l36, q_l45, q_l47, q_l48, q_l57, q_l58, q_l59, q_l60, q_l61, q_l66, q_l75, q_l76, q_l94, q_l97, q_l99, q_l100, q_l101, q_l104, q_l105, q_l108, q_l109, q_l111, q_l114, q_l115, q_l116, q_l117, q_l118, q_l119, q_l120, q_l126, q_l132, q_l133, q_l135, q_l136, q_l138, q_l146, q_l147, q_l148, q_l149, q_l150, q_l151, q_l152, q_l153, q_l154, q_l155, q_l156, q_l157, q_l158, q_l214, q_l229, q_l244, q_l259, q_l300, q_l999, q_l1813, q_l2072, q_l10000, q_l65536, q_l1000000000, m_done, m_fails, m_thrown, m_th, gs_same, q_gsgs, c_raise0, c_raise1, c_raise2, c_raise3, c_raise4, h1]
    · unfold f_X7_heavyOverLight; simp (disch := omega) only [q_seqr, q_seql, q_ig, q_ni, q_le, q_nle, q_lt, q_nlt, q_eq, q_ne, q_eqr, q_gbt, q_gbf, q_gbd, q_m1lt, q_m1ge, q_m1ne, q_m1eq, q_m1e, Option.bind_some, gLet, nI_add, pk_mul, q_sub, q_m1, q_div, q_modN, nI_clamp, if_true, if_false, Bool.false_eq_true, q_l0, q_l1, q_l2, q_l3, q_l4, q_l5, q_l6, q_l7, q_l8, q_l9, q_l10, q_l11, q_l12, q_l13, q_l14, q_l15, q_l16, q_l19, q_l20, q_l22, q_l24, q_l30, q_l32, q_l34, q_l36, q_l45, q_l47, q_l48, q_l57, q_l58, q_l59, q_l60, q_l61, q_l66, q_l75, q_l76, q_l94, q_l97, q_l99, q_l100, q_l101, q_l104, q_l105, q_l108, q_l109, q_l111, q_l114, q_l115, q_l116, q_l117, q_l118, q_l119, q_l120, q_l126, q_l132, q_l133, q_l135, q_l136, q_l138, q_l146, q_l147, q_l148, q_l149, q_l150, q_l151, q_l152, q_l153, q_l154, q_l155, q_l156, q_l157, q_l158, q_l214, q_l229, q_l244, q_l259, q_l300, q_l999, q_l1813, q_l2072, q_l10000, q_l65536, q_l1000000000, m_done, m_fails, m_thrown, m_th, gs_same, q_gsgs, c_raise0, c_raise1, c_raise2, c_raise3, c_raise4, h2]
  · have hm := m_hol rfl w hb hs
    rw [hl_sum w (by omega)] at hm
    refine gQ_r (nI (((List.range' 1 4).map (hlI (M 151) (b * 4 + s))).sum)) ?_ ?_
    · unfold f_X6_heavyOverLight; simp (disch := omega) only [q_seqr, q_seql, q_ig, q_ni, q_le, q_nle, q_lt, q_nlt, q_eq, q_ne, q_eqr, q_gbt, q_gbf, q_gbd, q_m1lt, q_m1ge, q_m1ne, q_m1eq, q_m1e, Option.bind_some, gLet, nI_add, pk_mul, q_sub, q_m1, q_div, q_modN, nI_clamp, if_true, if_false, Bool.false_eq_true, q_l0, q_l1, q_l2, q_l3, q_l4, q_l5, q_l6, q_l7, q_l8, q_l9, q_l10, q_l11, q_l12, q_l13, q_l14, q_l15, q_l16, q_l19, q_l20, q_l22, q_l24, q_l30, q_l32, q_l34, q_l36, q_l45, q_l47, q_l48, q_l57, q_l58, q_l59, q_l60, q_l61, q_l66, q_l75, q_l76, q_l94, q_l97, q_l99, q_l100, q_l101, q_l104, q_l105, q_l108, q_l109, q_l111, q_l114, q_l115, q_l116, q_l117, q_l118, q_l119, q_l120, q_l126, q_l132, q_l133, q_l135, q_l136, q_l138, q_l146, q_l147, q_l148, q_l149, q_l150, q_l151, q_l152, q_l153, q_l154, q_l155, q_l156, q_l157, q_l158, q_l214, q_l229, q_l244, q_l259, q_l300, q_l999, q_l1813, q_l2072, q_l10000, q_l65536, q_l1000000000, m_done, m_fails, m_thrown, m_th, gs_same, q_gsgs, c_raise0, c_raise1, c_raise2, c_raise3, c_raise4, h1, c_pileOf, c_hol g w (p := b * 4 + s) (by omega)]
    · unfold f_X7_heavyOverLight; simp (disch := omega) only [q_seqr, q_seql, q_ig, q_ni, q_le, q_nle, q_lt, q_nlt, q_eq, q_ne, q_eqr, q_gbt, q_gbf, q_gbd, q_m1lt, q_m1ge, q_m1ne, q_m1eq, q_m1e, Option.bind_some, gLet, nI_add, pk_mul, q_sub, q_m1, q_div, q_modN, nI_clamp, if_true, if_false, Bool.false_eq_true, q_l0, q_l1, q_l2, q_l3, q_l4, q_l5, q_l6, q_l7, q_l8, q_l9, q_l10, q_l11, q_l12, q_l13, q_l14, q_l15, q_l16, q_l19, q_l20, q_l22, q_l24, q_l30, q_l32, q_l34, q_l36, q_l45, q_l47, q_l48, q_l57, q_l58, q_l59, q_l60, q_l61, q_l66, q_l75, q_l76, q_l94, q_l97, q_l99, q_l100, q_l101, q_l104, q_l105, q_l108, q_l109, q_l111, q_l114, q_l115, q_l116, q_l117, q_l118, q_l119, q_l120, q_l126, q_l132, q_l133, q_l135, q_l136, q_l138, q_l146, q_l147, q_l148, q_l149, q_l150, q_l151, q_l152, q_l153, q_l154, q_l155, q_l156, q_l157, q_l158, q_l214, q_l229, q_l244, q_l259, q_l300, q_l999, q_l1813, q_l2072, q_l10000, q_l65536, q_l1000000000, m_done, m_fails, m_thrown, m_th, gs_same, q_gsgs, c_raise0, c_raise1, c_raise2, c_raise3, c_raise4, h2, hm]
end PW
