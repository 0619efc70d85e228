/-! Keys and twins. -/
theorem sum_upd (h h' : Nat → Nat) (N y : Nat) (hy : y < N) (hd : ∀ x, x ≠ y → h' x = h x) : ((List.range N).map h').sum + h y = ((List.range N).map h).sum + h' y := by
  induction N with
  | zero => omega
  | succ N ih =>
    rw [List.range_succ, List.map_append, List.map_append, List.sum_append, List.sum_append]
    simp only [List.map_cons, List.map_nil, List.sum_cons, List.sum_nil, Nat.add_zero]
    by_cases e : y = N
    · subst e
      have : (List.range y).map h' = (List.range y).map h := List.map_congr_left (fun x hx => hd x (by have := List.mem_range.mp hx; omega))
      rw [this]
      omega
    · have := ih (by omega)
      have := hd N (fun q => e q.symm)
      omega
def C2 (n : Nat) : Nat := n * (n - 1) / 2
theorem C2_succ (n : Nat) : C2 (n + 1) = C2 n + n := by
  unfold C2
  cases n with
  | zero => rfl
  | succ n =>
    rw [Nat.add_sub_cancel, Nat.add_sub_cancel, show (n + 1 + 1) * (n + 1) = (n + 1) * n + 2 * (n + 1) by rw [Nat.mul_comm (n + 1 + 1), Nat.mul_add (n + 1) (n + 1) 1, Nat.mul_add (n + 1) n 1]; omega]
    omega
theorem first_sum (f g : Nat → Nat) (N : Nat) : ∀ c, (∀ i, i < c → f i < N) → ((List.range c).map (fun k => if (List.range k).all (fun e => !decide (f e = f k)) = true then g (f k) else 0)).sum = ((List.range N).map (fun x => if (List.range c).any (fun i => decide (f i = x)) = true then g x else 0)).sum := by
  intro c
  induction c with
  | zero =>
    intro _
    rw [sum_zero (List.range N)]
    · rfl
    · intro x _; rfl
  | succ c ih =>
    intro hf
    have ih := ih (fun i hi => hf i (by omega))
    rw [List.range_succ, List.map_append, List.sum_append, ih]
    simp only [List.map_cons, List.map_nil, List.sum_cons, List.sum_nil, Nat.add_zero]
    have hany : ∀ x, (List.range c ++ [c]).any (fun i => decide (f i = x)) = ((List.range c).any (fun i => decide (f i = x)) || decide (f c = x)) := fun x => by simp [List.any_append]
    cases hc : (List.range c).any (fun i => decide (f i = f c)) with
    | true =>
      have hall : ¬ (List.range c).all (fun e => !decide (f e = f c)) = true := by
        rw [List.all_eq_true]
        intro h
        obtain ⟨i, hi, hfi⟩ := List.any_eq_true.mp hc
        have := h i hi
        rw [hfi] at this
        cases this
      rw [if_neg hall, Nat.add_zero]
      congr 1
      apply List.map_congr_left
      intro x _
      rw [hany x]
      by_cases e : f c = x
      · subst e
        rw [hc]
        rfl
      · rw [decide_eq_false e, Bool.or_false]
    | false =>
      have hall : (List.range c).all (fun e => !decide (f e = f c)) = true := by
        rw [List.all_eq_true]
        intro i hi
        have := List.any_eq_false.mp hc i hi
        simpa using this
      rw [if_pos hall]
      have := sum_upd (fun x => if (List.range c).any (fun i => decide (f i = x)) = true then g x else 0) (fun x => if (List.range c ++ [c]).any (fun i => decide (f i = x)) = true then g x else 0) N (f c) (hf c (by omega)) (fun x hx => by
        show (if _ then _ else _) = (if _ then _ else _)
        rw [hany x, decide_eq_false (fun e => hx e.symm), Bool.or_false])
      rw [hany (f c), hc, decide_eq_true rfl, Bool.or_true, if_pos rfl, if_neg Bool.false_ne_true, Nat.add_zero] at this
      exact this.symm
theorem pair_sum (f : Nat → Nat) (N : Nat) : ∀ c, (∀ i, i < c → f i < N) → ((List.range c).map (fun l => (List.range l).countP (fun e => decide (f e = f l)))).sum = ((List.range N).map (fun x => C2 ((List.range c).countP (fun i => decide (f i = x))))).sum := by
  intro c
  induction c with
  | zero =>
    intro _
    rw [sum_zero (List.range N)]
    · rfl
    · intro x _
      simp [C2]
  | succ c ih =>
    intro hf
    have ih := ih (fun i hi => hf i (by omega))
    rw [List.range_succ, List.map_append, List.sum_append, ih]
    simp only [List.map_cons, List.map_nil, List.sum_cons, List.sum_nil, Nat.add_zero]
    have hcnt : ∀ x, (List.range c ++ [c]).countP (fun i => decide (f i = x)) = (List.range c).countP (fun i => decide (f i = x)) + if f c = x then 1 else 0 := fun x => by simp [List.countP_append, List.countP_cons]
    have := sum_upd (fun x => C2 ((List.range c).countP (fun i => decide (f i = x)))) (fun x => C2 ((List.range c ++ [c]).countP (fun i => decide (f i = x)))) N (f c) (hf c (by omega)) (fun x hx => by
      show C2 _ = C2 _
      rw [hcnt x, if_neg (fun e => hx e.symm), Nat.add_zero])
    rw [hcnt (f c), if_pos rfl, C2_succ] at this
    omega
theorem sum_grid (h : Nat → Nat) (n m : Nat) : ((List.range (m * n)).map h).sum = ((List.range m).map (fun i => ((List.range n).map (fun j => h (i * n + j))).sum)).sum := by
  induction m with
  | zero => rw [Nat.zero_mul]; rfl
  | succ m ih =>
    have e : List.range ((m + 1) * n) = List.range (m * n) ++ (List.range n).map (fun j => m * n + j) := by
      rw [Nat.succ_mul, List.range_add]
    rw [e, List.map_append, List.sum_append, ih, List.range_succ, List.map_append, List.sum_append, List.map_map]
    simp only [List.map_cons, List.map_nil, List.sum_cons, List.sum_nil, Nat.add_zero]
    rfl
theorem q_c2 {n : Nat} (h : n < 1000) : nI n * (nI n - nI 1) / nI 2 = nI (C2 n) := by
  unfold C2
  cases n with
  | zero => decide
  | succ n =>
    have hb : (n + 1) * (n + 1 - 1) < 2 ^ 31 := Nat.lt_of_lt_of_le (Nat.mul_lt_mul_of_le_of_lt (show n + 1 ≤ 1000 by omega) (show n + 1 - 1 < 1000 by omega) (by omega)) (by omega)
    rw [pk_sub (by omega), pk_mul, pk_div hb (by omega) (by omega)]
def kyN (t : tC) : Nat := t.2.2.1.toNatClampNeg
def kwN (t : tC) : Nat := kyN t * 30 + (wN t - 1)
section PK
variable {M : gM} {o : Nat} {r : Nat → Int32} {β : Nat}
theorem kywt (w : gRow β r) {t : tC} (ht : t ∈ tAll r) : t.2.2.1 = nI (kyN t) ∧ kyN t ≤ 99 ∧ t.2.1 = nI (wN t) ∧ 1 ≤ wN t ∧ wN t ≤ 30 := by
  obtain ⟨-, ⟨u, u1, u2, u3⟩, ⟨k, k1, k2⟩⟩ := w.t ht
  have e1 : kyN t = k := by unfold kyN; rw [k1]; exact nI_clamp (by omega)
  have e2 : wN t = u := by unfold wN; rw [u1]; exact nI_clamp (by omega)
  rw [e1, e2]
  exact ⟨k1, k2, u1, u2, u3⟩
theorem c_first (w : gRow β r) {c : Nat} (hc : M (o + 1) 6 = nI c) (h75 : c ≤ 75) (hP : (tRows M o c).Perm (tAll r)) {k : Nat} (hk : k < c) : f_X0_isFirstWithKey o (nI k) M = some ((List.range k).all (fun e => !decide (kyN (tRow M o e) = kyN (tRow M o k)))) := by
  have ky : ∀ i, i < c → M (o + 4) i = nI (kyN (tRow M o i)) ∧ kyN (tRow M o i) ≤ 99 := fun i hi => by
    have a := kywt w (of_rows hP hi)
    exact ⟨a.1, a.2.1⟩
  unfold f_X0_isFirstWithKey
  rw [show (0 : Int32) = nI 0 from rfl]
  refine lp_all (fun n e => f_X0_isFirstWithKey_L2 o M (nI k) n e) (fun e => !decide (kyN (tRow M o e) = kyN (tRow M o k))) k (fun n e he => ?_) (fun n => ?_) (by omega)
  · show f_X0_isFirstWithKey_L2 o M (nI k) (n + 1) (nI e) = _
    have ke := ky e (by omega)
    have kk := ky k hk
    rw [f_X0_isFirstWithKey_L2]
    by_cases h : kyN (tRow M o e) = kyN (tRow M o k)
    · simp (disch := omega) only [q_seqr, q_seql, q_ig, q_ni, q_le, q_nle, q_lt, q_nlt, q_eq, q_ne, q_eqr, q_gbt, q_gbf, q_gbd, q_m1lt, q_m1ge, q_m1ne, q_m1eq, q_m1e, Option.bind_some, gLet, nI_add, pk_mul, q_sub, q_m1, q_div, q_modN, nI_clamp, if_true, if_false, Bool.false_eq_true, q_l0, q_l1, q_l2, q_l3, q_l4, q_l5, q_l6, q_l7, q_l8, q_l9, q_l10, q_l11, q_l12, q_l13, q_l14, q_l15, q_l16, q_l19, q_l20, q_l22, q_l24, q_l30, q_l32, q_l34, q_l36, q_l45, q_l47, q_l48, q_l57, q_l58, q_l59, q_l60, q_l61, q_l66, q_l75, q_l76, q_l94, q_l97, q_l99, q_l100, q_l101, q_l104, q_l105, q_l108, q_l109, q_l111, q_l114, q_l115, q_l116, q_l117, q_l118, q_l119, q_l120, q_l126, q_l132, q_l133, q_l135, q_l136, q_l138, q_l146, q_l147, q_l148, q_l149, q_l150, q_l151, q_l152, q_l153, q_l154, q_l155, q_l156, q_l157, q_l158, q_l214, q_l229, q_l244, q_l259, q_l300, q_l999, q_l1813, q_l2072, q_l10000, q_l65536, q_l1000000000, s_key hc h75 (show e < c by omega), s_key hc h75 hk, ke.1, kk.1]
      simp [h]
    · simp (disch := omega) only [q_seqr, q_seql, q_ig, q_ni, q_le, q_nle, q_lt, q_nlt, q_eq, q_ne, q_eqr, q_gbt, q_gbf, q_gbd, q_m1lt, q_m1ge, q_m1ne, q_m1eq, q_m1e, Option.bind_some, gLet, nI_add, pk_mul, q_sub, q_m1, q_div, q_modN, nI_clamp, if_true, if_false, Bool.false_eq_true, q_l0, q_l1, q_l2, q_l3, q_l4, q_l5, q_l6, q_l7, q_l8, q_l9, q_l10, q_l11, q_l12, q_l13, q_l14, q_l15, q_l16, q_l19, q_l20, q_l22, q_l24, q_l30, q_l32, q_l34, q_l36, q_l45, q_l47, q_l48, q_l57, q_l58, q_l59, q_l60, q_l61, q_l66, q_l75, q_l76, q_l94, q_l97, q_l99, q_l100, q_l101, q_l104, q_l105, q_l108, q_l109, q_l111, q_l114, q_l115, q_l116, q_l117, q_l118, q_l119, q_l120, q_l126, q_l132, q_l133, q_l135, q_l136, q_l138, q_l146, q_l147, q_l148, q_l149, q_l150, q_l151, q_l152, q_l153, q_l154, q_l155, q_l156, q_l157, q_l158, q_l214, q_l229, q_l244, q_l259, q_l300, q_l999, q_l1813, q_l2072, q_l10000, q_l65536, q_l1000000000, s_key hc h75 (show e < c by omega), s_key hc h75 hk, ke.1, kk.1]
      simp [h]
  · show f_X0_isFirstWithKey_L2 o M (nI k) (n + 1) (nI k) = _
    rw [f_X0_isFirstWithKey_L2]
    simp (disch := omega) only [q_seqr, q_seql, q_ig, q_ni, q_le, q_nle, q_lt, q_nlt, q_eq, q_ne, q_eqr, q_gbt, q_gbf, q_gbd, q_m1lt, q_m1ge, q_m1ne, q_m1eq, q_m1e, Option.bind_some, gLet, nI_add, pk_mul, q_sub, q_m1, q_div, q_modN, nI_clamp, if_true, if_false, Bool.false_eq_true, q_l0, q_l1, q_l2, q_l3, q_l4, q_l5, q_l6, q_l7, q_l8, q_l9, q_l10, q_l11, q_l12, q_l13, q_l14, q_l15, q_l16, q_l19, q_l20, q_l22, q_l24, q_l30, q_l32, q_l34, q_l36, q_l45, q_l47, q_l48, q_l57, q_l58, q_l59, q_l60, q_l61, q_l66, q_l75, q_l76, q_l94, q_l97, q_l99, q_l100, q_l101, q_l104, q_l105, q_l108, q_l109, q_l111, q_l114, q_l115, q_l116, q_l117, q_l118, q_l119, q_l120, q_l126, q_l132, q_l133, q_l135, q_l136, q_l138, q_l146, q_l147, q_l148, q_l149, q_l150, q_l151, q_l152, q_l153, q_l154, q_l155, q_l156, q_l157, q_l158, q_l214, q_l229, q_l244, q_l259, q_l300, q_l999, q_l1813, q_l2072, q_l10000, q_l65536, q_l1000000000]
theorem c_countKeys (w : gRow β r) {c : Nat} (hc : M (o + 1) 6 = nI c) (h75 : c ≤ 75) (hP : (tRows M o c).Perm (tAll r)) : f_X0_countKeys o M = some (nI (((List.range 100).map (fun x => if (List.range c).any (fun i => decide (kyN (tRow M o i) = x)) = true then 1 else 0)).sum)) := by
  have h := lp_sumN (fun n k a => f_X0_countKeys_L4 o M n k a) (fun a => nI a) (fun k => if (List.range k).all (fun e => !decide (kyN (tRow M o e) = kyN (tRow M o k))) = true then 1 else 0) c 0 (fun n k a _ hk => by
    show f_X0_countKeys_L4 o M (n + 1) (nI k) (nI a) = _
    rw [f_X0_countKeys_L4]
    have hf := c_first w hc h75 hP hk
    cases e : (List.range k).all (fun e => !decide (kyN (tRow M o e) = kyN (tRow M o k))) with
    | true =>
      rw [e] at hf
      simp (disch := omega) only [q_seqr, q_seql, q_ig, q_ni, q_le, q_nle, q_lt, q_nlt, q_eq, q_ne, q_eqr, q_gbt, q_gbf, q_gbd, q_m1lt, q_m1ge, q_m1ne, q_m1eq, q_m1e, Option.bind_some, gLet, nI_add, pk_mul, q_sub, q_m1, q_div, q_modN, nI_clamp, if_true, if_false, Bool.false_eq_true, q_l0, q_l1, q_l2, q_l3, q_l4, q_l5, q_l6, q_l7, q_l8, q_l9, q_l10, q_l11, q_l12, q_l13, q_l14, q_l15, q_l16, q_l19, q_l20, q_l22, q_l24, q_l30, q_l32, q_l34, q_l36, q_l45, q_l47, q_l48, q_l57, q_l58, q_l59, q_l60, q_l61, q_l66, q_l75, q_l76, q_l94, q_l97, q_l99, q_l100, q_l101, q_l104, q_l105, q_l108, q_l109, q_l111, q_l114, q_l115, q_l116, q_l117, q_l118, q_l119, q_l120, q_l126, q_l132, q_l133, q_l135, q_l136, q_l138, q_l146, q_l147, q_l148, q_l149, q_l150, q_l151, q_l152, q_l153, q_l154, q_l155, q_l156, q_l157, q_l158, q_l214, q_l229, q_l244, q_l259, q_l300, q_l999, q_l1813, q_l2072, q_l10000, q_l65536, q_l1000000000, hc, hf]
    | false =>
      rw [e] at hf
      simp (disch := omega) only [q_seqr, q_seql, q_ig, q_ni, q_le, q_nle, q_lt, q_nlt, q_eq, q_ne, q_eqr, q_gbt, q_gbf, q_gbd, q_m1lt, q_m1ge, q_m1ne, q_m1eq, q_m1e, Option.bind_some, gLet, nI_add, pk_mul, q_sub, q_m1, q_div, q_modN, nI_clamp, if_true, if_false, Bool.false_eq_true, q_l0, q_l1, q_l2, q_l3, q_l4, q_l5, q_l6, q_l7, q_l8, q_l9, q_l10, q_l11, q_l12, q_l13, q_l14, q_l15, q_l16, q_l19, q_l20, q_l22, q_l24, q_l30, q_l32, q_l34, q_l36, q_l45, q_l47, q_l48, q_l57, q_l58, q_l59, q_l60, q_l61, q_l66, q_l75, q_l76, q_l94, q_l97, q_l99, q_l100, q_l101, q_l104, q_l105, q_l108, q_l109, q_l111, q_l114, q_l115, q_l116, q_l117, q_l118, q_l119, q_l120, q_l126, q_l132, q_l133, q_l135, q_l136, q_l138, q_l146, q_l147, q_l148, q_l149, q_l150, q_l151, q_l152, q_l153, q_l154, q_l155, q_l156, q_l157, q_l158, q_l214, q_l229, q_l244, q_l259, q_l300, q_l999, q_l1813, q_l2072, q_l10000, q_l65536, q_l1000000000, hc, hf, Nat.add_zero]) (fun n a => by
    show f_X0_countKeys_L4 o M (n + 1) (nI c) (nI a) = _
    rw [f_X0_countKeys_L4]
    simp (disch := omega) only [q_seqr, q_seql, q_ig, q_ni, q_le, q_nle, q_lt, q_nlt, q_eq, q_ne, q_eqr, q_gbt, q_gbf, q_gbd, q_m1lt, q_m1ge, q_m1ne, q_m1eq, q_m1e, Option.bind_some, gLet, nI_add, pk_mul, q_sub, q_m1, q_div, q_modN, nI_clamp, if_true, if_false, Bool.false_eq_true, q_l0, q_l1, q_l2, q_l3, q_l4, q_l5, q_l6, q_l7, q_l8, q_l9, q_l10, q_l11, q_l12, q_l13, q_l14, q_l15, q_l16, q_l19, q_l20, q_l22, q_l24, q_l30, q_l32, q_l34, q_l36, q_l45, q_l47, q_l48, q_l57, q_l58, q_l59, q_l60, q_l61, q_l66, q_l75, q_l76, q_l94, q_l97, q_l99, q_l100, q_l101, q_l104, q_l105, q_l108, q_l109, q_l111, q_l114, q_l115, q_l116, q_l117, q_l118, q_l119, q_l120, q_l126, q_l132, q_l133, q_l135, q_l136, q_l138, q_l146, q_l147, q_l148, q_l149, q_l150, q_l151, q_l152, q_l153, q_l154, q_l155, q_l156, q_l157, q_l158, q_l214, q_l229, q_l244, q_l259, q_l300, q_l999, q_l1813, q_l2072, q_l10000, q_l65536, q_l1000000000, hc]) (by omega) (by omega) 0
  unfold f_X0_countKeys
  rw [show (0 : Int32) = nI 0 from rfl]
  refine h.trans ?_
  rw [Nat.zero_add, Nat.sub_zero, ← List.range_eq_range', first_sum (fun i => kyN (tRow M o i)) (fun _ => 1) 100 c (fun i hi => by have := (kywt w (of_rows hP hi)).2.1; show kyN _ < 100; omega)]
/-- how many have a key, and a weight, or any weight if it is 0 -/
def cntKW (r : Nat → Int32) (k u : Nat) : Nat := (tAll r).countP (fun t => decide (kyN t = k ∧ (u = 0 ∨ wN t = u)))
theorem all_le (w : gRow β r) (f : tC → Bool) : (tAll r).countP f ≤ 75 := by
  have h1 := List.countP_le_length (p := f) (l := tAll r)
  have h2 : (tAll r).length ≤ 75 := by
    rw [tAll, List.length_append, tShip, tYard, List.length_map, List.length_map, List.length_range]
    have := List.length_filter_le (fullB r) (List.range 60)
    have := w.y.2
    simp at *
    omega
  omega
theorem m_countOf (hr : M 151 = r) (w : gRow β r) {k u : Nat} (hk : k < 1000) (hu : u < 1000) : f_X7_countOf (nI k) (nI u) M = some (nI (cntKW r k u)) := by
  have hy := w.y
  have yard : ∀ a, f_X7_countOf_L71 M (nI k) (nI u) gF (nI 0) (nI a) = some (nI (a + ((List.range' 0 (yN r)).map (fun l => if kyN (tYd r l) = k ∧ (u = 0 ∨ wN (tYd r l) = u) then 1 else 0)).sum)) := fun a =>
    lp_sumN (fun n l a => f_X7_countOf_L71 M (nI k) (nI u) n l a) (fun a => nI a) (fun l => if kyN (tYd r l) = k ∧ (u = 0 ∨ wN (tYd r l) = u) then 1 else 0) (yN r) 0 (fun n l a _ hl => by
      show f_X7_countOf_L71 M (nI k) (nI u) (n + 1) (nI l) (nI a) = _
      obtain ⟨e1, e2, e3, e4, e5⟩ := kywt w (yd_mem hl)
      have e1 : r (244 + l) = nI (kyN (tYd r l)) := e1
      have e3 : r (229 + l) = nI (wN (tYd r l)) := e3
      rw [f_X7_countOf_L71]
      by_cases c1 : kyN (tYd r l) = k
      · by_cases c2 : u = 0
        · simp (disch := omega) only [q_seqr, q_seql, q_ig, q_ni, q_le, q_nle, q_lt, q_nlt, q_eq, q_ne, q_eqr, q_gbt, q_gbf, q_gbd, q_m1lt, q_m1ge, q_m1ne, q_m1eq, q_m1e, Option.bind_some, gLet, nI_add, pk_mul, q_sub, q_m1, q_div, q_modN, nI_clamp, if_true, if_false, Bool.false_eq_true, q_l0, q_l1, q_l2, q_l3, q_l4, q_l5, q_l6, q_l7, q_l8, q_l9, q_l10, q_l11, q_l12, q_l13, q_l14, q_l15, q_l16, q_l19, q_l20, q_l22, q_l24, q_l30, q_l32, q_l34, q_l36, q_l45, q_l47, q_l48, q_l57, q_l58, q_l59, q_l60, q_l61, q_l66, q_l75, q_l76, q_l94, q_l97, q_l99, q_l100, q_l101, q_l104, q_l105, q_l108, q_l109, q_l111, q_l114, q_l115, q_l116, q_l117, q_l118, q_l119, q_l120, q_l126, q_l132, q_l133, q_l135, q_l136, q_l138, q_l146, q_l147, q_l148, q_l149, q_l150, q_l151, q_l152, q_l153, q_l154, q_l155, q_l156, q_l157, q_l158, q_l214, q_l229, q_l244, q_l259, q_l300, q_l999, q_l1813, q_l2072, q_l10000, q_l65536, q_l1000000000, hr, hy.1, e1, e3]
          rw [if_pos ⟨c1, Or.inl c2⟩]
        · by_cases c3 : wN (tYd r l) = u
          · simp (disch := omega) only [q_seqr, q_seql, q_ig, q_ni, q_le, q_nle, q_lt, q_nlt, q_eq, q_ne, q_eqr, q_gbt, q_gbf, q_gbd, q_m1lt, q_m1ge, q_m1ne, q_m1eq, q_m1e, Option.bind_some, gLet, nI_add, pk_mul, q_sub, q_m1, q_div, q_modN, nI_clamp, if_true, if_false, Bool.false_eq_true, q_l0, q_l1, q_l2, q_l3, q_l4, q_l5, q_l6, q_l7, q_l8, q_l9, q_l10, q_l11, q_l12, q_l13, q_l14, q_l15, q_l16, q_l19, q_l20, q_l22, q_l24, q_l30, q_l32, q_l34, q_l36, q_l45, q_l47, q_l48, q_l57, q_l58, q_l59, q_l60, q_l61, q_l66, q_l75, q_l76, q_l94, q_l97, q_l99, q_l100, q_l101, q_l104, q_l105, q_l108, q_l109, q_l111, q_l114, q_l115, q_l116, q_l117, q_l118, q_l119, q_l120, q_l126, q_l132, q_l133, q_l135, q_l136, q_l138, q_l146, q_l147, q_l148, q_l149, q_l150, q_l151, q_l152, q_l153, q_l154, q_l155, q_l156, q_l157, q_l158, q_l214, q_l229, q_l244, q_l259, q_l300, q_l999, q_l1813, q_l2072, q_l10000, q_l65536, q_l1000000000, hr, hy.1, e1, e3]
            rw [if_pos ⟨c1, Or.inr c3⟩]
          · simp (disch := omega) only [q_seqr, q_seql, q_ig, q_ni, q_le, q_nle, q_lt, q_nlt, q_eq, q_ne, q_eqr, q_gbt, q_gbf, q_gbd, q_m1lt, q_m1ge, q_m1ne, q_m1eq, q_m1e, Option.bind_some, gLet, nI_add, pk_mul, q_sub, q_m1, q_div, q_modN, nI_clamp, if_true, if_false, Bool.false_eq_true, q_l0, q_l1, q_l2, q_l3, q_l4, q_l5, q_l6, q_l7, q_l8, q_l9, q_l10, q_l11, q_l12, q_l13, q_l14, q_l15, q_l16, q_l19, q_l20, q_l22, q_l24, q_l30, q_l32, q_l34, q_l36, q_l45, q_l47, q_l48, q_l57, q_l58, q_l59, q_l60, q_l61, q_l66, q_l75, q_l76, q_l94, q_l97, q_l99, q_l100, q_l101, q_l104, q_l105, q_l108, q_l109, q_l111, q_l114, q_l115, q_l116, q_l117, q_l118, q_l119, q_l120, q_l126, q_l132, q_l133, q_l135, q_l136, q_l138, q_l146, q_l147, q_l148, q_l149, q_l150, q_l151, q_l152, q_l153, q_l154, q_l155, q_l156, q_l157, q_l158, q_l214, q_l229, q_l244, q_l259, q_l300, q_l999, q_l1813, q_l2072, q_l10000, q_l65536, q_l1000000000, hr, hy.1, e1, e3]
            rw [if_neg (fun q => by rcases q.2 with q | q; exact c2 q; exact c3 q)]
      · simp (disch := omega) only [q_seqr, q_seql, q_ig, q_ni, q_le, q_nle, q_lt, q_nlt, q_eq, q_ne, q_eqr, q_gbt, q_gbf, q_gbd, q_m1lt, q_m1ge, q_m1ne, q_m1eq, q_m1e, Option.bind_some, gLet, nI_add, pk_mul, q_sub, q_m1, q_div, q_modN, nI_clamp, if_true, if_false, Bool.false_eq_true, q_l0, q_l1, q_l2, q_l3, q_l4, q_l5, q_l6, q_l7, q_l8, q_l9, q_l10, q_l11, q_l12, q_l13, q_l14, q_l15, q_l16, q_l19, q_l20, q_l22, q_l24, q_l30, q_l32, q_l34, q_l36, q_l45, q_l47, q_l48, q_l57, q_l58, q_l59, q_l60, q_l61, q_l66, q_l75, q_l76, q_l94, q_l97, q_l99, q_l100, q_l101, q_l104, q_l105, q_l108, q_l109, q_l111, q_l114, q_l115, q_l116, q_l117, q_l118, q_l119, q_l120, q_l126, q_l132, q_l133, q_l135, q_l136, q_l138, q_l146, q_l147, q_l148, q_l149, q_l150, q_l151, q_l152, q_l153, q_l154, q_l155, q_l156, q_l157, q_l158, q_l214, q_l229, q_l244, q_l259, q_l300, q_l999, q_l1813, q_l2072, q_l10000, q_l65536, q_l1000000000, hr, hy.1, e1, e3]
        rw [if_neg (fun q => c1 q.1)]) (fun n a => by
      show f_X7_countOf_L71 M (nI k) (nI u) (n + 1) (nI (yN r)) (nI a) = _
      rw [f_X7_countOf_L71]
      simp (disch := omega) only [q_seqr, q_seql, q_ig, q_ni, q_le, q_nle, q_lt, q_nlt, q_eq, q_ne, q_eqr, q_gbt, q_gbf, q_gbd, q_m1lt, q_m1ge, q_m1ne, q_m1eq, q_m1e, Option.bind_some, gLet, nI_add, pk_mul, q_sub, q_m1, q_div, q_modN, nI_clamp, if_true, if_false, Bool.false_eq_true, q_l0, q_l1, q_l2, q_l3, q_l4, q_l5, q_l6, q_l7, q_l8, q_l9, q_l10, q_l11, q_l12, q_l13, q_l14, q_l15, q_l16, q_l19, q_l20, q_l22, q_l24, q_l30, q_l32, q_l34, q_l36, q_l45, q_l47, q_l48, q_l57, q_l58, q_l59, q_l60, q_l61, q_l66, q_l75, q_l76, q_l94, q_l97, q_l99, q_l100, q_l101, q_l104, q_l105, q_l108, q_l109, q_l111, q_l114, q_l115, q_l116, q_l117, q_l118, q_l119, q_l120, q_l126, q_l132, q_l133, q_l135, q_l136, q_l138, q_l146, q_l147, q_l148, q_l149, q_l150, q_l151, q_l152, q_l153, q_l154, q_l155, q_l156, q_l157, q_l158, q_l214, q_l229, q_l244, q_l259, q_l300, q_l999, q_l1813, q_l2072, q_l10000, q_l65536, q_l1000000000, hr, hy.1]) (by omega) (by omega) a
  have h := lp_sumN (fun n q a => f_X7_countOf_L5 M (nI k) (nI u) n q a) (fun a => nI (a + ((List.range' 0 (yN r)).map (fun l => if kyN (tYd r l) = k ∧ (u = 0 ∨ wN (tYd r l) = u) then 1 else 0)).sum)) (fun q => if fullB r q = true ∧ (kyN (tCell r q) = k ∧ (u = 0 ∨ wN (tCell r q) = u)) then 1 else 0) 60 0 (fun n q a _ hq => by
      show f_X7_countOf_L5 M (nI k) (nI u) (n + 1) (nI q) (nI a) = _
      rw [f_X7_countOf_L5]
      cases hf : fullB r q with
      | false =>
        simp (disch := omega) only [q_seqr, q_seql, q_ig, q_ni, q_le, q_nle, q_lt, q_nlt, q_eq, q_ne, q_eqr, q_gbt, q_gbf, q_gbd, q_m1lt, q_m1ge, q_m1ne, q_m1eq, q_m1e, Option.bind_some, gLet, nI_add, pk_mul, q_sub, q_m1, q_div, q_modN, nI_clamp, if_true, if_false, Bool.false_eq_true, q_l0, q_l1, q_l2, q_l3, q_l4, q_l5, q_l6, q_l7, q_l8, q_l9, q_l10, q_l11, q_l12, q_l13, q_l14, q_l15, q_l16, q_l19, q_l20, q_l22, q_l24, q_l30, q_l32, q_l34, q_l36, q_l45, q_l47, q_l48, q_l57, q_l58, q_l59, q_l60, q_l61, q_l66, q_l75, q_l76, q_l94, q_l97, q_l99, q_l100, q_l101, q_l104, q_l105, q_l108, q_l109, q_l111, q_l114, q_l115, q_l116, q_l117, q_l118, q_l119, q_l120, q_l126, q_l132, q_l133, q_l135, q_l136, q_l138, q_l146, q_l147, q_l148, q_l149, q_l150, q_l151, q_l152, q_l153, q_l154, q_l155, q_l156, q_l157, q_l158, q_l214, q_l229, q_l244, q_l259, q_l300, q_l999, q_l1813, q_l2072, q_l10000, q_l65536, q_l1000000000, m_isFull hr w hq, hf]
        simp
      | true =>
        obtain ⟨e1, e2, e3, e4, e5⟩ := kywt w (cell_mem hq hf)
        have e1 : r (154 + q) = nI (kyN (tCell r q)) := e1
        have e3 : r (94 + q) = nI (wN (tCell r q)) := e3
        by_cases c1 : kyN (tCell r q) = k
        · by_cases c2 : u = 0
          · simp (disch := omega) only [q_seqr, q_seql, q_ig, q_ni, q_le, q_nle, q_lt, q_nlt, q_eq, q_ne, q_eqr, q_gbt, q_gbf, q_gbd, q_m1lt, q_m1ge, q_m1ne, q_m1eq, q_m1e, Option.bind_some, gLet, nI_add, pk_mul, q_sub, q_m1, q_div, q_modN, nI_clamp, if_true, if_false, Bool.false_eq_true, q_l0, q_l1, q_l2, q_l3, q_l4, q_l5, q_l6, q_l7, q_l8, q_l9, q_l10, q_l11, q_l12, q_l13, q_l14, q_l15, q_l16, q_l19, q_l20, q_l22, q_l24, q_l30, q_l32, q_l34, q_l36, q_l45, q_l47, q_l48, q_l57, q_l58, q_l59, q_l60, q_l61, q_l66, q_l75, q_l76, q_l94, q_l97, q_l99, q_l100, q_l101, q_l104, q_l105, q_l108, q_l109, q_l111, q_l114, q_l115, q_l116, q_l117, q_l118, q_l119, q_l120, q_l126, q_l132, q_l133, q_l135, q_l136, q_l138, q_l146, q_l147, q_l148, q_l149, q_l150, q_l151, q_l152, q_l153, q_l154, q_l155, q_l156, q_l157, q_l158, q_l214, q_l229, q_l244, q_l259, q_l300, q_l999, q_l1813, q_l2072, q_l10000, q_l65536, q_l1000000000, m_isFull hr w hq, hf, hr, e1, e3]
            rw [if_pos ⟨trivial, c1, Or.inl c2⟩]
          · by_cases c3 : wN (tCell r q) = u
            · simp (disch := omega) only [q_seqr, q_seql, q_ig, q_ni, q_le, q_nle, q_lt, q_nlt, q_eq, q_ne, q_eqr, q_gbt, q_gbf, q_gbd, q_m1lt, q_m1ge, q_m1ne, q_m1eq, q_m1e, Option.bind_some, gLet, nI_add, pk_mul, q_sub, q_m1, q_div, q_modN, nI_clamp, if_true, if_false, Bool.false_eq_true, q_l0, q_l1, q_l2, q_l3, q_l4, q_l5, q_l6, q_l7, q_l8, q_l9, q_l10, q_l11, q_l12, q_l13, q_l14, q_l15, q_l16, q_l19, q_l20, q_l22, q_l24, q_l30, q_l32, q_l34, q_l36, q_l45, q_l47, q_l48, q_l57, q_l58, q_l59, q_l60, q_l61, q_l66, q_l75, q_l76, q_l94, q_l97, q_l99, q_l100, q_l101, q_l104, q_l105, q_l108, q_l109, q_l111, q_l114, q_l115, q_l116, q_l117, q_l118, q_l119, q_l120, q_l126, q_l132, q_l133, q_l135, q_l136, q_l138, q_l146, q_l147, q_l148, q_l149, q_l150, q_l151, q_l152, q_l153, q_l154, q_l155, q_l156, q_l157, q_l158, q_l214, q_l229, q_l244, q_l259, q_l300, q_l999, q_l1813, q_l2072, q_l10000, q_l65536, q_l1000000000, m_isFull hr w hq, hf, hr, e1, e3]
              rw [if_pos ⟨trivial, c1, Or.inr c3⟩]
            · simp (disch := omega) only [q_seqr, q_seql, q_ig, q_ni, q_le, q_nle, q_lt, q_nlt, q_eq, q_ne, q_eqr, q_gbt, q_gbf, q_gbd, q_m1lt, q_m1ge, q_m1ne, q_m1eq, q_m1e, Option.bind_some, gLet, nI_add, pk_mul, q_sub, q_m1, q_div, q_modN, nI_clamp, if_true, if_false, Bool.false_eq_true, q_l0, q_l1, q_l2, q_l3, q_l4, q_l5, q_l6, q_l7, q_l8, q_l9, q_l10, q_l11, q_l12, q_l13, q_l14, q_l15, q_l16, q_l19, q_l20, q_l22, q_l24, q_l30, q_l32, q_l34, q_l36, q_l45, q_l47, q_l48, q_l57, q_l58, q_l59, q_l60, q_l61, q_l66, q_l75, q_l76, q_l94, q_l97, q_l99, q_l100, q_l101, q_l104, q_l105, q_l108, q_l109, q_l111, q_l114, q_l115, q_l116, q_l117, q_l118, q_l119, q_l120, q_l126, q_l132, q_l133, q_l135, q_l136, q_l138, q_l146, q_l147, q_l148, q_l149, q_l150, q_l151, q_l152, q_l153, q_l154, q_l155, q_l156, q_l157, q_l158, q_l214, q_l229, q_l244, q_l259, q_l300, q_l999, q_l1813, q_l2072, q_l10000, q_l65536, q_l1000000000, m_isFull hr w hq, hf, hr, e1, e3]
              rw [if_neg (fun q => by rcases q.2.2 with q | q; exact c2 q; exact c3 q)]
        · simp (disch := omega) only [q_seqr, q_seql, q_ig, q_ni, q_le, q_nle, q_lt, q_nlt, q_eq, q_ne, q_eqr, q_gbt, q_gbf, q_gbd, q_m1lt, q_m1ge, q_m1ne, q_m1eq, q_m1e, Option.bind_some, gLet, nI_add, pk_mul, q_sub, q_m1, q_div, q_modN, nI_clamp, if_true, if_false, Bool.false_eq_true, q_l0, q_l1, q_l2, q_l3, q_l4, q_l5, q_l6, q_l7, q_l8, q_l9, q_l10, q_l11, q_l12, q_l13, q_l14, q_l15, q_l16, q_l19, q_l20, q_l22, q_l24, q_l30, q_l32, q_l34, q_l36, q_l45, q_l47, q_l48, q_l57, q_l58, q_l59, q_l60, q_l61, q_l66, q_l75, q_l76, q_l94, q_l97, q_l99, q_l100, q_l101, q_l104, q_l105, q_l108, q_l109, q_l111, q_l114, q_l115, q_l116, q_l117, q_l118, q_l119, q_l120, q_l126, q_l132, q_l133, q_l135, q_l136, q_l138, q_l146, q_l147, q_l148, q_l149, q_l150, q_l151, q_l152, q_l153, q_l154, q_l155, q_l156, q_l157, q_l158, q_l214, q_l229, q_l244, q_l259, q_l300, q_l999, q_l1813, q_l2072, q_l10000, q_l65536, q_l1000000000, m_isFull hr w hq, hf, hr, e1, e3]
          rw [if_neg (fun q => c1 q.2.1)]) (fun n a => by
      show f_X7_countOf_L5 M (nI k) (nI u) (n + 1) (nI 60) (nI a) = _
      rw [f_X7_countOf_L5]
      simp (disch := omega) only [q_seqr, q_seql, q_ig, q_ni, q_le, q_nle, q_lt, q_nlt, q_eq, q_ne, q_eqr, q_gbt, q_gbf, q_gbd, q_m1lt, q_m1ge, q_m1ne, q_m1eq, q_m1e, Option.bind_some, gLet, nI_add, pk_mul, q_sub, q_m1, q_div, q_modN, nI_clamp, if_true, if_false, Bool.false_eq_true, q_l0, q_l1, q_l2, q_l3, q_l4, q_l5, q_l6, q_l7, q_l8, q_l9, q_l10, q_l11, q_l12, q_l13, q_l14, q_l15, q_l16, q_l19, q_l20, q_l22, q_l24, q_l30, q_l32, q_l34, q_l36, q_l45, q_l47, q_l48, q_l57, q_l58, q_l59, q_l60, q_l61, q_l66, q_l75, q_l76, q_l94, q_l97, q_l99, q_l100, q_l101, q_l104, q_l105, q_l108, q_l109, q_l111, q_l114, q_l115, q_l116, q_l117, q_l118, q_l119, q_l120, q_l126, q_l132, q_l133, q_l135, q_l136, q_l138, q_l146, q_l147, q_l148, q_l149, q_l150, q_l151, q_l152, q_l153, q_l154, q_l155, q_l156, q_l157, q_l158, q_l214, q_l229, q_l244, q_l259, q_l300, q_l999, q_l1813, q_l2072, q_l10000, q_l65536, q_l1000000000]
      exact yard a) (by omega) (by omega) 0
  unfold f_X7_countOf
  rw [show (0 : Int32) = nI 0 from rfl]
  refine h.trans ?_
  have cs : ∀ {α : Type} (L : List α) (P : α → Prop) [DecidablePred P], (L.map (fun x => if P x then 1 else 0)).sum = L.countP (fun x => decide (P x)) := fun L P _ => by
    induction L with
    | nil => rfl
    | cons a L ih => rw [List.map_cons, List.sum_cons, ih, List.countP_cons, Nat.add_comm]; simp
  unfold cntKW
  rw [tAll, List.countP_append, tShip, tYard, List.countP_map, List.countP_filter, List.countP_map, cs, cs, Nat.zero_add, Nat.sub_zero, List.range_eq_range', List.range_eq_range']
  congr 3
  apply List.countP_congr
  intro q _
  simp only [Function.comp, Bool.and_eq_true, decide_eq_true_eq]
  exact ⟨fun h => ⟨h.2, h.1⟩, fun h => ⟨h.2, h.1⟩⟩
theorem ck_any {c : Nat} (hP : (tRows M o c).Perm (tAll r)) (x : Nat) : (List.range c).any (fun i => decide (kyN (tRow M o i) = x)) = decide (0 < cntKW r x 0) := by
  have e : (0 < cntKW r x 0) ↔ ∃ t, t ∈ tAll r ∧ kyN t = x := by
    unfold cntKW
    rw [List.countP_pos_iff]
    simp
  cases h : (List.range c).any (fun i => decide (kyN (tRow M o i) = x)) with
  | true =>
    obtain ⟨i, hi, hx⟩ := List.any_eq_true.mp h
    exact (decide_eq_true (e.mpr ⟨_, of_rows hP (List.mem_range.mp hi), of_decide_eq_true hx⟩)).symm
  | false =>
    refine (decide_eq_false (fun q => ?_)).symm
    obtain ⟨t, ht, hx⟩ := e.mp q
    obtain ⟨i, hi, rfl⟩ := rows_of hP ht
    have := List.any_eq_false.mp h i (List.mem_range.mpr hi)
    exact this (decide_eq_true hx)
theorem Q_differentKeys {M : gM} (g : gSim M 0 (M 151)) (w : gRow β (M 151)) : ∃ b, f_X6_differentKeys M = some b ∧ f_X7_differentKeys M = some (b, gs M 150 13 (nI 0)) := by
  obtain ⟨c, hc, h75, hP, hp⟩ := g.rows
  refine ⟨nI (((List.range' 0 100).map (fun x => if 0 < cntKW (M 151) x 0 then 1 else 0)).sum), ?_, ?_⟩
  · unfold f_X6_differentKeys
    rw [c_countKeys w hc h75 hP, Option.bind_some, ← List.range_eq_range']
    exact congrArg (fun z => some (nI z)) (congrArg List.sum (List.map_congr_left (fun x _ => by rw [ck_any hP x]; simp)))
  · have h := lp_sumN (fun n k a => f_X7_differentKeys_L4 n k a M) (fun a => (nI a, gs M 150 13 (nI 0))) (fun x => if 0 < cntKW (M 151) x 0 then 1 else 0) 100 0 (fun n k a _ hk => by
      show f_X7_differentKeys_L4 (n + 1) (nI k) (nI a) M = _
      have hm := m_countOf (M := M) rfl w (k := k) (u := 0) (by omega) (by omega)
      have hle := all_le w (fun t => decide (kyN t = k ∧ (0 = 0 ∨ wN t = 0)))
      have hle : cntKW (M 151) k 0 ≤ 75 := hle
      rw [f_X7_differentKeys_L4]
      by_cases e : 0 < cntKW (M 151) k 0
      · simp (disch := omega) only [q_seqr, q_seql, q_ig, q_ni, q_le, q_nle, q_lt, q_nlt, q_eq, q_ne, q_eqr, q_gbt, q_gbf, q_gbd, q_m1lt, q_m1ge, q_m1ne, q_m1eq, q_m1e, Option.bind_some, gLet, nI_add, pk_mul, q_sub, q_m1, q_div, q_modN, nI_clamp, if_true, if_false, Bool.false_eq_true, q_l0, q_l1, q_l2, q_l3, q_l4, q_l5, q_l6, q_l7, q_l8, q_l9, q_l10, q_l11, q_l12, q_l13, q_l14, q_l15, q_l16, q_l19, q_l20, q_l22, q_l24, q_l30, q_l32, q_l34, q_l36, q_l45, q_l47, q_l48, q_l57, q_l58, q_l59, q_l60, q_l61, q_l66, q_l75, q_l76, q_l94, q_l97, q_l99, q_l100, q_l101, q_l104, q_l105, q_l108, q_l109, q_l111, q_l114, q_l115, q_l116, q_l117, q_l118, q_l119, q_l120, q_l126, q_l132, q_l133, q_l135, q_l136, q_l138, q_l146, q_l147, q_l148, q_l149, q_l150, q_l151, q_l152, q_l153, q_l154, q_l155, q_l156, q_l157, q_l158, q_l214, q_l229, q_l244, q_l259, q_l300, q_l999, q_l1813, q_l2072, q_l10000, q_l65536, q_l1000000000, hm, if_pos e]
      · simp (disch := omega) only [q_seqr, q_seql, q_ig, q_ni, q_le, q_nle, q_lt, q_nlt, q_eq, q_ne, q_eqr, q_gbt, q_gbf, q_gbd, q_m1lt, q_m1ge, q_m1ne, q_m1eq, q_m1e, Option.bind_some, gLet, nI_add, pk_mul, q_sub, q_m1, q_div, q_modN, nI_clamp, if_true, if_false, Bool.false_eq_true, q_l0, q_l1, q_l2, q_l3, q_l4, q_l5, q_l6, q_l7, q_l8, q_l9, q_l10, q_l11, q_l12, q_l13, q_l14, q_l15, q_l16, q_l19, q_l20, q_l22, q_l24, q_l30, q_l32, q_l34, q_l36, q_l45, q_l47, q_l48, q_l57, q_l58, q_l59, q_l60, q_l61, q_l66, q_l75, q_l76, q_l94, q_l97, q_l99, q_l100, q_l101, q_l104, q_l105, q_l108, q_l109, q_l111, q_l114, q_l115, q_l116, q_l117, q_l118, q_l119, q_l120, q_l126, q_l132, q_l133, q_l135, q_l136, q_l138, q_l146, q_l147, q_l148, q_l149, q_l150, q_l151, q_l152, q_l153, q_l154, q_l155, q_l156, q_l157, q_l158, q_l214, q_l229, q_l244, q_l259, q_l300, q_l999, q_l1813, q_l2072, q_l10000, q_l65536, q_l1000000000, hm, if_neg e]) (fun n a => by
      show f_X7_differentKeys_L4 (n + 1) (nI 100) (nI a) M = _
      rw [f_X7_differentKeys_L4]
      simp (disch := omega) only [q_seqr, q_seql, q_ig, q_ni, q_le, q_nle, q_lt, q_nlt, q_eq, q_ne, q_eqr, q_gbt, q_gbf, q_gbd, q_m1lt, q_m1ge, q_m1ne, q_m1eq, q_m1e, Option.bind_some, gLet, nI_add, pk_mul, q_sub, q_m1, q_div, q_modN, nI_clamp, if_true, if_false, Bool.false_eq_true, q_l0, q_l1, q_l2, q_l3, q_l4, q_l5, q_l6, q_l7, q_l8, q_l9, q_l10, q_l11, q_l12, q_l13, q_l14, q_l15, q_l16, q_l19, q_l20, q_l22, q_l24, q_l30, q_l32, q_l34, q_l36, q_l45, q_l47, q_l48, q_l57, q_l58, q_l59, q_l60, q_l61, q_l66, q_l75, q_l76, q_l94, q_l97, q_l99, q_l100, q_l101, q_l104, q_l105, q_l108, q_l109, q_l111, q_l114, q_l115, q_l116, q_l117, q_l118, q_l119, q_l120, q_l126, q_l132, q_l133, q_l135, q_l136, q_l138, q_l146, q_l147, q_l148, q_l149, q_l150, q_l151, q_l152, q_l153, q_l154, q_l155, q_l156, q_l157, q_l158, q_l214, q_l229, q_l244, q_l259, q_l300, q_l999, q_l1813, q_l2072, q_l10000, q_l65536, q_l1000000000, m_done, m_fails, m_thrown, m_th, gs_same, q_gsgs, c_raise0, c_raise1, c_raise2, c_raise3, c_raise4]) (by omega) (by omega) 0
    unfold f_X7_differentKeys
    rw [show (0 : Int32) = nI 0 from rfl]
    refine h.trans ?_
    rw [Nat.zero_add, Nat.sub_zero]
/-- the number of twins -/
def twN (r : Nat → Int32) : Nat := ((List.range 100).map (fun k => ((List.range 30).map (fun j => C2 (cntKW r k (j + 1)))).sum)).sum
theorem cnt_kw (w : gRow β r) {c : Nat} (hP : (tRows M o c).Perm (tAll r)) {k j : Nat} (hj : j < 30) : (List.range c).countP (fun i => decide (kwN (tRow M o i) = k * 30 + j)) = cntKW r k (j + 1) := by
  unfold cntKW
  rw [← hP.countP_eq, tRows, List.countP_map]
  apply List.countP_congr
  intro i hi
  obtain ⟨e1, e2, e3, e4, e5⟩ := kywt w (of_rows hP (List.mem_range.mp hi))
  constructor
  · intro h
    have h : kyN (tRow M o i) * 30 + (wN (tRow M o i) - 1) = k * 30 + j := of_decide_eq_true h
    refine decide_eq_true ?_
    have a1 : kyN (tRow M o i) < k + 1 := by omega
    have a2 : k < kyN (tRow M o i) + 1 := by omega
    exact ⟨by omega, Or.inr (by omega)⟩
  · intro h
    obtain ⟨h1, h2⟩ := of_decide_eq_true h
    refine decide_eq_true ?_
    show kyN (tRow M o i) * 30 + (wN (tRow M o i) - 1) = k * 30 + j
    rcases h2 with h2 | h2
    · omega
    · rw [h1, h2, Nat.add_sub_cancel]
theorem kw_lt (w : gRow β r) {c : Nat} (hP : (tRows M o c).Perm (tAll r)) {i : Nat} (hi : i < c) : kwN (tRow M o i) < 100 * 30 := by
  obtain ⟨e1, e2, e3, e4, e5⟩ := kywt w (of_rows hP hi)
  unfold kwN
  omega
theorem tw_sum (w : gRow β r) {c : Nat} (hP : (tRows M o c).Perm (tAll r)) : ((List.range (100 * 30)).map (fun x => C2 ((List.range c).countP (fun i => decide (kwN (tRow M o i) = x))))).sum = twN r := by
  rw [sum_grid]
  exact congrArg List.sum (List.map_congr_left (fun k _ => congrArg List.sum (List.map_congr_left (fun j hj => by rw [cnt_kw w hP (List.mem_range.mp hj)]))))
theorem c_areTwins (w : gRow β r) {c : Nat} (hc : M (o + 1) 6 = nI c) (h75 : c ≤ 75) (hP : (tRows M o c).Perm (tAll r)) {i j : Nat} (hi : i < c) (hj : j < c) : f_X0_areTwins o (nI i) (nI j) M = some (decide (kwN (tRow M o i) = kwN (tRow M o j))) := by
  obtain ⟨e1, e2, e3, e4, e5⟩ := kywt w (of_rows hP hi)
  obtain ⟨d1, d2, d3, d4, d5⟩ := kywt w (of_rows hP hj)
  have e1 : M (o + 4) i = nI (kyN (tRow M o i)) := e1
  have e3 : M (o + 3) i = nI (wN (tRow M o i)) := e3
  have d1 : M (o + 4) j = nI (kyN (tRow M o j)) := d1
  have d3 : M (o + 3) j = nI (wN (tRow M o j)) := d3
  unfold f_X0_areTwins kwN
  simp (disch := omega) only [q_seqr, q_seql, q_ig, q_ni, q_le, q_nle, q_lt, q_nlt, q_eq, q_ne, q_eqr, q_gbt, q_gbf, q_gbd, q_m1lt, q_m1ge, q_m1ne, q_m1eq, q_m1e, Option.bind_some, gLet, nI_add, pk_mul, q_sub, q_m1, q_div, q_modN, nI_clamp, if_true, if_false, Bool.false_eq_true, q_l0, q_l1, q_l2, q_l3, q_l4, q_l5, q_l6, q_l7, q_l8, q_l9, q_l10, q_l11, q_l12, q_l13, q_l14, q_l15, q_l16, q_l19, q_l20, q_l22, q_l24, q_l30, q_l32, q_l34, q_l36, q_l45, q_l47, q_l48, q_l57, q_l58, q_l59, q_l60, q_l61, q_l66, q_l75, q_l76, q_l94, q_l97, q_l99, q_l100, q_l101, q_l104, q_l105, q_l108, q_l109, q_l111, q_l114, q_l115, q_l116, q_l117, q_l118, q_l119, q_l120, q_l126, q_l132, q_l133, q_l135, q_l136, q_l138, q_l146, q_l147, q_l148, q_l149, q_l150, q_l151, q_l152, q_l153, q_l154, q_l155, q_l156, q_l157, q_l158, q_l214, q_l229, q_l244, q_l259, q_l300, q_l999, q_l1813, q_l2072, q_l10000, q_l65536, q_l1000000000, s_key hc h75 hi, s_key hc h75 hj, s_weight hc h75 hi, s_weight hc h75 hj, e1, e3, d1, d3]
  by_cases c1 : kyN (tRow M o i) = kyN (tRow M o j)
  · by_cases c2 : wN (tRow M o i) = wN (tRow M o j)
    · simp (disch := omega) only [q_seqr, q_seql, q_ig, q_ni, q_le, q_nle, q_lt, q_nlt, q_eq, q_ne, q_eqr, q_gbt, q_gbf, q_gbd, q_m1lt, q_m1ge, q_m1ne, q_m1eq, q_m1e, Option.bind_some, gLet, nI_add, pk_mul, q_sub, q_m1, q_div, q_modN, nI_clamp, if_true, if_false, Bool.false_eq_true, q_l0, q_l1, q_l2, q_l3, q_l4, q_l5, q_l6, q_l7, q_l8, q_l9, q_l10, q_l11, q_l12, q_l13, q_l14, q_l15, q_l16, q_l19, q_l20, q_l22, q_l24, q_l30, q_l32, q_l34, q_l36, q_l45, q_l47, q_l48, q_l57, q_l58, q_l59, q_l60, q_l61, q_l66, q_l75, q_l76, q_l94, q_l97, q_l99, q_l100, q_l101, q_l104, q_l105, q_l108, q_l109, q_l111, q_l114, q_l115, q_l116, q_l117, q_l118, q_l119, q_l120, q_l126, q_l132, q_l133, q_l135, q_l136, q_l138, q_l146, q_l147, q_l148, q_l149, q_l150, q_l151, q_l152, q_l153, q_l154, q_l155, q_l156, q_l157, q_l158, q_l214, q_l229, q_l244, q_l259, q_l300, q_l999, q_l1813, q_l2072, q_l10000, q_l65536, q_l1000000000]
      simp [c1, c2]
    · simp (disch := omega) only [q_seqr, q_seql, q_ig, q_ni, q_le, q_nle, q_lt, q_nlt, q_eq, q_ne, q_eqr, q_gbt, q_gbf, q_gbd, q_m1lt, q_m1ge, q_m1ne, q_m1eq, q_m1e, Option.bind_some, gLet, nI_add, pk_mul, q_sub, q_m1, q_div, q_modN, nI_clamp, if_true, if_false, Bool.false_eq_true, q_l0, q_l1, q_l2, q_l3, q_l4, q_l5, q_l6, q_l7, q_l8, q_l9, q_l10, q_l11, q_l12, q_l13, q_l14, q_l15, q_l16, q_l19, q_l20, q_l22, q_l24, q_l30, q_l32, q_l34, q_l36, q_l45, q_l47, q_l48, q_l57, q_l58, q_l59, q_l60, q_l61, q_l66, q_l75, q_l76, q_l94, q_l97, q_l99, q_l100, q_l101, q_l104, q_l105, q_l108, q_l109, q_l111, q_l114, q_l115, q_l116, q_l117, q_l118, q_l119, q_l120, q_l126, q_l132, q_l133, q_l135, q_l136, q_l138, q_l146, q_l147, q_l148, q_l149, q_l150, q_l151, q_l152, q_l153, q_l154, q_l155, q_l156, q_l157, q_l158, q_l214, q_l229, q_l244, q_l259, q_l300, q_l999, q_l1813, q_l2072, q_l10000, q_l65536, q_l1000000000]
      simp; omega
  · simp (disch := omega) only [q_seqr, q_seql, q_ig, q_ni, q_le, q_nle, q_lt, q_nlt, q_eq, q_ne, q_eqr, q_gbt, q_gbf, q_gbd, q_m1lt, q_m1ge, q_m1ne, q_m1eq, q_m1e, Option.bind_some, gLet, nI_add, pk_mul, q_sub, q_m1, q_div, q_modN, nI_clamp, if_true, if_false, Bool.false_eq_true, q_l0, q_l1, q_l2, q_l3, q_l4, q_l5, q_l6, q_l7, q_l8, q_l9, q_l10, q_l11, q_l12, q_l13, q_l14, q_l15, q_l16, q_l19, q_l20, q_l22, q_l24, q_l30, q_l32, q_l34, q_l36, q_l45, q_l47, q_l48, q_l57, q_l58, q_l59, q_l60, q_l61, q_l66, q_l75, q_l76, q_l94, q_l97, q_l99, q_l100, q_l101, q_l104, q_l105, q_l108, q_l109, q_l111, q_l114, q_l115, q_l116, q_l117, q_l118, q_l119, q_l120, q_l126, q_l132, q_l133, q_l135, q_l136, q_l138, q_l146, q_l147, q_l148, q_l149, q_l150, q_l151, q_l152, q_l153, q_l154, q_l155, q_l156, q_l157, q_l158, q_l214, q_l229, q_l244, q_l259, q_l300, q_l999, q_l1813, q_l2072, q_l10000, q_l65536, q_l1000000000]
    simp; omega
theorem c_pairs (w : gRow β r) {c : Nat} (hc : M (o + 1) 6 = nI c) (h75 : c ≤ 75) (hP : (tRows M o c).Perm (tAll r)) : f_X0_twinsByPairs o M = some (nI (twN r)) := by
  have inner : ∀ l, l < c → ∀ a, f_X0_twinsByPairs_L14 o M (nI l) gF (nI 0) (nI a) = some (nI l, nI (a + ((List.range' 0 l).map (fun e => if kwN (tRow M o e) = kwN (tRow M o l) then 1 else 0)).sum)) := fun l hl a =>
    lp_sumN (fun n k a => f_X0_twinsByPairs_L14 o M (nI l) n k a) (fun a => (nI l, nI a)) (fun e => if kwN (tRow M o e) = kwN (tRow M o l) then 1 else 0) l 0 (fun n k a _ hk => by
      show f_X0_twinsByPairs_L14 o M (nI l) (n + 1) (nI k) (nI a) = _
      have ht := c_areTwins w hc h75 hP (show k < c by omega) hl
      rw [f_X0_twinsByPairs_L14]
      by_cases e : kwN (tRow M o k) = kwN (tRow M o l)
      · rw [decide_eq_true e] at ht
        simp (disch := omega) only [q_seqr, q_seql, q_ig, q_ni, q_le, q_nle, q_lt, q_nlt, q_eq, q_ne, q_eqr, q_gbt, q_gbf, q_gbd, q_m1lt, q_m1ge, q_m1ne, q_m1eq, q_m1e, Option.bind_some, gLet, nI_add, pk_mul, q_sub, q_m1, q_div, q_modN, nI_clamp, if_true, if_false, Bool.false_eq_true, q_l0, q_l1, q_l2, q_l3, q_l4, q_l5, q_l6, q_l7, q_l8, q_l9, q_l10, q_l11, q_l12, q_l13, q_l14, q_l15, q_l16, q_l19, q_l20, q_l22, q_l24, q_l30, q_l32, q_l34, q_l36, q_l45, q_l47, q_l48, q_l57, q_l58, q_l59, q_l60, q_l61, q_l66, q_l75, q_l76, q_l94, q_l97, q_l99, q_l100, q_l101, q_l104, q_l105, q_l108, q_l109, q_l111, q_l114, q_l115, q_l116, q_l117, q_l118, q_l119, q_l120, q_l126, q_l132, q_l133, q_l135, q_l136, q_l138, q_l146, q_l147, q_l148, q_l149, q_l150, q_l151, q_l152, q_l153, q_l154, q_l155, q_l156, q_l157, q_l158, q_l214, q_l229, q_l244, q_l259, q_l300, q_l999, q_l1813, q_l2072, q_l10000, q_l65536, q_l1000000000, ht, if_pos e]
      · rw [decide_eq_false e] at ht
        simp (disch := omega) only [q_seqr, q_seql, q_ig, q_ni, q_le, q_nle, q_lt, q_nlt, q_eq, q_ne, q_eqr, q_gbt, q_gbf, q_gbd, q_m1lt, q_m1ge, q_m1ne, q_m1eq, q_m1e, Option.bind_some, gLet, nI_add, pk_mul, q_sub, q_m1, q_div, q_modN, nI_clamp, if_true, if_false, Bool.false_eq_true, q_l0, q_l1, q_l2, q_l3, q_l4, q_l5, q_l6, q_l7, q_l8, q_l9, q_l10, q_l11, q_l12, q_l13, q_l14, q_l15, q_l16, q_l19, q_l20, q_l22, q_l24, q_l30, q_l32, q_l34, q_l36, q_l45, q_l47, q_l48, q_l57, q_l58, q_l59, q_l60, q_l61, q_l66, q_l75, q_l76, q_l94, q_l97, q_l99, q_l100, q_l101, q_l104, q_l105, q_l108, q_l109, q_l111, q_l114, q_l115, q_l116, q_l117, q_l118, q_l119, q_l120, q_l126, q_l132, q_l133, q_l135, q_l136, q_l138, q_l146, q_l147, q_l148, q_l149, q_l150, q_l151, q_l152, q_l153, q_l154, q_l155, q_l156, q_l157, q_l158, q_l214, q_l229, q_l244, q_l259, q_l300, q_l999, q_l1813, q_l2072, q_l10000, q_l65536, q_l1000000000, ht, if_neg e, Nat.add_zero]) (fun n a => by
      show f_X0_twinsByPairs_L14 o M (nI l) (n + 1) (nI l) (nI a) = _
      rw [f_X0_twinsByPairs_L14]
      simp (disch := omega) only [q_seqr, q_seql, q_ig, q_ni, q_le, q_nle, q_lt, q_nlt, q_eq, q_ne, q_eqr, q_gbt, q_gbf, q_gbd, q_m1lt, q_m1ge, q_m1ne, q_m1eq, q_m1e, Option.bind_some, gLet, nI_add, pk_mul, q_sub, q_m1, q_div, q_modN, nI_clamp, if_true, if_false, Bool.false_eq_true, q_l0, q_l1, q_l2, q_l3, q_l4, q_l5, q_l6, q_l7, q_l8, q_l9, q_l10, q_l11, q_l12, q_l13, q_l14, q_l15, q_l16, q_l19, q_l20, q_l22, q_l24, q_l30, q_l32, q_l34, q_l36, q_l45, q_l47, q_l48, q_l57, q_l58, q_l59, q_l60, q_l61, q_l66, q_l75, q_l76, q_l94, q_l97, q_l99, q_l100, q_l101, q_l104, q_l105, q_l108, q_l109, q_l111, q_l114, q_l115, q_l116, q_l117, q_l118, q_l119, q_l120, q_l126, q_l132, q_l133, q_l135, q_l136, q_l138, q_l146, q_l147, q_l148, q_l149, q_l150, q_l151, q_l152, q_l153, q_l154, q_l155, q_l156, q_l157, q_l158, q_l214, q_l229, q_l244, q_l259, q_l300, q_l999, q_l1813, q_l2072, q_l10000, q_l65536, q_l1000000000]) (by omega) (by omega) a
  have cs : ∀ (L : List Nat) (P : Nat → Prop) [DecidablePred P], (L.map (fun x => if P x then 1 else 0)).sum = L.countP (fun x => decide (P x)) := fun L P _ => by
    induction L with
    | nil => rfl
    | cons a L ih => rw [List.map_cons, List.sum_cons, ih, List.countP_cons, Nat.add_comm]; simp
  unfold f_X0_twinsByPairs
  rw [show (0 : Int32) = nI 0 from rfl, show (1 : Int32) = nI 1 from rfl]
  have tot := pair_sum (fun i => kwN (tRow M o i)) (100 * 30) c (fun i hi => kw_lt w hP hi)
  rw [tw_sum w hP] at tot
  by_cases c0 : c = 0
  · subst c0
    rw [← tot]
    show f_X0_twinsByPairs_L4 o M (3999 + 1) (nI 1) (nI 0) = _
    rw [f_X0_twinsByPairs_L4]
    simp (disch := omega) only [q_seqr, q_seql, q_ig, q_ni, q_le, q_nle, q_lt, q_nlt, q_eq, q_ne, q_eqr, q_gbt, q_gbf, q_gbd, q_m1lt, q_m1ge, q_m1ne, q_m1eq, q_m1e, Option.bind_some, gLet, nI_add, pk_mul, q_sub, q_m1, q_div, q_modN, nI_clamp, if_true, if_false, Bool.false_eq_true, q_l0, q_l1, q_l2, q_l3, q_l4, q_l5, q_l6, q_l7, q_l8, q_l9, q_l10, q_l11, q_l12, q_l13, q_l14, q_l15, q_l16, q_l19, q_l20, q_l22, q_l24, q_l30, q_l32, q_l34, q_l36, q_l45, q_l47, q_l48, q_l57, q_l58, q_l59, q_l60, q_l61, q_l66, q_l75, q_l76, q_l94, q_l97, q_l99, q_l100, q_l101, q_l104, q_l105, q_l108, q_l109, q_l111, q_l114, q_l115, q_l116, q_l117, q_l118, q_l119, q_l120, q_l126, q_l132, q_l133, q_l135, q_l136, q_l138, q_l146, q_l147, q_l148, q_l149, q_l150, q_l151, q_l152, q_l153, q_l154, q_l155, q_l156, q_l157, q_l158, q_l214, q_l229, q_l244, q_l259, q_l300, q_l999, q_l1813, q_l2072, q_l10000, q_l65536, q_l1000000000, hc]
    rfl
  · have outer := lp_sumN (fun n k a => f_X0_twinsByPairs_L4 o M n k a) (fun a => nI a) (fun l => ((List.range' 0 l).map (fun e => if kwN (tRow M o e) = kwN (tRow M o l) then 1 else 0)).sum) c 1 (fun n k a _ hk => by
      show f_X0_twinsByPairs_L4 o M (n + 1) (nI k) (nI a) = _
      rw [f_X0_twinsByPairs_L4]
      simp (disch := omega) only [q_seqr, q_seql, q_ig, q_ni, q_le, q_nle, q_lt, q_nlt, q_eq, q_ne, q_eqr, q_gbt, q_gbf, q_gbd, q_m1lt, q_m1ge, q_m1ne, q_m1eq, q_m1e, Option.bind_some, gLet, nI_add, pk_mul, q_sub, q_m1, q_div, q_modN, nI_clamp, if_true, if_false, Bool.false_eq_true, q_l0, q_l1, q_l2, q_l3, q_l4, q_l5, q_l6, q_l7, q_l8, q_l9, q_l10, q_l11, q_l12, q_l13, q_l14, q_l15, q_l16, q_l19, q_l20, q_l22, q_l24, q_l30, q_l32, q_l34, q_l36, q_l45, q_l47, q_l48, q_l57, q_l58, q_l59, q_l60, q_l61, q_l66, q_l75, q_l76, q_l94, q_l97, q_l99, q_l100, q_l101, q_l104, q_l105, q_l108, q_l109, q_l111, q_l114, q_l115, q_l116, q_l117, q_l118, q_l119, q_l120, q_l126, q_l132, q_l133, q_l135, q_l136, q_l138, q_l146, q_l147, q_l148, q_l149, q_l150, q_l151, q_l152, q_l153, q_l154, q_l155, q_l156, q_l157, q_l158, q_l214, q_l229, q_l244, q_l259, q_l300, q_l999, q_l1813, q_l2072, q_l10000, q_l65536, q_l1000000000, hc, inner k hk a]) (fun n a => by
      show f_X0_twinsByPairs_L4 o M (n + 1) (nI c) (nI a) = _
      rw [f_X0_twinsByPairs_L4]
      simp (disch := omega) only [q_seqr, q_seql, q_ig, q_ni, q_le, q_nle, q_lt, q_nlt, q_eq, q_ne, q_eqr, q_gbt, q_gbf, q_gbd, q_m1lt, q_m1ge, q_m1ne, q_m1eq, q_m1e, Option.bind_some, gLet, nI_add, pk_mul, q_sub, q_m1, q_div, q_modN, nI_clamp, if_true, if_false, Bool.false_eq_true, q_l0, q_l1, q_l2, q_l3, q_l4, q_l5, q_l6, q_l7, q_l8, q_l9, q_l10, q_l11, q_l12, q_l13, q_l14, q_l15, q_l16, q_l19, q_l20, q_l22, q_l24, q_l30, q_l32, q_l34, q_l36, q_l45, q_l47, q_l48, q_l57, q_l58, q_l59, q_l60, q_l61, q_l66, q_l75, q_l76, q_l94, q_l97, q_l99, q_l100, q_l101, q_l104, q_l105, q_l108, q_l109, q_l111, q_l114, q_l115, q_l116, q_l117, q_l118, q_l119, q_l120, q_l126, q_l132, q_l133, q_l135, q_l136, q_l138, q_l146, q_l147, q_l148, q_l149, q_l150, q_l151, q_l152, q_l153, q_l154, q_l155, q_l156, q_l157, q_l158, q_l214, q_l229, q_l244, q_l259, q_l300, q_l999, q_l1813, q_l2072, q_l10000, q_l65536, q_l1000000000, hc]) (by omega) (by omega) 0
    refine outer.trans ?_
    rw [← tot, Nat.zero_add]
    obtain ⟨d, rfl⟩ : ∃ d, c = d + 1 := ⟨c - 1, by omega⟩
    rw [Nat.add_sub_cancel, List.range_eq_range', List.range'_succ, List.map_cons, List.sum_cons]
    have z : (List.range 0).countP (fun e => decide (kwN (tRow M o e) = kwN (tRow M o 0))) = 0 := rfl
    rw [z, Nat.zero_add]
    exact congrArg (fun z => some (nI z)) (congrArg List.sum (List.map_congr_left (fun l _ => by rw [cs, List.range_eq_range'])))
theorem c_groups (w : gRow β r) {c : Nat} (hc : M (o + 1) 6 = nI c) (h75 : c ≤ 75) (hP : (tRows M o c).Perm (tAll r)) : f_X0_twinsInGroups o M = some (nI (twN r)) := by
  have st : ∀ k, k < c → f_X0_startsGroup o (nI k) M = some ((List.range k).all (fun e => !decide (kwN (tRow M o e) = kwN (tRow M o k)))) := fun k hk => by
    unfold f_X0_startsGroup
    rw [show (0 : Int32) = nI 0 from rfl]
    refine lp_all (fun n e => f_X0_startsGroup_L2 o M (nI k) n e) (fun e => !decide (kwN (tRow M o e) = kwN (tRow M o k))) k (fun n e he => ?_) (fun n => ?_) (by omega)
    · show f_X0_startsGroup_L2 o M (nI k) (n + 1) (nI e) = _
      have ht := c_areTwins w hc h75 hP (show e < c by omega) hk
      rw [f_X0_startsGroup_L2]
      by_cases h : kwN (tRow M o e) = kwN (tRow M o k)
      · rw [decide_eq_true h] at ht
        simp (disch := omega) only [q_seqr, q_seql, q_ig, q_ni, q_le, q_nle, q_lt, q_nlt, q_eq, q_ne, q_eqr, q_gbt, q_gbf, q_gbd, q_m1lt, q_m1ge, q_m1ne, q_m1eq, q_m1e, Option.bind_some, gLet, nI_add, pk_mul, q_sub, q_m1, q_div, q_modN, nI_clamp, if_true, if_false, Bool.false_eq_true, q_l0, q_l1, q_l2, q_l3, q_l4, q_l5, q_l6, q_l7, q_l8, q_l9, q_l10, q_l11, q_l12, q_l13, q_l14, q_l15, q_l16, q_l19, q_l20, q_l22, q_l24, q_l30, q_l32, q_l34, q_l36, q_l45, q_l47, q_l48, q_l57, q_l58, q_l59, q_l60, q_l61, q_l66, q_l75, q_l76, q_l94, q_l97, q_l99, q_l100, q_l101, q_l104, q_l105, q_l108, q_l109, q_l111, q_l114, q_l115, q_l116, q_l117, q_l118, q_l119, q_l120, q_l126, q_l132, q_l133, q_l135, q_l136, q_l138, q_l146, q_l147, q_l148, q_l149, q_l150, q_l151, q_l152, q_l153, q_l154, q_l155, q_l156, q_l157, q_l158, q_l214, q_l229, q_l244, q_l259, q_l300, q_l999, q_l1813, q_l2072, q_l10000, q_l65536, q_l1000000000, ht]
        simp [h]
      · rw [decide_eq_false h] at ht
        simp (disch := omega) only [q_seqr, q_seql, q_ig, q_ni, q_le, q_nle, q_lt, q_nlt, q_eq, q_ne, q_eqr, q_gbt, q_gbf, q_gbd, q_m1lt, q_m1ge, q_m1ne, q_m1eq, q_m1e, Option.bind_some, gLet, nI_add, pk_mul, q_sub, q_m1, q_div, q_modN, nI_clamp, if_true, if_false, Bool.false_eq_true, q_l0, q_l1, q_l2, q_l3, q_l4, q_l5, q_l6, q_l7, q_l8, q_l9, q_l10, q_l11, q_l12, q_l13, q_l14, q_l15, q_l16, q_l19, q_l20, q_l22, q_l24, q_l30, q_l32, q_l34, q_l36, q_l45, q_l47, q_l48, q_l57, q_l58, q_l59, q_l60, q_l61, q_l66, q_l75, q_l76, q_l94, q_l97, q_l99, q_l100, q_l101, q_l104, q_l105, q_l108, q_l109, q_l111, q_l114, q_l115, q_l116, q_l117, q_l118, q_l119, q_l120, q_l126, q_l132, q_l133, q_l135, q_l136, q_l138, q_l146, q_l147, q_l148, q_l149, q_l150, q_l151, q_l152, q_l153, q_l154, q_l155, q_l156, q_l157, q_l158, q_l214, q_l229, q_l244, q_l259, q_l300, q_l999, q_l1813, q_l2072, q_l10000, q_l65536, q_l1000000000, ht]
        simp [h]
    · show f_X0_startsGroup_L2 o M (nI k) (n + 1) (nI k) = _
      rw [f_X0_startsGroup_L2]
      simp (disch := omega) only [q_seqr, q_seql, q_ig, q_ni, q_le, q_nle, q_lt, q_nlt, q_eq, q_ne, q_eqr, q_gbt, q_gbf, q_gbd, q_m1lt, q_m1ge, q_m1ne, q_m1eq, q_m1e, Option.bind_some, gLet, nI_add, pk_mul, q_sub, q_m1, q_div, q_modN, nI_clamp, if_true, if_false, Bool.false_eq_true, q_l0, q_l1, q_l2, q_l3, q_l4, q_l5, q_l6, q_l7, q_l8, q_l9, q_l10, q_l11, q_l12, q_l13, q_l14, q_l15, q_l16, q_l19, q_l20, q_l22, q_l24, q_l30, q_l32, q_l34, q_l36, q_l45, q_l47, q_l48, q_l57, q_l58, q_l59, q_l60, q_l61, q_l66, q_l75, q_l76, q_l94, q_l97, q_l99, q_l100, q_l101, q_l104, q_l105, q_l108, q_l109, q_l111, q_l114, q_l115, q_l116, q_l117, q_l118, q_l119, q_l120, q_l126, q_l132, q_l133, q_l135, q_l136, q_l138, q_l146, q_l147, q_l148, q_l149, q_l150, q_l151, q_l152, q_l153, q_l154, q_l155, q_l156, q_l157, q_l158, q_l214, q_l229, q_l244, q_l259, q_l300, q_l999, q_l1813, q_l2072, q_l10000, q_l65536, q_l1000000000]
  have gz : ∀ k, k < c → f_X0_groupSize o (nI k) M = some (nI ((List.range c).countP (fun i => decide (kwN (tRow M o i) = kwN (tRow M o k))))) := fun k hk => by
    unfold f_X0_groupSize
    rw [show (0 : Int32) = nI 0 from rfl]
    refine lp_count (fun n i a => f_X0_groupSize_L4 o M (nI k) n i a) (fun i => decide (kwN (tRow M o i) = kwN (tRow M o k))) c (fun n i a hi ha => ?_) (fun n a ha => ?_) (by omega)
    · show f_X0_groupSize_L4 o M (nI k) (n + 1) (nI i) (nI a) = _
      have ht := c_areTwins w hc h75 hP hi hk
      rw [f_X0_groupSize_L4]
      by_cases h : kwN (tRow M o i) = kwN (tRow M o k)
      · rw [decide_eq_true h] at ht ⊢
        simp (disch := omega) only [q_seqr, q_seql, q_ig, q_ni, q_le, q_nle, q_lt, q_nlt, q_eq, q_ne, q_eqr, q_gbt, q_gbf, q_gbd, q_m1lt, q_m1ge, q_m1ne, q_m1eq, q_m1e, Option.bind_some, gLet, nI_add, pk_mul, q_sub, q_m1, q_div, q_modN, nI_clamp, if_true, if_false, Bool.false_eq_true, q_l0, q_l1, q_l2, q_l3, q_l4, q_l5, q_l6, q_l7, q_l8, q_l9, q_l10, q_l11, q_l12, q_l13, q_l14, q_l15, q_l16, q_l19, q_l20, q_l22, q_l24, q_l30, q_l32, q_l34, q_l36, q_l45, q_l47, q_l48, q_l57, q_l58, q_l59, q_l60, q_l61, q_l66, q_l75, q_l76, q_l94, q_l97, q_l99, q_l100, q_l101, q_l104, q_l105, q_l108, q_l109, q_l111, q_l114, q_l115, q_l116, q_l117, q_l118, q_l119, q_l120, q_l126, q_l132, q_l133, q_l135, q_l136, q_l138, q_l146, q_l147, q_l148, q_l149, q_l150, q_l151, q_l152, q_l153, q_l154, q_l155, q_l156, q_l157, q_l158, q_l214, q_l229, q_l244, q_l259, q_l300, q_l999, q_l1813, q_l2072, q_l10000, q_l65536, q_l1000000000, hc, ht]
      · rw [decide_eq_false h] at ht ⊢
        simp (disch := omega) only [q_seqr, q_seql, q_ig, q_ni, q_le, q_nle, q_lt, q_nlt, q_eq, q_ne, q_eqr, q_gbt, q_gbf, q_gbd, q_m1lt, q_m1ge, q_m1ne, q_m1eq, q_m1e, Option.bind_some, gLet, nI_add, pk_mul, q_sub, q_m1, q_div, q_modN, nI_clamp, if_true, if_false, Bool.false_eq_true, q_l0, q_l1, q_l2, q_l3, q_l4, q_l5, q_l6, q_l7, q_l8, q_l9, q_l10, q_l11, q_l12, q_l13, q_l14, q_l15, q_l16, q_l19, q_l20, q_l22, q_l24, q_l30, q_l32, q_l34, q_l36, q_l45, q_l47, q_l48, q_l57, q_l58, q_l59, q_l60, q_l61, q_l66, q_l75, q_l76, q_l94, q_l97, q_l99, q_l100, q_l101, q_l104, q_l105, q_l108, q_l109, q_l111, q_l114, q_l115, q_l116, q_l117, q_l118, q_l119, q_l120, q_l126, q_l132, q_l133, q_l135, q_l136, q_l138, q_l146, q_l147, q_l148, q_l149, q_l150, q_l151, q_l152, q_l153, q_l154, q_l155, q_l156, q_l157, q_l158, q_l214, q_l229, q_l244, q_l259, q_l300, q_l999, q_l1813, q_l2072, q_l10000, q_l65536, q_l1000000000, hc, ht, Nat.add_zero]
    · show f_X0_groupSize_L4 o M (nI k) (n + 1) (nI c) (nI a) = _
      rw [f_X0_groupSize_L4]
      simp (disch := omega) only [q_seqr, q_seql, q_ig, q_ni, q_le, q_nle, q_lt, q_nlt, q_eq, q_ne, q_eqr, q_gbt, q_gbf, q_gbd, q_m1lt, q_m1ge, q_m1ne, q_m1eq, q_m1e, Option.bind_some, gLet, nI_add, pk_mul, q_sub, q_m1, q_div, q_modN, nI_clamp, if_true, if_false, Bool.false_eq_true, q_l0, q_l1, q_l2, q_l3, q_l4, q_l5, q_l6, q_l7, q_l8, q_l9, q_l10, q_l11, q_l12, q_l13, q_l14, q_l15, q_l16, q_l19, q_l20, q_l22, q_l24, q_l30, q_l32, q_l34, q_l36, q_l45, q_l47, q_l48, q_l57, q_l58, q_l59, q_l60, q_l61, q_l66, q_l75, q_l76, q_l94, q_l97, q_l99, q_l100, q_l101, q_l104, q_l105, q_l108, q_l109, q_l111, q_l114, q_l115, q_l116, q_l117, q_l118, q_l119, q_l120, q_l126, q_l132, q_l133, q_l135, q_l136, q_l138, q_l146, q_l147, q_l148, q_l149, q_l150, q_l151, q_l152, q_l153, q_l154, q_l155, q_l156, q_l157, q_l158, q_l214, q_l229, q_l244, q_l259, q_l300, q_l999, q_l1813, q_l2072, q_l10000, q_l65536, q_l1000000000, hc]
  have h := lp_sumN (fun n k a => f_X0_twinsInGroups_L4 o M n k a) (fun a => nI a) (fun k => if (List.range k).all (fun e => !decide (kwN (tRow M o e) = kwN (tRow M o k))) = true then C2 ((List.range c).countP (fun i => decide (kwN (tRow M o i) = kwN (tRow M o k)))) else 0) c 0 (fun n k a _ hk => by
    show f_X0_twinsInGroups_L4 o M (n + 1) (nI k) (nI a) = _
    have h1 := st k hk
    have hle : (List.range c).countP (fun i => decide (kwN (tRow M o i) = kwN (tRow M o k))) ≤ c := by
      have := List.countP_le_length (p := fun i => decide (kwN (tRow M o i) = kwN (tRow M o k))) (l := List.range c)
      simpa using this
    rw [f_X0_twinsInGroups_L4]
    cases e : (List.range k).all (fun e => !decide (kwN (tRow M o e) = kwN (tRow M o k))) with
    | true =>
      rw [e] at h1
      simp (disch := omega) only [q_seqr, q_seql, q_ig, q_ni, q_le, q_nle, q_lt, q_nlt, q_eq, q_ne, q_eqr, q_gbt, q_gbf, q_gbd, q_m1lt, q_m1ge, q_m1ne, q_m1eq, q_m1e, Option.bind_some, gLet, nI_add, pk_mul, q_sub, q_m1, q_div, q_modN, nI_clamp, if_true, if_false, Bool.false_eq_true, q_l0, q_l1, q_l2, q_l3, q_l4, q_l5, q_l6, q_l7, q_l8, q_l9, q_l10, q_l11, q_l12, q_l13, q_l14, q_l15, q_l16, q_l19, q_l20, q_l22, q_l24, q_l30, q_l32, q_l34, q_l36, q_l45, q_l47, q_l48, q_l57, q_l58, q_l59, q_l60, q_l61, q_l66, q_l75, q_l76, q_l94, q_l97, q_l99, q_l100, q_l101, q_l104, q_l105, q_l108, q_l109, q_l111, q_l114, q_l115, q_l116, q_l117, q_l118, q_l119, q_l120, q_l126, q_l132, q_l133, q_l135, q_l136, q_l138, q_l146, q_l147, q_l148, q_l149, q_l150, q_l151, q_l152, q_l153, q_l154, q_l155, q_l156, q_l157, q_l158, q_l214, q_l229, q_l244, q_l259, q_l300, q_l999, q_l1813, q_l2072, q_l10000, q_l65536, q_l1000000000, hc, h1, gz k hk]
      rw [q_c2 (show (List.range c).countP (fun i => decide (kwN (tRow M o i) = kwN (tRow M o k))) < 1000 by omega), nI_add]
    | false =>
      rw [e] at h1
      simp (disch := omega) only [q_seqr, q_seql, q_ig, q_ni, q_le, q_nle, q_lt, q_nlt, q_eq, q_ne, q_eqr, q_gbt, q_gbf, q_gbd, q_m1lt, q_m1ge, q_m1ne, q_m1eq, q_m1e, Option.bind_some, gLet, nI_add, pk_mul, q_sub, q_m1, q_div, q_modN, nI_clamp, if_true, if_false, Bool.false_eq_true, q_l0, q_l1, q_l2, q_l3, q_l4, q_l5, q_l6, q_l7, q_l8, q_l9, q_l10, q_l11, q_l12, q_l13, q_l14, q_l15, q_l16, q_l19, q_l20, q_l22, q_l24, q_l30, q_l32, q_l34, q_l36, q_l45, q_l47, q_l48, q_l57, q_l58, q_l59, q_l60, q_l61, q_l66, q_l75, q_l76, q_l94, q_l97, q_l99, q_l100, q_l101, q_l104, q_l105, q_l108, q_l109, q_l111, q_l114, q_l115, q_l116, q_l117, q_l118, q_l119, q_l120, q_l126, q_l132, q_l133, q_l135, q_l136, q_l138, q_l146, q_l147, q_l148, q_l149, q_l150, q_l151, q_l152, q_l153, q_l154, q_l155, q_l156, q_l157, q_l158, q_l214, q_l229, q_l244, q_l259, q_l300, q_l999, q_l1813, q_l2072, q_l10000, q_l65536, q_l1000000000, hc, h1, Nat.add_zero]) (fun n a => by
    show f_X0_twinsInGroups_L4 o M (n + 1) (nI c) (nI a) = _
    rw [f_X0_twinsInGroups_L4]
    simp (disch := omega) only [q_seqr, q_seql, q_ig, q_ni, q_le, q_nle, q_lt, q_nlt, q_eq, q_ne, q_eqr, q_gbt, q_gbf, q_gbd, q_m1lt, q_m1ge, q_m1ne, q_m1eq, q_m1e, Option.bind_some, gLet, nI_add, pk_mul, q_sub, q_m1, q_div, q_modN, nI_clamp, if_true, if_false, Bool.false_eq_true, q_l0, q_l1, q_l2, q_l3, q_l4, q_l5, q_l6, q_l7, q_l8, q_l9, q_l10, q_l11, q_l12, q_l13, q_l14, q_l15, q_l16, q_l19, q_l20, q_l22, q_l24, q_l30, q_l32, q_l34, q_l36, q_l45, q_l47, q_l48, q_l57, q_l58, q_l59, q_l60, q_l61, q_l66, q_l75, q_l76, q_l94, q_l97, q_l99, q_l100, q_l101, q_l104, q_l105, q_l108, q_l109, q_l111, q_l114, q_l115, q_l116, q_l117, q_l118, q_l119, q_l120, q_l126, q_l132, q_l133, q_l135, q_l136, q_l138, q_l146, q_l147, q_l148, q_l149, q_l150, q_l151, q_l152, q_l153, q_l154, q_l155, q_l156, q_l157, q_l158, q_l214, q_l229, q_l244, q_l259, q_l300, q_l999, q_l1813, q_l2072, q_l10000, q_l65536, q_l1000000000, hc]) (by omega) (by omega) 0
  unfold f_X0_twinsInGroups
  rw [show (0 : Int32) = nI 0 from rfl]
  refine h.trans ?_
  rw [Nat.zero_add, Nat.sub_zero, ← List.range_eq_range', first_sum (fun i => kwN (tRow M o i)) (fun x => C2 ((List.range c).countP (fun i => decide (kwN (tRow M o i) = x)))) (100 * 30) c (fun i hi => kw_lt w hP hi), ← tw_sum w hP]
  refine congrArg (fun z => some (nI z)) (congrArg List.sum (List.map_congr_left (fun x _ => ?_)))
  cases e : (List.range c).any (fun i => decide (kwN (tRow M o i) = x)) with
  | true => rw [if_pos rfl]
  | false =>
    rw [if_neg Bool.false_ne_true]
    have : (List.range c).countP (fun i => decide (kwN (tRow M o i) = x)) = 0 := by
      rw [List.countP_eq_zero]
      exact fun i hi => List.any_eq_false.mp e i hi
    rw [this]
    rfl
theorem cnt_mono (k u : Nat) (hu : u ≠ 0) : cntKW r k u ≤ cntKW r k 0 := by
  unfold cntKW
  apply List.countP_mono_left
  intro t _ h
  have h := of_decide_eq_true h
  exact decide_eq_true ⟨h.1, Or.inl rfl⟩
theorem m_twins (hr : M 151 = r) (w : gRow β r) : f_X7_keyTwins M = some (nI (twN r), gs M 150 13 (nI 0)) := by
  have le : ∀ k u, cntKW r k u ≤ 75 := fun k u => all_le w _
  have inner : ∀ k, k < 100 → ∀ a, ∃ x, f_X7_keyTwins_L12 (nI k) gF (nI 1) (nI a) M = some (x, nI (a + ((List.range 30).map (fun j => C2 (cntKW r k (j + 1)))).sum), M) := fun k hk a => by
    have hm0 := m_countOf hr w (k := k) (u := 0) (by omega) (by omega)
    by_cases h1 : cntKW r k 0 ≤ 1
    · refine ⟨nI 1, ?_⟩
      have z : ((List.range 30).map (fun j => C2 (cntKW r k (j + 1)))).sum = 0 := sum_zero _ _ (fun j _ => by
        have := cnt_mono (r := r) k (j + 1) (by omega)
        have : cntKW r k (j + 1) = 0 ∨ cntKW r k (j + 1) = 1 := by omega
        rcases this with e | e <;> rw [e] <;> rfl)
      rw [z, Nat.add_zero]
      have l0 := le k 0
      show f_X7_keyTwins_L12 (nI k) (3999 + 1) (nI 1) (nI a) M = _
      rw [f_X7_keyTwins_L12]
      simp (disch := omega) only [q_seqr, q_seql, q_ig, q_ni, q_le, q_nle, q_lt, q_nlt, q_eq, q_ne, q_eqr, q_gbt, q_gbf, q_gbd, q_m1lt, q_m1ge, q_m1ne, q_m1eq, q_m1e, Option.bind_some, gLet, nI_add, pk_mul, q_sub, q_m1, q_div, q_modN, nI_clamp, if_true, if_false, Bool.false_eq_true, q_l0, q_l1, q_l2, q_l3, q_l4, q_l5, q_l6, q_l7, q_l8, q_l9, q_l10, q_l11, q_l12, q_l13, q_l14, q_l15, q_l16, q_l19, q_l20, q_l22, q_l24, q_l30, q_l32, q_l34, q_l36, q_l45, q_l47, q_l48, q_l57, q_l58, q_l59, q_l60, q_l61, q_l66, q_l75, q_l76, q_l94, q_l97, q_l99, q_l100, q_l101, q_l104, q_l105, q_l108, q_l109, q_l111, q_l114, q_l115, q_l116, q_l117, q_l118, q_l119, q_l120, q_l126, q_l132, q_l133, q_l135, q_l136, q_l138, q_l146, q_l147, q_l148, q_l149, q_l150, q_l151, q_l152, q_l153, q_l154, q_l155, q_l156, q_l157, q_l158, q_l214, q_l229, q_l244, q_l259, q_l300, q_l999, q_l1813, q_l2072, q_l10000, q_l65536, q_l1000000000, hm0]
    · refine ⟨nI 31, ?_⟩
      have l0 := le k 0
      have h := lp_sumN (fun n u a => f_X7_keyTwins_L12 (nI k) n u a M) (fun a => (nI 31, nI a, M)) (fun u => C2 (cntKW r k u)) 31 1 (fun n u a hu0 hu => by
        show f_X7_keyTwins_L12 (nI k) (n + 1) (nI u) (nI a) M = _
        have hm := m_countOf hr w (k := k) (u := u) (by omega) (by omega)
        have lu := le k u
        rw [f_X7_keyTwins_L12]
        have e := q_c2 (n := cntKW r k u) (by omega)
        simp (disch := omega) only [q_seqr, q_seql, q_ig, q_ni, q_le, q_nle, q_lt, q_nlt, q_eq, q_ne, q_eqr, q_gbt, q_gbf, q_gbd, q_m1lt, q_m1ge, q_m1ne, q_m1eq, q_m1e, Option.bind_some, gLet, nI_add, pk_mul, q_sub, q_m1, q_div, q_modN, nI_clamp, if_true, if_false, Bool.false_eq_true, q_l0, q_l1, q_l2, q_l3, q_l4, q_l5, q_l6, q_l7, q_l8, q_l9, q_l10, q_l11, q_l12, q_l13, q_l14, q_l15, q_l16, q_l19, q_l20, q_l22, q_l24, q_l30, q_l32, q_l34, q_l36, q_l45, q_l47, q_l48, q_l57, q_l58, q_l59, q_l60, q_l61, q_l66, q_l75, q_l76, q_l94, q_l97, q_l99, q_l100, q_l101, q_l104, q_l105, q_l108, q_l109, q_l111, q_l114, q_l115, q_l116, q_l117, q_l118, q_l119, q_l120, q_l126, q_l132, q_l133, q_l135, q_l136, q_l138, q_l146, q_l147, q_l148, q_l149, q_l150, q_l151, q_l152, q_l153, q_l154, q_l155, q_l156, q_l157, q_l158, q_l214, q_l229, q_l244, q_l259, q_l300, q_l999, q_l1813, q_l2072, q_l10000, q_l65536, q_l1000000000, hm0, hm]
        rw [e, nI_add]) (fun n a => by
        show f_X7_keyTwins_L12 (nI k) (n + 1) (nI 31) (nI a) M = _
        rw [f_X7_keyTwins_L12]
        simp (disch := omega) only [q_seqr, q_seql, q_ig, q_ni, q_le, q_nle, q_lt, q_nlt, q_eq, q_ne, q_eqr, q_gbt, q_gbf, q_gbd, q_m1lt, q_m1ge, q_m1ne, q_m1eq, q_m1e, Option.bind_some, gLet, nI_add, pk_mul, q_sub, q_m1, q_div, q_modN, nI_clamp, if_true, if_false, Bool.false_eq_true, q_l0, q_l1, q_l2, q_l3, q_l4, q_l5, q_l6, q_l7, q_l8, q_l9, q_l10, q_l11, q_l12, q_l13, q_l14, q_l15, q_l16, q_l19, q_l20, q_l22, q_l24, q_l30, q_l32, q_l34, q_l36, q_l45, q_l47, q_l48, q_l57, q_l58, q_l59, q_l60, q_l61, q_l66, q_l75, q_l76, q_l94, q_l97, q_l99, q_l100, q_l101, q_l104, q_l105, q_l108, q_l109, q_l111, q_l114, q_l115, q_l116, q_l117, q_l118, q_l119, q_l120, q_l126, q_l132, q_l133, q_l135, q_l136, q_l138, q_l146, q_l147, q_l148, q_l149, q_l150, q_l151, q_l152, q_l153, q_l154, q_l155, q_l156, q_l157, q_l158, q_l214, q_l229, q_l244, q_l259, q_l300, q_l999, q_l1813, q_l2072, q_l10000, q_l65536, q_l1000000000]) (by omega) (by omega) a
      refine h.trans ?_
      have es : ((List.range' 1 (31 - 1)).map (fun u => C2 (cntKW r k u))).sum = ((List.range 30).map (fun j => C2 (cntKW r k (j + 1)))).sum := by
        rw [List.range'_eq_map_range, List.map_map]
        exact congrArg List.sum (List.map_congr_left (fun j _ => by
          show C2 (cntKW r k (1 + j)) = _
          rw [Nat.add_comm]))
      rw [es]
  have h := lp_sumN (fun n k a => f_X7_keyTwins_L4 n k a M) (fun a => (nI a, gs M 150 13 (nI 0))) (fun k => ((List.range 30).map (fun j => C2 (cntKW r k (j + 1)))).sum) 100 0 (fun n k a _ hk => by
    show f_X7_keyTwins_L4 (n + 1) (nI k) (nI a) M = _
    obtain ⟨x, hx⟩ := inner k hk a
    rw [f_X7_keyTwins_L4]
    simp (disch := omega) only [q_seqr, q_seql, q_ig, q_ni, q_le, q_nle, q_lt, q_nlt, q_eq, q_ne, q_eqr, q_gbt, q_gbf, q_gbd, q_m1lt, q_m1ge, q_m1ne, q_m1eq, q_m1e, Option.bind_some, gLet, nI_add, pk_mul, q_sub, q_m1, q_div, q_modN, nI_clamp, if_true, if_false, Bool.false_eq_true, q_l0, q_l1, q_l2, q_l3, q_l4, q_l5, q_l6, q_l7, q_l8, q_l9, q_l10, q_l11, q_l12, q_l13, q_l14, q_l15, q_l16, q_l19, q_l20, q_l22, q_l24, q_l30, q_l32, q_l34, q_l36, q_l45, q_l47, q_l48, q_l57, q_l58, q_l59, q_l60, q_l61, q_l66, q_l75, q_l76, q_l94, q_l97, q_l99, q_l100, q_l101, q_l104, q_l105, q_l108, q_l109, q_l111, q_l114, q_l115, q_l116, q_l117, q_l118, q_l119, q_l120, q_l126, q_l132, q_l133, q_l135, q_l136, q_l138, q_l146, q_l147, q_l148, q_l149, q_l150, q_l151, q_l152, q_l153, q_l154, q_l155, q_l156, q_l157, q_l158, q_l214, q_l229, q_l244, q_l259, q_l300, q_l999, q_l1813, q_l2072, q_l10000, q_l65536, q_l1000000000, hx]) (fun n a => by
    show f_X7_keyTwins_L4 (n + 1) (nI 100) (nI a) M = _
    rw [f_X7_keyTwins_L4]
    simp (disch := omega) only [q_seqr, q_seql, q_ig, q_ni, q_le, q_nle, q_lt, q_nlt, q_eq, q_ne, q_eqr, q_gbt, q_gbf, q_gbd, q_m1lt, q_m1ge, q_m1ne, q_m1eq, q_m1e, Option.bind_some, gLet, nI_add, pk_mul, q_sub, q_m1, q_div, q_modN, nI_clamp, if_true, if_false, Bool.false_eq_true, q_l0, q_l1, q_l2, q_l3, q_l4, q_l5, q_l6, q_l7, q_l8, q_l9, q_l10, q_l11, q_l12, q_l13, q_l14, q_l15, q_l16, q_l19, q_l20, q_l22, q_l24, q_l30, q_l32, q_l34, q_l36, q_l45, q_l47, q_l48, q_l57, q_l58, q_l59, q_l60, q_l61, q_l66, q_l75, q_l76, q_l94, q_l97, q_l99, q_l100, q_l101, q_l104, q_l105, q_l108, q_l109, q_l111, q_l114, q_l115, q_l116, q_l117, q_l118, q_l119, q_l120, q_l126, q_l132, q_l133, q_l135, q_l136, q_l138, q_l146, q_l147, q_l148, q_l149, q_l150, q_l151, q_l152, q_l153, q_l154, q_l155, q_l156, q_l157, q_l158, q_l214, q_l229, q_l244, q_l259, q_l300, q_l999, q_l1813, q_l2072, q_l10000, q_l65536, q_l1000000000, m_done, m_fails, m_thrown, m_th, gs_same, q_gsgs, c_raise0, c_raise1, c_raise2, c_raise3, c_raise4]) (by omega) (by omega) 0
  unfold f_X7_keyTwins
  rw [show (0 : Int32) = nI 0 from rfl]
  refine h.trans ?_
  unfold twN
  rw [Nat.zero_add, Nat.sub_zero, ← List.range_eq_range']
theorem Q_keyTwins {M : gM} (g : gSim M 0 (M 151)) (w : gRow β (M 151)) : ∃ b, f_X6_keyTwins M = some b ∧ f_X7_keyTwins M = some (b, gs M 150 13 (nI 0)) := by
  obtain ⟨c, hc, h75, hP, hp⟩ := g.rows
  refine ⟨_, ?_, m_twins rfl w⟩
  unfold f_X6_keyTwins
  rw [c_pairs w hc h75 hP, Option.bind_some]
theorem Q_keyTwinsByGroups {M : gM} (g : gSim M 0 (M 151)) (w : gRow β (M 151)) : ∃ b, f_X6_keyTwinsByGroups M = some b ∧ f_X7_keyTwinsByGroups M = some (b, gs M 150 13 (nI 0)) := by
  obtain ⟨c, hc, h75, hP, hp⟩ := g.rows
  refine ⟨nI (twN (M 151)), ?_, ?_⟩
  · unfold f_X6_keyTwinsByGroups
    rw [c_groups w hc h75 hP, Option.bind_some]
  · unfold f_X7_keyTwinsByGroups
    rw [m_twins rfl w, Option.bind_some]
end PK
