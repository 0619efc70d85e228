/-! What the tie says: heights, places, ids. -/
theorem gRow.hr {β : Nat} {r : Nat → Int32} (g : gRow β r) : ∃ h, r 0 = nI h ∧ h ≤ 100 * β := g.1
theorem gRow.nx {β : Nat} {r : Nat → Int32} (g : gRow β r) : r 1 = nI (nxN r) ∧ nxN r ≤ β := g.2.1
theorem gRow.h {β : Nat} {r : Nat → Int32} (g : gRow β r) {p : Nat} (hp : p < 12) : r (22 + p) = nI (hN r p) ∧ hN r p ≤ 5 := g.2.2.1 p hp
theorem gRow.y {β : Nat} {r : Nat → Int32} (g : gRow β r) : r 6 = nI (yN r) ∧ yN r ≤ 15 := g.2.2.2.1
theorem gRow.b {β : Nat} {r : Nat → Int32} (g : gRow β r) {b : Nat} (hb : b < 3) : r (7 + b) = nI 0 ∨ (r (7 + b) = nI 1 ∧ ∃ d u, r (10 + b) = nI d ∧ 1 ≤ d ∧ d ≤ 9 ∧ r (13 + b) = nI u ∧ u ≤ 100 * β + 999) := g.2.2.2.2.1 b hb
theorem gRow.tl {β : Nat} {r : Nat → Int32} (g : gRow β r) {b : Nat} (hb : b < 3) : ∃ t l, r (16 + b) = nI t ∧ t < 3 ∧ r (19 + b) = nI l ∧ l ≤ 2 := g.2.2.2.2.2.1 b hb
theorem gRow.t {β : Nat} {r : Nat → Int32} (g : gRow β r) {t : tC} (ht : t ∈ tAll r) : (∃ i, t.1 = nI i ∧ i < nxN r) ∧ (∃ w, t.2.1 = nI w ∧ 1 ≤ w ∧ w ≤ 30) ∧ (∃ k, t.2.2.1 = nI k ∧ k ≤ 99) := g.2.2.2.2.2.2.1 t ht
theorem gRow.dl {β : Nat} {r : Nat → Int32} (g : gRow β r) : ∃ d, r 4 = nI d ∧ nxN r = (tAll r).length + d := g.2.2.2.2.2.2.2
theorem gRow.up {β β' : Nat} {r : Nat → Int32} (h : β ≤ β') (g : gRow β r) : gRow β' r := by
  obtain ⟨⟨h0, a1, a2⟩, ⟨b1, b2⟩, c, d, e, f, k⟩ := g
  refine ⟨⟨h0, a1, by omega⟩, ⟨b1, by omega⟩, c, d, fun b hb => ?_, f, k⟩
  rcases e b hb with e | ⟨e, d, u, e1, e2, e3, e4, e5⟩
  · exact Or.inl e
  · exact Or.inr ⟨e, d, u, e1, e2, e3, e4, by omega⟩
theorem tAll_mem {r : Nat → Int32} {t : tC} : t ∈ tAll r ↔ (∃ q, q < 60 ∧ fullB r q = true ∧ tCell r q = t) ∨ (∃ l, l < yN r ∧ tYd r l = t) := by
  simp [tAll, tShip, tYard, and_assoc]
theorem cell_mem {r : Nat → Int32} {q : Nat} (hq : q < 60) (hf : fullB r q = true) : tCell r q ∈ tAll r := tAll_mem.mpr (Or.inl ⟨q, hq, hf, rfl⟩)
theorem yd_mem {r : Nat → Int32} {l : Nat} (hl : l < yN r) : tYd r l ∈ tAll r := tAll_mem.mpr (Or.inr ⟨l, hl, rfl⟩)
theorem tCell_inj {r r' : Nat → Int32} {q q' : Nat} (hq : q < 60) (hq' : q' < 60) (h : (tCell r q).2.2.2 = (tCell r' q').2.2.2) : q = q' := by
  have h1 : nI (q / 5) = nI (q' / 5) := congrArg Prod.fst h
  have h2 : nI (q % 5) = nI (q' % 5) := congrArg Prod.snd h
  have h1 := (nI_eq (by omega) (by omega)).mp h1
  have h2 := (nI_eq (by omega) (by omega)).mp h2
  omega
theorem cnt_cells (h p n : Nat) : (List.range (5 * n)).countP (fun c => decide (c / 5 = p ∧ c % 5 < h)) = if p < n then min h 5 else 0 := by
  induction n with
  | zero => simp
  | succ n ih =>
    have e : List.range (5 * (n + 1)) = List.range (5 * n) ++ [5 * n, 5 * n + 1, 5 * n + 2, 5 * n + 3, 5 * n + 4] := by
      rw [show 5 * (n + 1) = 5 * n + 1 + 1 + 1 + 1 + 1 by omega]
      simp only [List.range_succ, List.append_assoc, List.singleton_append, List.nil_append, List.cons_append]
    rw [e, List.countP_append, ih]
    have d0 : (5 * n) / 5 = n := by omega
    have d1 : (5 * n + 1) / 5 = n := by omega
    have d2 : (5 * n + 2) / 5 = n := by omega
    have d3 : (5 * n + 3) / 5 = n := by omega
    have d4 : (5 * n + 4) / 5 = n := by omega
    have m0 : (5 * n) % 5 = 0 := by omega
    have m1 : (5 * n + 1) % 5 = 1 := by omega
    have m2 : (5 * n + 2) % 5 = 2 := by omega
    have m3 : (5 * n + 3) % 5 = 3 := by omega
    have m4 : (5 * n + 4) % 5 = 4 := by omega
    simp only [List.countP_cons, List.countP_nil, d0, d1, d2, d3, d4, m0, m1, m2, m3, m4, decide_eq_true_eq]
    by_cases hp : n = p
    · subst hp
      simp only [true_and]
      split <;> split <;> split <;> split <;> split <;> split <;> split <;> omega
    · simp only [hp, false_and, if_false]
      split <;> split <;> omega
theorem cnt_ship (r : Nat → Int32) {p : Nat} (hp : p < 12) (h5 : hN r p ≤ 5) : (tAll r).countP (fun t => decide (t.2.2.2.1 = nI p)) = hN r p := by
  rw [tAll, List.countP_append]
  have h2 : (tYard r).countP (fun t => decide (t.2.2.2.1 = nI p)) = 0 := by
    rw [List.countP_eq_zero]
    intro t ht
    obtain ⟨l, -, rfl⟩ := List.mem_map.mp ht
    have : ¬ nI 12 = nI p := fun e => by have := (nI_eq (by omega) (by omega)).mp e; omega
    show ¬ decide (nI 12 = nI p) = true
    rw [decide_eq_true_eq]
    exact this
  have h1 : (tShip r).countP (fun t => decide (t.2.2.2.1 = nI p)) = hN r p := by
    rw [tShip, List.countP_map, List.countP_filter]
    rw [List.countP_congr (q := fun c => decide (c / 5 = p ∧ c % 5 < hN r p))]
    · have := cnt_cells (hN r p) p 12
      rw [show 5 * 12 = 60 by decide, if_pos hp] at this
      rw [this]
      omega
    · intro c hc
      have hc := List.mem_range.mp hc
      have e : nI (c / 5) = nI p ↔ c / 5 = p := nI_eq (by omega) (by omega)
      simp only [Function.comp, tCell, fullB, Bool.and_eq_true, decide_eq_true_eq, e]
      constructor
      · rintro ⟨a, b⟩; exact ⟨a, a ▸ b⟩
      · rintro ⟨a, b⟩; exact ⟨a, a ▸ b⟩
  omega
theorem cnt_yard (r : Nat → Int32) : (tAll r).countP (fun t => decide (t.2.2.2.1 = nI 12)) = yN r := by
  rw [tAll, List.countP_append]
  have h2 : (tYard r).countP (fun t => decide (t.2.2.2.1 = nI 12)) = yN r := by
    rw [tYard, List.countP_map, List.countP_eq_length.mpr]
    · simp
    · intro l _
      simp [tYd]
  have h1 : (tShip r).countP (fun t => decide (t.2.2.2.1 = nI 12)) = 0 := by
    rw [List.countP_eq_zero]
    intro t ht
    obtain ⟨c, hc, rfl⟩ := List.mem_map.mp ht
    have hc := List.mem_range.mp (List.mem_filter.mp hc).1
    have : ¬ nI (c / 5) = nI 12 := fun e => by have := (nI_eq (by omega) (by omega)).mp e; omega
    show ¬ decide (nI (c / 5) = nI 12) = true
    rw [decide_eq_true_eq]
    exact this
  omega
section PS
variable {M : gM} {o : Nat} {r : Nat → Int32} {β : Nat}
/-- the tie's own rows, with what comes of them -/
theorem gSim.rows (g : gSim M o r) : ∃ c, M (o + 1) 6 = nI c ∧ c ≤ 75 ∧ (tRows M o c).Perm (tAll r) ∧ (tRows M o c).Pairwise (fun x y => x.1 < y.1) := g.2.2.2
theorem rows_inj {c : Nat} (hp : (tRows M o c).Pairwise (fun x y => x.1 < y.1)) {i j : Nat} (hi : i < c) (hj : j < c) (h : M (o + 2) i = M (o + 2) j) : i = j := by
  have key : ∀ i j, i < j → j < c → M (o + 2) i < M (o + 2) j := fun i j hij hj => by
    have := (List.pairwise_iff_getElem.mp hp) i j (by rw [tRows_len]; omega) (by rw [tRows_len]; omega) hij
    simpa [tRows, tRow] using this
  rcases Nat.lt_trichotomy i j with hlt | he | hlt
  · have := key i j hlt hj
    rw [h] at this
    have := Int32.lt_iff_toInt_lt.mp this
    omega
  · exact he
  · have := key j i hlt hi
    rw [h] at this
    have := Int32.lt_iff_toInt_lt.mp this
    omega
theorem rows_of {c : Nat} (hP : (tRows M o c).Perm (tAll r)) {t : tC} (ht : t ∈ tAll r) : ∃ j, j < c ∧ tRow M o j = t := tRows_mem.mp (hP.mem_iff.mpr ht)
theorem of_rows {c : Nat} (hP : (tRows M o c).Perm (tAll r)) {j : Nat} (hj : j < c) : tRow M o j ∈ tAll r := hP.mem_iff.mp (tRows_mem.mpr ⟨j, hj, rfl⟩)
/-- a container is where it is: its place tells all else -/
theorem place_inj {t t' : tC} (ht : t ∈ tAll r) (ht' : t' ∈ tAll r) (hy : yN r ≤ 15) (h : t.2.2.2 = t'.2.2.2) : t = t' := by
  rcases tAll_mem.mp ht with ⟨q, hq, hf, rfl⟩ | ⟨l, hl, rfl⟩ <;> rcases tAll_mem.mp ht' with ⟨q', hq', hf', rfl⟩ | ⟨l', hl', rfl⟩
  · rw [tCell_inj hq hq' h]
  · have h1 : nI (q / 5) = nI 12 := congrArg Prod.fst h
    have := (nI_eq (by omega) (by omega)).mp h1
    omega
  · have h1 : nI 12 = nI (q' / 5) := congrArg Prod.fst h
    have := (nI_eq (by omega) (by omega)).mp h1
    omega
  · have h1 : nI l = nI l' := congrArg Prod.snd h
    rw [(nI_eq (by omega) (by omega)).mp h1]
theorem sim_height (g : gSim M o r) (w : gRow β r) {p : Nat} (hp : p < 12) : f_X0_height o (nI p) M = some (r (22 + p)) := by
  obtain ⟨c, hc, h75, hP, -⟩ := g.rows
  rw [s_height0 hc h75, hP.countP_eq, cnt_ship r hp (w.h hp).2, ← (w.h hp).1]
theorem sim_yard (g : gSim M o r) (w : gRow β r) : f_X0_height o (nI 12) M = some (r 6) := by
  obtain ⟨c, hc, h75, hP, -⟩ := g.rows
  rw [s_height0 hc h75, hP.countP_eq, cnt_yard r, ← w.y.1]
theorem sim_rowAt (g : gSim M o r) (w : gRow β r) {c : Nat} (hc : M (o + 1) 6 = nI c) (h75 : c ≤ 75) (hP : (tRows M o c).Perm (tAll r)) {t : tC} (ht : t ∈ tAll r) : ∃ j, j < c ∧ tRow M o j = t ∧ f_X0_rowAt o t.2.2.2.1 t.2.2.2.2 M = some (nI j) := by
  rcases s_rowAt hc h75 t.2.2.2.1 t.2.2.2.2 with ⟨j, hj, h1, h2, h3⟩ | ⟨h, -⟩
  · exact ⟨j, hj, place_inj (of_rows hP hj) ht w.y.2 (Prod.ext h1 h2), h3⟩
  · obtain ⟨j, hj, e⟩ := rows_of hP ht
    exact absurd ⟨congrArg (fun t => t.2.2.2.1) e, congrArg (fun t => t.2.2.2.2) e⟩ (h j hj)
theorem sim_noRow (g : gSim M o r) {c : Nat} (hc : M (o + 1) 6 = nI c) (h75 : c ≤ 75) (hP : (tRows M o c).Perm (tAll r)) {v u : Int32} (h : ∀ t ∈ tAll r, ¬ (t.2.2.2.1 = v ∧ t.2.2.2.2 = u)) : f_X0_rowAt o v u M = some (-nI 1) := by
  rcases s_rowAt hc h75 v u with ⟨j, hj, h1, h2, h3⟩ | ⟨-, h3⟩
  · exact absurd ⟨h1, h2⟩ (h _ (of_rows hP hj))
  · exact h3
end PS
