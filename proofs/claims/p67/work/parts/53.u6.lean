/-! formatStack and formatBerth -/
theorem line_inv {k : Nat} {M : gM} {L : List Nat} {z : Int32} (h : gInv k M) (hL : L.length ≤ 100) (hc : ∀ c ∈ L, c < 65536) : gInv (k + 1) (gs (mW (cW M L) L) 150 13 z) := by
  obtain ⟨t, ht, tie, x⟩ := h
  have o : ∀ a, a ≠ 148 → a ≠ 149 → a ≠ 150 → a ≠ 157 → gs (mW (cW M L) L) 150 13 z a = M a := fun a h1 h2 h3 h4 => by rw [q_gsn h3, mW_o h3 h4, cW_o h1 h2]
  have o150 : ∀ j, j ≠ 12 → j ≠ 13 → gs (mW (cW M L) L) 150 13 z 150 j = M 150 j := fun j h1 h2 => by rw [q_gsk h2, mW_k h1, cW_o (by omega) (by omega)]
  obtain ⟨x1, x2, x3, x4, x5, x6, l, x8, x9, x10, x11⟩ := x
  refine ⟨t, by omega, ?_, ?_, ?_, x3, ?_, ?_, ?_, L.length, hL, ?_, ?_, fun i hi => ⟨L.getD i 0, ?_, ?_, ?_⟩⟩
  · refine (tie.up (show k - t ≤ k + 1 - t by omega)).fr ⟨fun a h1 h2 h3 => o a (by omega) (by omega) (by omega) (by omega), ?_, ?_, ?_, o150 4 (by omega) (by omega), o150 6 (by omega) (by omega), o 151 (by omega) (by omega) (by omega) (by omega), o 154 (by omega) (by omega) (by omega) (by omega), o 155 (by omega) (by omega) (by omega) (by omega)⟩
    · rw [o 132 (by omega) (by omega) (by omega) (by omega)]
    · rw [o 133 (by omega) (by omega) (by omega) (by omega)]
    · rw [o 133 (by omega) (by omega) (by omega) (by omega)]
  · rw [o 146 (by omega) (by omega) (by omega) (by omega)]; exact x1
  · rw [o150 8 (by omega) (by omega)]; exact x2
  · rw [o 147 (by omega) (by omega) (by omega) (by omega), o 156 (by omega) (by omega) (by omega) (by omega)]; exact x4
  · rw [o 132 (by omega) (by omega) (by omega) (by omega), o150 9 (by omega) (by omega)]; exact x5
  · rw [o 132 (by omega) (by omega) (by omega) (by omega), o150 10 (by omega) (by omega)]; exact x6
  · rw [q_gsn (by omega), mW_o (by omega) (by omega), cW_n]
  · rw [q_gsk (by omega), mW_n]
  · rw [List.getD_eq_getElem?_getD, List.getElem?_eq_getElem hi]
    exact hc _ (List.getElem_mem hi)
  · rw [q_gsn (by omega), mW_o (by omega) (by omega), cW_c]
    exact if_pos hi
  · rw [q_gsn (by omega), mW_c]
    exact if_pos hi
def spL (l : Nat) : List Nat := if l = 0 then [] else [32]
def rN (r : Nat → Int32) (j : Nat) : Nat := (r j).toNatClampNeg
/-- what a stack's first l levels write -/
def stL (r : Nat → Int32) (q : Nat) : Nat → List Nat
  | 0 => []
  | l + 1 => stL r q l ++ spL l ++ dgt (rN r (34 + (q + l))) ++ [58] ++ dgt (rN r (94 + (q + l))) ++ [47] ++ dgt (rN r (154 + (q + l)))
theorem stL_len (r : Nat → Int32) (q l : Nat) : (stL r q l).length ≤ 18 * l := by
  induction l with
  | zero => exact Nat.le_refl _
  | succ l ih =>
    have h1 := dgt_len (rN r (34 + (q + l)))
    have h2 := dgt_len (rN r (94 + (q + l)))
    have h3 := dgt_len (rN r (154 + (q + l)))
    have h4 : (spL l).length ≤ 1 := by unfold spL; split <;> simp
    simp only [stL, List.length_append, List.length_cons, List.length_nil]
    omega
theorem stL_lt (r : Nat → Int32) (q l : Nat) : ∀ c ∈ stL r q l, c < 65536 := by
  induction l with
  | zero => intro c hc; cases hc
  | succ l ih =>
    intro c hc
    simp only [stL, List.mem_append, List.mem_singleton] at hc
    rcases hc with (((((hc | hc) | hc) | hc) | hc) | hc) | hc
    · exact ih c hc
    · unfold spL at hc
      split at hc
      · cases hc
      · rw [List.mem_singleton.mp hc]; omega
    · exact dgt_lt _ c hc
    · omega
    · exact dgt_lt _ c hc
    · omega
    · exact dgt_lt _ c hc
section PW
variable {M : gM} {r : Nat → Int32} {β : Nat}
theorem c_writeL (g : gSim M 0 r) (w : gRow β r) (hβ : β ≤ 600) {p : Nat} (hp : p < 12) : ∀ d n l, l + d = hN r p → d < n → f_X3_writeStack_L14 0 (nI (hN r p)) (nI p) n (nI l) (cW M (stL r (5 * p) l)) = some (cW M (stL r (5 * p) (hN r p))) := by
  have h5 := (w.h hp).2
  have gL : ∀ L, gSim (cW M L) 0 r := fun L => g.frm (fun a h1 h2 h3 => cW_o (by omega) (by omega))
  obtain ⟨c, hc, h75, hP, -⟩ := g.rows
  have hcL : ∀ L, cW M L (0 + 1) 6 = nI c := fun L => by rw [cW_o (by omega) (by omega)]; exact hc
  have hPL : ∀ L, (tRows (cW M L) 0 c).Perm (tAll r) := fun L => by
    rw [tRows_frame (M := M) (fun a h1 h2 => cW_o (by omega) (by omega))]
    exact hP
  intro d
  induction d with
  | zero =>
    intro n l hl hn
    obtain ⟨m, rfl⟩ : ∃ m, n = m + 1 := ⟨n - 1, by omega⟩
    have hl : l = hN r p := by omega
    subst hl
    rw [f_X3_writeStack_L14, if_pos (nI_le (Nat.le_refl _) (by omega))]
  | succ d ih =>
    intro n l hl hn
    obtain ⟨m, rfl⟩ : ∃ m, n = m + 1 := ⟨n - 1, by omega⟩
    have ih := ih m (l + 1) (by omega) (by omega)
    obtain ⟨j, hj, ht, hr⟩ := sim_cell (gL (stL r (5 * p) l)) w (hcL _) h75 (hPL _) hp (l := l) (by omega)
    obtain ⟨hf, ed, em⟩ := cell_full (r := r) (p := p) (l := l) (by omega) h5
    obtain ⟨⟨i, hi0, hi9⟩, ⟨u, hu0, hu1, hu9⟩, k, hk0, hk9⟩ := w.ok (cell_mem (q := 5 * p + l) (by omega) hf)
    have hi : r (34 + (5 * p + l)) = nI i := hi0
    have hu : r (94 + (5 * p + l)) = nI u := hu0
    have hk : r (154 + (5 * p + l)) = nI k := hk0
    have nx := w.nx.2
    have ei : M (0 + 2) j = nI i := by
      have := congrArg Prod.fst ht
      rw [← hi, ← cW_o (M := M) (L := stL r (5 * p) l) (a := 0 + 2) (by omega) (by omega)]
      exact this
    have eu : M (0 + 3) j = nI u := by
      have := congrArg (fun t => t.2.1) ht
      rw [← hu, ← cW_o (M := M) (L := stL r (5 * p) l) (a := 0 + 3) (by omega) (by omega)]
      exact this
    have ek : M (0 + 4) j = nI k := by
      have := congrArg (fun t => t.2.2.1) ht
      rw [← hk, ← cW_o (M := M) (L := stL r (5 * p) l) (a := 0 + 4) (by omega) (by omega)]
      exact this
    have s2 : ∀ L, f_X0_id 0 (nI j) (cW M L) = some (nI i) := fun L => by rw [s_id (hcL L) h75 hj, cW_o (by omega) (by omega), ei]
    have s3 : ∀ L, f_X0_weight 0 (nI j) (cW M L) = some (nI u) := fun L => by rw [s_weight (hcL L) h75 hj, cW_o (by omega) (by omega), eu]
    have s4 : ∀ L, f_X0_key 0 (nI j) (cW M L) = some (nI k) := fun L => by rw [s_key (hcL L) h75 hj, cW_o (by omega) (by omega), ek]
    have l0 := stL_len r (5 * p) l
    have d1 := dgt_len i
    have d2 := dgt_len u
    have d3 := dgt_len k
    have es : stL r (5 * p) (l + 1) = stL r (5 * p) l ++ spL l ++ dgt i ++ [58] ++ dgt u ++ [47] ++ dgt k := by
      show stL r (5 * p) l ++ spL l ++ dgt (rN r (34 + (5 * p + l))) ++ [58] ++ dgt (rN r (94 + (5 * p + l))) ++ [47] ++ dgt (rN r (154 + (5 * p + l))) = _
      have a1 : rN r (34 + (5 * p + l)) = i := by unfold rN; rw [hi]; exact nI_clamp (by omega)
      have a2 : rN r (94 + (5 * p + l)) = u := by unfold rN; rw [hu]; exact nI_clamp (by omega)
      have a3 : rN r (154 + (5 * p + l)) = k := by unfold rN; rw [hk]; exact nI_clamp (by omega)
      rw [a1, a2, a3]
    obtain ⟨T0, hT0⟩ : ∃ T0, T0 = stL r (5 * p) l ++ spL l := ⟨_, rfl⟩
    have n0 : T0.length ≤ 18 * l + 1 := by
      rw [hT0, List.length_append]
      have : (spL l).length ≤ 1 := by unfold spL; split <;> simp
      omega
    rw [es, ← hT0] at ih
    have p1 := c_putNumber (M := M) (v := i) (L := T0) (by omega) (by omega)
    have p2 := c_putC (M := M) (L := T0 ++ dgt i) (c := 58) (by rw [List.length_append]; omega) (by omega)
    have p3 := c_putNumber (M := M) (v := u) (L := T0 ++ dgt i ++ [58]) (by omega) (by simp only [List.length_append, List.length_cons, List.length_nil]; omega)
    have p4 := c_putC (M := M) (L := T0 ++ dgt i ++ [58] ++ dgt u) (c := 47) (by simp only [List.length_append, List.length_cons, List.length_nil]; omega) (by omega)
    have p5 := c_putNumber (M := M) (v := k) (L := T0 ++ dgt i ++ [58] ++ dgt u ++ [47]) (by omega) (by simp only [List.length_append, List.length_cons, List.length_nil]; omega)
    rw [f_X3_writeStack_L14, if_neg (nI_ge (show l < hN r p by omega) (by omega)), hr, Option.bind_some]
    by_cases h0 : l = 0
    · subst h0
      have e0 : T0 = stL r (5 * p) 0 := by rw [hT0]; exact List.append_nil _
      rw [if_pos (show nI 0 ≤ (0 : Int32) by decide), ← e0, s2, Option.bind_some, p1, Option.bind_some, q_l58, p2, Option.bind_some, s3, Option.bind_some, p3, Option.bind_some, q_l47, p4, Option.bind_some, s4, Option.bind_some, p5, Option.bind_some]
      exact ih
    · have e0 : T0 = stL r (5 * p) l ++ [32] := by rw [hT0]; unfold spL; rw [if_neg h0]
      have p0 := c_putC (M := M) (L := stL r (5 * p) l) (c := 32) (by omega) (by omega)
      rw [if_neg (show ¬ nI l ≤ (0 : Int32) from nI_ge (show 0 < l by omega) (by omega)), q_l32, p0, Option.bind_some, ← e0, s2, Option.bind_some, p1, Option.bind_some, q_l58, p2, Option.bind_some, s3, Option.bind_some, p3, Option.bind_some, q_l47, p4, Option.bind_some, s4, Option.bind_some, p5, Option.bind_some, show nI l + 1 = nI (l + 1) from nI_add _ 1]
      exact ih
theorem c_writeStack (g : gSim M 0 r) (w : gRow β r) (hβ : β ≤ 600) {p : Nat} (hp : p < 12) : f_X3_writeStack 0 (nI p) M = some (cW M (stL r (5 * p) (hN r p))) := by
  have h5 := (w.h hp).2
  have hh := sim_height g w hp
  rw [(w.h hp).1] at hh
  have k0 := c_writeL g w hβ hp (hN r p) gF 0 (by omega) (by unfold gF; omega)
  unfold f_X3_writeStack
  rw [hh, Option.bind_some, q_gLet, show (0 : Int32) = nI 0 from rfl, cW_nil]
  exact k0
theorem m_writeL (hM : M 151 = r) (w : gRow β r) (hβ : β ≤ 600) {b s : Nat} (hb : b < 3) (hs : s < 4) (z : Int32) : ∀ d n l, l + d = hN r (b * 4 + s) → d < n → f_X7_formatStack_L25 z (nI b) (nI s) n (nI l) (mW M (stL r (5 * (b * 4 + s)) l)) = some (nI (stL r (5 * (b * 4 + s)) (hN r (b * 4 + s))).length, gs (mW M (stL r (5 * (b * 4 + s)) (hN r (b * 4 + s)))) 150 13 (nI 0)) := by
  obtain ⟨p, hpe⟩ : ∃ p, p = b * 4 + s := ⟨_, rfl⟩
  have hp : p < 12 := by omega
  rw [← hpe]
  obtain ⟨hh, h5⟩ := w.h hp
  have mM : ∀ L, mW M L 151 = r := fun L => by rw [mW_o (by omega) (by omega)]; exact hM
  have mh : ∀ L, f_X7_height (nI b) (nI s) (mW M L) = some (nI (hN r p)) := fun L => m_height0 hb hs (by rw [mM, ← hpe]; exact hh)
  intro d
  induction d with
  | zero =>
    intro n l hl hn
    obtain ⟨m, rfl⟩ : ∃ m, n = m + 1 := ⟨n - 1, by omega⟩
    have hl : l = hN r p := by omega
    subst hl
    rw [f_X7_formatStack_L25, mh, Option.bind_some, if_pos (nI_le (Nat.le_refl _) (by omega)), m_done, Option.bind_some, mW_n]
  | succ d ih =>
    intro n l hl hn
    obtain ⟨m, rfl⟩ : ∃ m, n = m + 1 := ⟨n - 1, by omega⟩
    have ih := ih m (l + 1) (by omega) (by omega)
    obtain ⟨hf, ed, em⟩ := cell_full (r := r) (p := p) (l := l) (by omega) h5
    obtain ⟨⟨i, hi0, hi9⟩, ⟨u, hu0, hu1, hu9⟩, k, hk0, hk9⟩ := w.ok (cell_mem (q := 5 * p + l) (by omega) hf)
    have hi : r (34 + (5 * p + l)) = nI i := hi0
    have hu : r (94 + (5 * p + l)) = nI u := hu0
    have hk : r (154 + (5 * p + l)) = nI k := hk0
    have nx := w.nx.2
    have l0 := stL_len r (5 * p) l
    have d1 := dgt_len i
    have d2 := dgt_len u
    have d3 := dgt_len k
    have es : stL r (5 * p) (l + 1) = stL r (5 * p) l ++ spL l ++ dgt i ++ [58] ++ dgt u ++ [47] ++ dgt k := by
      show stL r (5 * p) l ++ spL l ++ dgt (rN r (34 + (5 * p + l))) ++ [58] ++ dgt (rN r (94 + (5 * p + l))) ++ [47] ++ dgt (rN r (154 + (5 * p + l))) = _
      have a1 : rN r (34 + (5 * p + l)) = i := by unfold rN; rw [hi]; exact nI_clamp (by omega)
      have a2 : rN r (94 + (5 * p + l)) = u := by unfold rN; rw [hu]; exact nI_clamp (by omega)
      have a3 : rN r (154 + (5 * p + l)) = k := by unfold rN; rw [hk]; exact nI_clamp (by omega)
      rw [a1, a2, a3]
    obtain ⟨T0, hT0⟩ : ∃ T0, T0 = stL r (5 * p) l ++ spL l := ⟨_, rfl⟩
    have n0 : T0.length ≤ 18 * l + 1 := by
      rw [hT0, List.length_append]
      have : (spL l).length ≤ 1 := by unfold spL; split <;> simp
      omega
    rw [es, ← hT0] at ih
    have p1 := m_putNumber (M := M) (v := i) (L := T0) (by omega) (by omega)
    have p2 := m_putC (M := M) (L := T0 ++ dgt i) (c := 58) (by rw [List.length_append]; omega) (by omega)
    have p3 := m_putNumber (M := M) (v := u) (L := T0 ++ dgt i ++ [58]) (by omega) (by simp only [List.length_append, List.length_cons, List.length_nil]; omega)
    have p4 := m_putC (M := M) (L := T0 ++ dgt i ++ [58] ++ dgt u) (c := 47) (by simp only [List.length_append, List.length_cons, List.length_nil]; omega) (by omega)
    have p5 := m_putNumber (M := M) (v := k) (L := T0 ++ dgt i ++ [58] ++ dgt u ++ [47]) (by omega) (by simp only [List.length_append, List.length_cons, List.length_nil]; omega)
    have hce : f_X7_cell (nI b) (nI s) (nI l) (mW M (stL r (5 * p) l)) = some (nI (5 * p + l)) := by
      unfold f_X7_cell
      simp (disch := omega) only [↓reduceIte, eq_self, Bool.true_eq_false, Bool.false_eq_true, q_seqr, q_seql, v_ig, v_ni, v_le, v_nle, v_lt, v_nlt, v_eq, v_ne, v_gbt, v_gbf, v_gbd, v_m1lt, v_m1ge, v_m1ne, v_m1e, ↓q_bindD, ↓q_gLet, Option.isSome_some, Option.getD_some, nI_add, pk_mul, q_sub, q_m1, q_div, q_modN, nI_clamp, if_true, if_false, q_l0, q_l1, q_l2, q_l3, q_l4, q_l5, q_l6, q_l7, q_l8, q_l9, q_l10, q_l11, q_l12, q_l13, q_l14, q_l15, q_l16, q_l19, q_l20, q_l22, q_l24, q_l30, q_l32, q_l34, q_l36, q_l45, q_l47, q_l48, q_l57, q_l58, q_l59, q_l60, q_l61, q_l66, q_l75, q_l76, q_l94, q_l97, q_l99, q_l100, q_l101, q_l104, q_l105, q_l108, q_l109, q_l111, q_l114, q_l115, q_l116, q_l117, q_l118, q_l119, q_l120, q_l126, q_l132, q_l133, q_l135, q_l136, q_l138, q_l146, q_l147, q_l148, q_l149, q_l150, q_l151, q_l152, q_l153, q_l154, q_l155, q_l156, q_l157, q_l158, q_l214, q_l229, q_l244, q_l259, q_l300, q_l999, q_l1813, q_l2072, q_l10000, q_l65536, q_l1000000000]
      rw [show 20 * b + 5 * s + l = 5 * p + l by omega]
    obtain ⟨Q, hQ⟩ : ∃ Q, Q = 5 * p + l := ⟨_, rfl⟩
    rw [← hQ] at hce hi hu hk
    have hQ60 : Q < 60 := by omega
    rw [f_X7_formatStack_L25, mh, Option.bind_some, if_neg (nI_ge (show l < hN r p by omega) (by omega)), hce, Option.bind_some]
    by_cases h0 : l = 0
    · subst h0
      have e0 : stL r (5 * p) 0 = T0 := by rw [hT0]; exact (List.append_nil _).symm
      rw [e0, if_pos (show nI 0 ≤ (0 : Int32) by decide)]
      simp (disch := omega) only [↓reduceIte, eq_self, Bool.true_eq_false, Bool.false_eq_true, q_seqr, q_seql, v_ig, v_ni, v_le, v_nle, v_lt, v_nlt, v_eq, v_ne, v_gbt, v_gbf, v_gbd, v_m1lt, v_m1ge, v_m1ne, v_m1e, ↓q_bindD, ↓q_gLet, Option.isSome_some, Option.getD_some, nI_add, pk_mul, q_sub, q_m1, q_div, q_modN, nI_clamp, if_true, if_false, q_l0, q_l1, q_l2, q_l3, q_l4, q_l5, q_l6, q_l7, q_l8, q_l9, q_l10, q_l11, q_l12, q_l13, q_l14, q_l15, q_l16, q_l19, q_l20, q_l22, q_l24, q_l30, q_l32, q_l34, q_l36, q_l45, q_l47, q_l48, q_l57, q_l58, q_l59, q_l60, q_l61, q_l66, q_l75, q_l76, q_l94, q_l97, q_l99, q_l100, q_l101, q_l104, q_l105, q_l108, q_l109, q_l111, q_l114, q_l115, q_l116, q_l117, q_l118, q_l119, q_l120, q_l126, q_l132, q_l133, q_l135, q_l136, q_l138, q_l146, q_l147, q_l148, q_l149, q_l150, q_l151, q_l152, q_l153, q_l154, q_l155, q_l156, q_l157, q_l158, q_l214, q_l229, q_l244, q_l259, q_l300, q_l999, q_l1813, q_l2072, q_l10000, q_l65536, q_l1000000000, mM, hi, hu, hk, p1, p2, p3, p4, p5]
      exact ih
    · have e0 : T0 = stL r (5 * p) l ++ [32] := by rw [hT0]; unfold spL; rw [if_neg h0]
      have p0 := m_putC (M := M) (L := stL r (5 * p) l) (c := 32) (by omega) (by omega)
      rw [← e0] at p0
      rw [if_neg (show ¬ nI l ≤ (0 : Int32) from nI_ge (show 0 < l by omega) (by omega))]
      simp (disch := omega) only [↓reduceIte, eq_self, Bool.true_eq_false, Bool.false_eq_true, q_seqr, q_seql, v_ig, v_ni, v_le, v_nle, v_lt, v_nlt, v_eq, v_ne, v_gbt, v_gbf, v_gbd, v_m1lt, v_m1ge, v_m1ne, v_m1e, ↓q_bindD, ↓q_gLet, Option.isSome_some, Option.getD_some, nI_add, pk_mul, q_sub, q_m1, q_div, q_modN, nI_clamp, if_true, if_false, q_l0, q_l1, q_l2, q_l3, q_l4, q_l5, q_l6, q_l7, q_l8, q_l9, q_l10, q_l11, q_l12, q_l13, q_l14, q_l15, q_l16, q_l19, q_l20, q_l22, q_l24, q_l30, q_l32, q_l34, q_l36, q_l45, q_l47, q_l48, q_l57, q_l58, q_l59, q_l60, q_l61, q_l66, q_l75, q_l76, q_l94, q_l97, q_l99, q_l100, q_l101, q_l104, q_l105, q_l108, q_l109, q_l111, q_l114, q_l115, q_l116, q_l117, q_l118, q_l119, q_l120, q_l126, q_l132, q_l133, q_l135, q_l136, q_l138, q_l146, q_l147, q_l148, q_l149, q_l150, q_l151, q_l152, q_l153, q_l154, q_l155, q_l156, q_l157, q_l158, q_l214, q_l229, q_l244, q_l259, q_l300, q_l999, q_l1813, q_l2072, q_l10000, q_l65536, q_l1000000000, p0, mM, hi, hu, hk, p1, p2, p3, p4, p5]
      exact ih
end PW
theorem K_formatStack (v u : Int32) : gCl kON (f_X6_formatStack v u) (f_X7_formatStack v u) := by
  intro k M hk hI
  obtain ⟨t, ht, tie, x⟩ := id hI
  have g := tie.1
  have w := tie.2.1
  rcases stack_cases g w v u with ⟨h1, h2⟩ | ⟨h1, h2⟩ | ⟨b, s, hb, hs, rfl, rfl, hm, h0, h1, h2⟩
  · refine ⟨.inl "java/lang/IndexOutOfBoundsException", M, nI 1, nI 0, gs M 150 13 (nI 1), ?_, ?_, q_gss rfl, gAns_l 0 rfl, gInv_q hI (fun _ _ _ _ => rfl)⟩
    · unfold f_X6_formatStack; rw [h1]; rfl
    · unfold f_X7_formatStack; simp (disch := omega) only [↓reduceIte, eq_self, Bool.true_eq_false, Bool.false_eq_true, q_seqr, q_seql, v_ig, v_ni, v_le, v_nle, v_lt, v_nlt, v_eq, v_ne, v_gbt, v_gbf, v_gbd, v_m1lt, v_m1ge, v_m1ne, v_m1e, ↓q_bindD, ↓q_gLet, Option.isSome_some, Option.getD_some, nI_add, pk_mul, q_sub, q_m1, q_div, q_modN, nI_clamp, if_true, if_false, q_l0, q_l1, q_l2, q_l3, q_l4, q_l5, q_l6, q_l7, q_l8, q_l9, q_l10, q_l11, q_l12, q_l13, q_l14, q_l15, q_l16, q_l19, q_l20, q_l22, q_l24, q_l30, q_l32, q_l34, q_l36, q_l45, q_l47, q_l48, q_l57, q_l58, q_l59, q_l60, q_l61, q_l66, q_l75, q_l76, q_l94, q_l97, q_l99, q_l100, q_l101, q_l104, q_l105, q_l108, q_l109, q_l111, q_l114, q_l115, q_l116, q_l117, q_l118, q_l119, q_l120, q_l126, q_l132, q_l133, q_l135, q_l136, q_l138, q_l146, q_l147, q_l148, q_l149, q_l150, q_l151, q_l152, q_l153, q_l154, q_l155, q_l156, q_l157, q_l158, q_l214, q_l229, q_l244, q_l259, q_l300, q_l999, q_l1813, q_l2072, q_l10000, q_l65536, q_l1000000000, m_done, m_fails, m_thrown, m_th, gs_same, q_gsgs, c_raise0, c_raise1, c_raise2, c_raise3, c_raise4, h2]
  · refine ⟨.inl "java/util/NoSuchElementException", M, nI 2, nI 0, gs M 150 13 (nI 2), ?_, ?_, q_gss rfl, gAns_l 1 rfl, gInv_q hI (fun _ _ _ _ => rfl)⟩
    · unfold f_X6_formatStack; rw [h1]; rfl
    · unfold f_X7_formatStack; simp (disch := omega) only [↓reduceIte, eq_self, Bool.true_eq_false, Bool.false_eq_true, q_seqr, q_seql, v_ig, v_ni, v_le, v_nle, v_lt, v_nlt, v_eq, v_ne, v_gbt, v_gbf, v_gbd, v_m1lt, v_m1ge, v_m1ne, v_m1e, ↓q_bindD, ↓q_gLet, Option.isSome_some, Option.getD_some, nI_add, pk_mul, q_sub, q_m1, q_div, q_modN, nI_clamp, if_true, if_false, q_l0, q_l1, q_l2, q_l3, q_l4, q_l5, q_l6, q_l7, q_l8, q_l9, q_l10, q_l11, q_l12, q_l13, q_l14, q_l15, q_l16, q_l19, q_l20, q_l22, q_l24, q_l30, q_l32, q_l34, q_l36, q_l45, q_l47, q_l48, q_l57, q_l58, q_l59, q_l60, q_l61, q_l66, q_l75, q_l76, q_l94, q_l97, q_l99, q_l100, q_l101, q_l104, q_l105, q_l108, q_l109, q_l111, q_l114, q_l115, q_l116, q_l117, q_l118, q_l119, q_l120, q_l126, q_l132, q_l133, q_l135, q_l136, q_l138, q_l146, q_l147, q_l148, q_l149, q_l150, q_l151, q_l152, q_l153, q_l154, q_l155, q_l156, q_l157, q_l158, q_l214, q_l229, q_l244, q_l259, q_l300, q_l999, q_l1813, q_l2072, q_l10000, q_l65536, q_l1000000000, m_done, m_fails, m_thrown, m_th, gs_same, q_gsgs, c_raise0, c_raise1, c_raise2, c_raise3, c_raise4, h2]
  · have hp : b * 4 + s < 12 := by omega
    have h5 := (w.h hp).2
    have hw := c_writeStack g w (by omega) hp
    have hl := stL_len (M 151) (5 * (b * 4 + s)) (hN (M 151) (b * 4 + s))
    obtain ⟨L, hL⟩ : ∃ L, L = stL (M 151) (5 * (b * 4 + s)) (hN (M 151) (b * 4 + s)) := ⟨_, rfl⟩
    rw [← hL] at hw hl
    have hf : f_X6_formatStack (nI b) (nI s) M = some (.inr (nI L.length), cW M L) := by
      unfold f_X6_formatStack
      rw [h1, q_seqr, c_pileOf, Option.bind_some, hw, Option.bind_some, cW_n]
    have e151 : cW M L 151 = M 151 := cW_o (by omega) (by omega)
    have hm2 : f_X7_formatStack (nI b) (nI s) (cW M L) = some (nI L.length, gs (mW (cW M L) L) 150 13 (nI 0)) := by
      have wy : f_X7_whyNoStack (nI b) (nI s) (cW M L) = some (nI 0) := by
        unfold f_X7_whyNoStack f_X7_whyNoShip
        simp (disch := omega) only [↓reduceIte, eq_self, Bool.true_eq_false, Bool.false_eq_true, q_seqr, q_seql, v_ig, v_ni, v_le, v_nle, v_lt, v_nlt, v_eq, v_ne, v_gbt, v_gbf, v_gbd, v_m1lt, v_m1ge, v_m1ne, v_m1e, ↓q_bindD, ↓q_gLet, Option.isSome_some, Option.getD_some, nI_add, pk_mul, q_sub, q_m1, q_div, q_modN, nI_clamp, if_true, if_false, q_l0, q_l1, q_l2, q_l3, q_l4, q_l5, q_l6, q_l7, q_l8, q_l9, q_l10, q_l11, q_l12, q_l13, q_l14, q_l15, q_l16, q_l19, q_l20, q_l22, q_l24, q_l30, q_l32, q_l34, q_l36, q_l45, q_l47, q_l48, q_l57, q_l58, q_l59, q_l60, q_l61, q_l66, q_l75, q_l76, q_l94, q_l97, q_l99, q_l100, q_l101, q_l104, q_l105, q_l108, q_l109, q_l111, q_l114, q_l115, q_l116, q_l117, q_l118, q_l119, q_l120, q_l126, q_l132, q_l133, q_l135, q_l136, q_l138, q_l146, q_l147, q_l148, q_l149, q_l150, q_l151, q_l152, q_l153, q_l154, q_l155, q_l156, q_l157, q_l158, q_l214, q_l229, q_l244, q_l259, q_l300, q_l999, q_l1813, q_l2072, q_l10000, q_l65536, q_l1000000000, m_isStack hb hs, m_isBerth hb, e151, hm]
      have mw := m_writeL e151 w (by omega) hb hs (nI 0) (hN (M 151) (b * 4 + s)) gF 0 (by omega) (by unfold gF; omega)
      rw [← hL] at mw
      unfold f_X7_formatStack
      rw [wy, Option.bind_some, show (0 : Int32) = nI 0 from rfl, if_pos (nI_le (Nat.le_refl 0) (by omega)), q_gLet, mW_nil]
      exact mw
    exact ⟨_, _, _, _, _, hf, hm2, q_gss rfl, gAns_r, line_inv hI (by omega) (by rw [hL]; exact stL_lt _ _ _)⟩
