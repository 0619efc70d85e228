/-! formatBerth -/
theorem c_part {M : gM} {L : List Nat} {c v : Nat} (hL : L.length < 90) (hc : c < 65536) (hv : v < 100000) : f_X3_putPart (nI c) (nI v) (cW M L) = some (cW M (L ++ [32] ++ [c] ++ dgt v)) := by
  have p1 := c_putC (M := M) (L := L) (c := 32) (by omega) (by omega)
  have p2 := c_putC (M := M) (L := L ++ [32]) (c := c) (by simp only [List.length_append, List.length_cons, List.length_nil]; omega) hc
  have p3 := c_putNumber (M := M) (v := v) (L := L ++ [32] ++ [c]) hv (by simp only [List.length_append, List.length_cons, List.length_nil]; omega)
  unfold f_X3_putPart
  simp (disch := omega) only [↓reduceIte, eq_self, Bool.true_eq_false, Bool.false_eq_true, q_seqr, q_seql, v_ig, v_ni, v_le, v_nle, v_lt, v_nlt, v_eq, v_ne, v_gbt, v_gbf, v_gbd, v_m1lt, v_m1ge, v_m1ne, v_m1e, ↓q_bindD, ↓q_gLet, Option.isSome_some, Option.getD_some, nI_add, pk_mul, q_sub, q_m1, q_div, q_modN, nI_clamp, if_true, if_false, q_l0, q_l1, q_l2, q_l3, q_l4, q_l5, q_l6, q_l7, q_l8, q_l9, q_l10, q_l11, q_l12, q_l13, q_l14, q_l15, q_l16, q_l19, q_l20, q_l22, q_l24, q_l30, q_l32, q_l34, q_l36, q_l45, q_l47, q_l48, q_l57, q_l58, q_l59, q_l60, q_l61, q_l66, q_l75, q_l76, q_l94, q_l97, q_l99, q_l100, q_l101, q_l104, q_l105, q_l108, q_l109, q_l111, q_l114, q_l115, q_l116, q_l117, q_l118, q_l119, q_l120, q_l126, q_l132, q_l133, q_l135, q_l136, q_l138, q_l146, q_l147, q_l148, q_l149, q_l150, q_l151, q_l152, q_l153, q_l154, q_l155, q_l156, q_l157, q_l158, q_l214, q_l229, q_l244, q_l259, q_l300, q_l999, q_l1813, q_l2072, q_l10000, q_l65536, q_l1000000000, p1, p2, p3]
theorem m_part {M : gM} {L : List Nat} {c v : Nat} (hL : L.length < 90) (h0 : 0 < c) (hc : c < 65536) (hv : v < 100000) : f_X7_writesBehind (nI c) (nI v) (mW M L) = some (mW M (L ++ [32] ++ [c] ++ dgt v)) := by
  have p1 := m_putC (M := M) (L := L) (c := 32) (by omega) (by omega)
  have p2 := m_putC (M := M) (L := L ++ [32]) (c := c) (by simp only [List.length_append, List.length_cons, List.length_nil]; omega) hc
  have p3 := m_putNumber (M := M) (v := v) (L := L ++ [32] ++ [c]) hv (by simp only [List.length_append, List.length_cons, List.length_nil]; omega)
  unfold f_X7_writesBehind
  simp (disch := omega) only [↓reduceIte, eq_self, Bool.true_eq_false, Bool.false_eq_true, q_seqr, q_seql, v_ig, v_ni, v_le, v_nle, v_lt, v_nlt, v_eq, v_ne, v_gbt, v_gbf, v_gbd, v_m1lt, v_m1ge, v_m1ne, v_m1e, ↓q_bindD, ↓q_gLet, Option.isSome_some, Option.getD_some, nI_add, pk_mul, q_sub, q_m1, q_div, q_modN, nI_clamp, if_true, if_false, q_l0, q_l1, q_l2, q_l3, q_l4, q_l5, q_l6, q_l7, q_l8, q_l9, q_l10, q_l11, q_l12, q_l13, q_l14, q_l15, q_l16, q_l19, q_l20, q_l22, q_l24, q_l30, q_l32, q_l34, q_l36, q_l45, q_l47, q_l48, q_l57, q_l58, q_l59, q_l60, q_l61, q_l66, q_l75, q_l76, q_l94, q_l97, q_l99, q_l100, q_l101, q_l104, q_l105, q_l108, q_l109, q_l111, q_l114, q_l115, q_l116, q_l117, q_l118, q_l119, q_l120, q_l126, q_l132, q_l133, q_l135, q_l136, q_l138, q_l146, q_l147, q_l148, q_l149, q_l150, q_l151, q_l152, q_l153, q_l154, q_l155, q_l156, q_l157, q_l158, q_l214, q_l229, q_l244, q_l259, q_l300, q_l999, q_l1813, q_l2072, q_l10000, q_l65536, q_l1000000000, p1, p2, p3]
theorem m_part0 {M : gM} {L : List Nat} {v : Nat} (hL : L.length < 90) (hv : v < 100000) : f_X7_writesBehind (nI 0) (nI v) (mW M L) = some (mW M (L ++ [32] ++ dgt v)) := by
  have p1 := m_putC (M := M) (L := L) (c := 32) (by omega) (by omega)
  have p3 := m_putNumber (M := M) (v := v) (L := L ++ [32]) hv (by simp only [List.length_append, List.length_cons, List.length_nil]; omega)
  unfold f_X7_writesBehind
  simp (disch := omega) only [↓reduceIte, eq_self, Bool.true_eq_false, Bool.false_eq_true, q_seqr, q_seql, v_ig, v_ni, v_le, v_nle, v_lt, v_nlt, v_eq, v_ne, v_gbt, v_gbf, v_gbd, v_m1lt, v_m1ge, v_m1ne, v_m1e, ↓q_bindD, ↓q_gLet, Option.isSome_some, Option.getD_some, nI_add, pk_mul, q_sub, q_m1, q_div, q_modN, nI_clamp, if_true, if_false, q_l0, q_l1, q_l2, q_l3, q_l4, q_l5, q_l6, q_l7, q_l8, q_l9, q_l10, q_l11, q_l12, q_l13, q_l14, q_l15, q_l16, q_l19, q_l20, q_l22, q_l24, q_l30, q_l32, q_l34, q_l36, q_l45, q_l47, q_l48, q_l57, q_l58, q_l59, q_l60, q_l61, q_l66, q_l75, q_l76, q_l94, q_l97, q_l99, q_l100, q_l101, q_l104, q_l105, q_l108, q_l109, q_l111, q_l114, q_l115, q_l116, q_l117, q_l118, q_l119, q_l120, q_l126, q_l132, q_l133, q_l135, q_l136, q_l138, q_l146, q_l147, q_l148, q_l149, q_l150, q_l151, q_l152, q_l153, q_l154, q_l155, q_l156, q_l157, q_l158, q_l214, q_l229, q_l244, q_l259, q_l300, q_l999, q_l1813, q_l2072, q_l10000, q_l65536, q_l1000000000, p1, p3]
def smL (c v : Nat) : List Nat := if v = 0 then [] else [32] ++ [c] ++ dgt v
def bt0 (b : Nat) : List Nat := [] ++ [66] ++ dgt b
def bt1 (r : Nat → Int32) (b : Nat) : List Nat := bt0 b ++ [32] ++ [100] ++ dgt (drN r b) ++ [32] ++ [104] ++ dgt (duN r b) ++ [32] ++ dgt (ldN r b)
def btL (r : Nat → Int32) (b : Nat) : List Nat := if r (7 + b) = nI 0 then bt0 b ++ [32] ++ [45] else bt1 r b ++ smL 120 (rN r (16 + b)) ++ smL 76 (lkN r b)
theorem smL_len (c v : Nat) : (smL c v).length ≤ 7 := by
  have := dgt_len v
  unfold smL
  split
  · simp
  · simp only [List.length_append, List.length_cons, List.length_nil]; omega
theorem smL_lt (c v : Nat) (hc : c < 65536) : ∀ d ∈ smL c v, d < 65536 := by
  intro d hd
  unfold smL at hd
  split at hd
  · cases hd
  · simp only [List.mem_append, List.mem_singleton] at hd
    rcases hd with (hd | hd) | hd
    · omega
    · omega
    · exact dgt_lt _ d hd
theorem bt0_len (b : Nat) : (bt0 b).length ≤ 6 := by
  have := dgt_len b
  unfold bt0
  simp only [List.length_append, List.length_cons, List.length_nil]; omega
theorem bt0_lt (b : Nat) : ∀ d ∈ bt0 b, d < 65536 := by
  intro d hd
  unfold bt0 at hd
  simp only [List.mem_append, List.mem_singleton, List.nil_append] at hd
  rcases hd with hd | hd
  · omega
  · exact dgt_lt _ d hd
theorem bt1_len (r : Nat → Int32) (b : Nat) : (bt1 r b).length ≤ 26 := by
  have := bt0_len b
  have := dgt_len (drN r b)
  have := dgt_len (duN r b)
  have := dgt_len (ldN r b)
  unfold bt1
  simp only [List.length_append, List.length_cons, List.length_nil]; omega
theorem bt1_lt (r : Nat → Int32) (b : Nat) : ∀ d ∈ bt1 r b, d < 65536 := by
  intro d hd
  unfold bt1 at hd
  simp only [List.mem_append, List.mem_singleton] at hd
  rcases hd with (((((((hd | hd) | hd) | hd) | hd) | hd) | hd) | hd) | hd
  · exact bt0_lt _ d hd
  · omega
  · omega
  · exact dgt_lt _ d hd
  · omega
  · omega
  · exact dgt_lt _ d hd
  · omega
  · exact dgt_lt _ d hd
theorem btL_len (r : Nat → Int32) (b : Nat) : (btL r b).length ≤ 40 := by
  have := bt0_len b
  have := bt1_len r b
  have := smL_len 120 (rN r (16 + b))
  have := smL_len 76 (lkN r b)
  unfold btL
  split
  · simp only [List.length_append, List.length_cons, List.length_nil]; omega
  · simp only [List.length_append]; omega
theorem btL_lt (r : Nat → Int32) (b : Nat) : ∀ d ∈ btL r b, d < 65536 := by
  intro d hd
  unfold btL at hd
  split at hd
  · simp only [List.mem_append, List.mem_singleton] at hd
    rcases hd with (hd | hd) | hd
    · exact bt0_lt _ d hd
    · omega
    · omega
  · simp only [List.mem_append] at hd
    rcases hd with (hd | hd) | hd
    · exact bt1_lt _ _ d hd
    · exact smL_lt _ _ (by omega) d hd
    · exact smL_lt _ _ (by omega) d hd
section PB
variable {M : gM} {r : Nat → Int32} {β : Nat}
theorem c_writeBerth (g : gSim M 0 r) (w : gRow β r) (hβ : β ≤ 600) {b : Nat} (hb : b < 3) : f_X3_writeBerth 0 (nI b) M = some (cW M (btL r b)) := by
  have gL : ∀ L, gSim (cW M L) 0 r := fun L => g.frm (fun a h1 h2 h3 => cW_o (by omega) (by omega))
  have p1 := c_putC (M := M) (L := []) (c := 66) (by simp) (by omega)
  have p2 := c_putNumber (M := M) (v := b) (L := [] ++ [66]) (by omega) (by simp)
  have e0 : [] ++ [66] ++ dgt b = bt0 b := rfl
  rw [e0] at p2
  have l0 := bt0_len b
  unfold f_X3_writeBerth
  rw [q_gLet, show (0 : Int32) = nI 0 from rfl, cW_nil, q_l66, p1, Option.bind_some, p2, Option.bind_some]
  rcases sim_ship (gL (bt0 b)) w hb with ⟨h1, h2⟩ | ⟨h1, h2, h3, h4, -⟩
  · have p3 := c_putC (M := M) (L := bt0 b) (c := 32) (by omega) (by omega)
    have p4 := c_putC (M := M) (L := bt0 b ++ [32]) (c := 45) (by simp only [List.length_append, List.length_cons, List.length_nil]; omega) (by omega)
    have eL : btL r b = bt0 b ++ [32] ++ [45] := if_pos h1
    rw [eL]
    simp (disch := omega) only [↓reduceIte, eq_self, Bool.true_eq_false, Bool.false_eq_true, q_seqr, q_seql, v_ig, v_ni, v_le, v_nle, v_lt, v_nlt, v_eq, v_ne, v_gbt, v_gbf, v_gbd, v_m1lt, v_m1ge, v_m1ne, v_m1e, ↓q_bindD, ↓q_gLet, Option.isSome_some, Option.getD_some, nI_add, pk_mul, q_sub, q_m1, q_div, q_modN, nI_clamp, if_true, if_false, q_l0, q_l1, q_l2, q_l3, q_l4, q_l5, q_l6, q_l7, q_l8, q_l9, q_l10, q_l11, q_l12, q_l13, q_l14, q_l15, q_l16, q_l19, q_l20, q_l22, q_l24, q_l30, q_l32, q_l34, q_l36, q_l45, q_l47, q_l48, q_l57, q_l58, q_l59, q_l60, q_l61, q_l66, q_l75, q_l76, q_l94, q_l97, q_l99, q_l100, q_l101, q_l104, q_l105, q_l108, q_l109, q_l111, q_l114, q_l115, q_l116, q_l117, q_l118, q_l119, q_l120, q_l126, q_l132, q_l133, q_l135, q_l136, q_l138, q_l146, q_l147, q_l148, q_l149, q_l150, q_l151, q_l152, q_l153, q_l154, q_l155, q_l156, q_l157, q_l158, q_l214, q_l229, q_l244, q_l259, q_l300, q_l999, q_l1813, q_l2072, q_l10000, q_l65536, q_l1000000000, h2, p3, p4]
  · have a := w.ship hβ hb h1
    obtain ⟨a1, a2, a3, a4, a5⟩ := a
    have tl := w.tl hb
    obtain ⟨t, l, t1, t2, -, -⟩ := tl
    have lk := lk_eq w hb
    have l20 := ldN_le w hb
    have e8 : ∀ L, cW M L (0 + 8) b = nI (drN r b) := fun L => by rw [cW_o (by omega) (by omega), ← cW_o (M := M) (L := bt0 b) (a := 0 + 8) (by omega) (by omega), h3, a1]
    have e9 : ∀ L, cW M L (0 + 9) b = nI (duN r b) := fun L => by rw [cW_o (by omega) (by omega), ← cW_o (M := M) (L := bt0 b) (a := 0 + 9) (by omega) (by omega), h4, a4]
    have e10 : ∀ L, cW M L (0 + 10) b = nI t := fun L => by rw [cW_o (by omega) (by omega), (g.2.2.1 b hb).1, t1]
    have e11 : ∀ L, cW M L (0 + 11) b = nI (lkN r b) := fun L => by rw [cW_o (by omega) (by omega), (g.2.2.1 b hb).2, lk.1]
    have eN : rN r (16 + b) = t := by unfold rN; rw [t1]; exact nI_clamp (by omega)
    have d1 := dgt_len (drN r b)
    have d2 := dgt_len (duN r b)
    have q1 := c_part (M := M) (L := bt0 b) (c := 100) (v := drN r b) (by omega) (by omega) (by omega)
    have q2 := c_part (M := M) (L := bt0 b ++ [32] ++ [100] ++ dgt (drN r b)) (c := 104) (v := duN r b) (by simp only [List.length_append, List.length_cons, List.length_nil]; omega) (by omega) (by omega)
    have q3 := c_putC (M := M) (L := bt0 b ++ [32] ++ [100] ++ dgt (drN r b) ++ [32] ++ [104] ++ dgt (duN r b)) (c := 32) (by simp only [List.length_append, List.length_cons, List.length_nil]; omega) (by omega)
    have q4 := c_loadOf (gL (bt0 b ++ [32] ++ [100] ++ dgt (drN r b) ++ [32] ++ [104] ++ dgt (duN r b) ++ [32])) w hb
    have q5 := c_putNumber (M := M) (v := ldN r b) (L := bt0 b ++ [32] ++ [100] ++ dgt (drN r b) ++ [32] ++ [104] ++ dgt (duN r b) ++ [32]) (by omega) (by simp only [List.length_append, List.length_cons, List.length_nil]; omega)
    have e1 : bt0 b ++ [32] ++ [100] ++ dgt (drN r b) ++ [32] ++ [104] ++ dgt (duN r b) ++ [32] ++ dgt (ldN r b) = bt1 r b := rfl
    rw [e1] at q5
    have l1 := bt1_len r b
    have hne : ¬ r (7 + b) = nI 0 := fun q => by rw [h1] at q; exact absurd q (by decide)
    have eL : btL r b = bt1 r b ++ smL 120 t ++ smL 76 (lkN r b) := by unfold btL; rw [if_neg hne, eN]
    have s0 : ∀ c, smL c 0 = [] := fun c => if_pos rfl
    by_cases t0 : t = 0
    · by_cases k0 : lkN r b = 0
      · rw [k0] at e11
        rw [eL, t0, k0, s0, s0, List.append_nil, List.append_nil]
        rw [t0] at e10
        simp (disch := omega) only [↓reduceIte, eq_self, Bool.true_eq_false, Bool.false_eq_true, q_seqr, q_seql, v_ig, v_ni, v_le, v_nle, v_lt, v_nlt, v_eq, v_ne, v_gbt, v_gbf, v_gbd, v_m1lt, v_m1ge, v_m1ne, v_m1e, ↓q_bindD, ↓q_gLet, Option.isSome_some, Option.getD_some, nI_add, pk_mul, q_sub, q_m1, q_div, q_modN, nI_clamp, if_true, if_false, q_l0, q_l1, q_l2, q_l3, q_l4, q_l5, q_l6, q_l7, q_l8, q_l9, q_l10, q_l11, q_l12, q_l13, q_l14, q_l15, q_l16, q_l19, q_l20, q_l22, q_l24, q_l30, q_l32, q_l34, q_l36, q_l45, q_l47, q_l48, q_l57, q_l58, q_l59, q_l60, q_l61, q_l66, q_l75, q_l76, q_l94, q_l97, q_l99, q_l100, q_l101, q_l104, q_l105, q_l108, q_l109, q_l111, q_l114, q_l115, q_l116, q_l117, q_l118, q_l119, q_l120, q_l126, q_l132, q_l133, q_l135, q_l136, q_l138, q_l146, q_l147, q_l148, q_l149, q_l150, q_l151, q_l152, q_l153, q_l154, q_l155, q_l156, q_l157, q_l158, q_l214, q_l229, q_l244, q_l259, q_l300, q_l999, q_l1813, q_l2072, q_l10000, q_l65536, q_l1000000000, h2, e8, q1, e9, q2, q3, q4, q5, e10, e11]
      · have s1 : smL 76 (lkN r b) = [32] ++ [76] ++ dgt (lkN r b) := if_neg k0
        have q6 := c_part (M := M) (L := bt1 r b) (c := 76) (v := lkN r b) (by omega) (by omega) (by omega)
        rw [eL, t0, s0, s1, List.append_nil, ← List.append_assoc, ← List.append_assoc]
        rw [t0] at e10
        simp (disch := omega) only [↓reduceIte, eq_self, Bool.true_eq_false, Bool.false_eq_true, q_seqr, q_seql, v_ig, v_ni, v_le, v_nle, v_lt, v_nlt, v_eq, v_ne, v_gbt, v_gbf, v_gbd, v_m1lt, v_m1ge, v_m1ne, v_m1e, ↓q_bindD, ↓q_gLet, Option.isSome_some, Option.getD_some, nI_add, pk_mul, q_sub, q_m1, q_div, q_modN, nI_clamp, if_true, if_false, q_l0, q_l1, q_l2, q_l3, q_l4, q_l5, q_l6, q_l7, q_l8, q_l9, q_l10, q_l11, q_l12, q_l13, q_l14, q_l15, q_l16, q_l19, q_l20, q_l22, q_l24, q_l30, q_l32, q_l34, q_l36, q_l45, q_l47, q_l48, q_l57, q_l58, q_l59, q_l60, q_l61, q_l66, q_l75, q_l76, q_l94, q_l97, q_l99, q_l100, q_l101, q_l104, q_l105, q_l108, q_l109, q_l111, q_l114, q_l115, q_l116, q_l117, q_l118, q_l119, q_l120, q_l126, q_l132, q_l133, q_l135, q_l136, q_l138, q_l146, q_l147, q_l148, q_l149, q_l150, q_l151, q_l152, q_l153, q_l154, q_l155, q_l156, q_l157, q_l158, q_l214, q_l229, q_l244, q_l259, q_l300, q_l999, q_l1813, q_l2072, q_l10000, q_l65536, q_l1000000000, h2, e8, q1, e9, q2, q3, q4, q5, e10, e11, q6]
    · have s2 : smL 120 t = [32] ++ [120] ++ dgt t := if_neg t0
      have q6 := c_part (M := M) (L := bt1 r b) (c := 120) (v := t) (by omega) (by omega) (by omega)
      have d3 := dgt_len t
      by_cases k0 : lkN r b = 0
      · rw [k0] at e11
        rw [eL, k0, s0, s2, List.append_nil, ← List.append_assoc, ← List.append_assoc]
        simp (disch := omega) only [↓reduceIte, eq_self, Bool.true_eq_false, Bool.false_eq_true, q_seqr, q_seql, v_ig, v_ni, v_le, v_nle, v_lt, v_nlt, v_eq, v_ne, v_gbt, v_gbf, v_gbd, v_m1lt, v_m1ge, v_m1ne, v_m1e, ↓q_bindD, ↓q_gLet, Option.isSome_some, Option.getD_some, nI_add, pk_mul, q_sub, q_m1, q_div, q_modN, nI_clamp, if_true, if_false, q_l0, q_l1, q_l2, q_l3, q_l4, q_l5, q_l6, q_l7, q_l8, q_l9, q_l10, q_l11, q_l12, q_l13, q_l14, q_l15, q_l16, q_l19, q_l20, q_l22, q_l24, q_l30, q_l32, q_l34, q_l36, q_l45, q_l47, q_l48, q_l57, q_l58, q_l59, q_l60, q_l61, q_l66, q_l75, q_l76, q_l94, q_l97, q_l99, q_l100, q_l101, q_l104, q_l105, q_l108, q_l109, q_l111, q_l114, q_l115, q_l116, q_l117, q_l118, q_l119, q_l120, q_l126, q_l132, q_l133, q_l135, q_l136, q_l138, q_l146, q_l147, q_l148, q_l149, q_l150, q_l151, q_l152, q_l153, q_l154, q_l155, q_l156, q_l157, q_l158, q_l214, q_l229, q_l244, q_l259, q_l300, q_l999, q_l1813, q_l2072, q_l10000, q_l65536, q_l1000000000, h2, e8, q1, e9, q2, q3, q4, q5, e10, e11, q6]
      · have s1 : smL 76 (lkN r b) = [32] ++ [76] ++ dgt (lkN r b) := if_neg k0
        have q7 := c_part (M := M) (L := bt1 r b ++ [32] ++ [120] ++ dgt t) (c := 76) (v := lkN r b) (by simp only [List.length_append, List.length_cons, List.length_nil]; omega) (by omega) (by omega)
        rw [eL, s2, s1, ← List.append_assoc, ← List.append_assoc, ← List.append_assoc, ← List.append_assoc]
        simp (disch := omega) only [↓reduceIte, eq_self, Bool.true_eq_false, Bool.false_eq_true, q_seqr, q_seql, v_ig, v_ni, v_le, v_nle, v_lt, v_nlt, v_eq, v_ne, v_gbt, v_gbf, v_gbd, v_m1lt, v_m1ge, v_m1ne, v_m1e, ↓q_bindD, ↓q_gLet, Option.isSome_some, Option.getD_some, nI_add, pk_mul, q_sub, q_m1, q_div, q_modN, nI_clamp, if_true, if_false, q_l0, q_l1, q_l2, q_l3, q_l4, q_l5, q_l6, q_l7, q_l8, q_l9, q_l10, q_l11, q_l12, q_l13, q_l14, q_l15, q_l16, q_l19, q_l20, q_l22, q_l24, q_l30, q_l32, q_l34, q_l36, q_l45, q_l47, q_l48, q_l57, q_l58, q_l59, q_l60, q_l61, q_l66, q_l75, q_l76, q_l94, q_l97, q_l99, q_l100, q_l101, q_l104, q_l105, q_l108, q_l109, q_l111, q_l114, q_l115, q_l116, q_l117, q_l118, q_l119, q_l120, q_l126, q_l132, q_l133, q_l135, q_l136, q_l138, q_l146, q_l147, q_l148, q_l149, q_l150, q_l151, q_l152, q_l153, q_l154, q_l155, q_l156, q_l157, q_l158, q_l214, q_l229, q_l244, q_l259, q_l300, q_l999, q_l1813, q_l2072, q_l10000, q_l65536, q_l1000000000, h2, e8, q1, e9, q2, q3, q4, q5, e10, e11, q6, q7]
theorem m_writeBerth (hM : M 151 = r) (w : gRow β r) (hβ : β ≤ 600) {b : Nat} (hb : b < 3) : f_X7_formatBerth (nI b) M = some (nI (btL r b).length, gs (mW M (btL r b)) 150 13 (nI 0)) := by
  have mM : ∀ L, mW M L 151 = r := fun L => by rw [mW_o (by omega) (by omega)]; exact hM
  have p1 := m_putC (M := M) (L := []) (c := 66) (by simp) (by omega)
  have p2 := m_putNumber (M := M) (v := b) (L := [] ++ [66]) (by omega) (by simp)
  have e0 : [] ++ [66] ++ dgt b = bt0 b := rfl
  rw [e0] at p2
  have l0 := bt0_len b
  unfold f_X7_formatBerth
  rw [m_isBerth hb, Option.bind_some, if_neg (show ¬ gb true = 0 by decide), q_gLet, show (0 : Int32) = nI 0 from rfl, mW_nil, q_l66, p1, Option.bind_some, p2, Option.bind_some]
  rcases w.b hb with h1 | ⟨h1, -⟩
  · have p3 := m_putC (M := M) (L := bt0 b) (c := 32) (by omega) (by omega)
    have p4 := m_putC (M := M) (L := bt0 b ++ [32]) (c := 45) (by simp only [List.length_append, List.length_cons, List.length_nil]; omega) (by omega)
    have eL : btL r b = bt0 b ++ [32] ++ [45] := if_pos h1
    rw [eL]
    simp (disch := omega) only [↓reduceIte, eq_self, Bool.true_eq_false, Bool.false_eq_true, q_seqr, q_seql, v_ig, v_ni, v_le, v_nle, v_lt, v_nlt, v_eq, v_ne, v_gbt, v_gbf, v_gbd, v_m1lt, v_m1ge, v_m1ne, v_m1e, ↓q_bindD, ↓q_gLet, Option.isSome_some, Option.getD_some, nI_add, pk_mul, q_sub, q_m1, q_div, q_modN, nI_clamp, if_true, if_false, q_l0, q_l1, q_l2, q_l3, q_l4, q_l5, q_l6, q_l7, q_l8, q_l9, q_l10, q_l11, q_l12, q_l13, q_l14, q_l15, q_l16, q_l19, q_l20, q_l22, q_l24, q_l30, q_l32, q_l34, q_l36, q_l45, q_l47, q_l48, q_l57, q_l58, q_l59, q_l60, q_l61, q_l66, q_l75, q_l76, q_l94, q_l97, q_l99, q_l100, q_l101, q_l104, q_l105, q_l108, q_l109, q_l111, q_l114, q_l115, q_l116, q_l117, q_l118, q_l119, q_l120, q_l126, q_l132, q_l133, q_l135, q_l136, q_l138, q_l146, q_l147, q_l148, q_l149, q_l150, q_l151, q_l152, q_l153, q_l154, q_l155, q_l156, q_l157, q_l158, q_l214, q_l229, q_l244, q_l259, q_l300, q_l999, q_l1813, q_l2072, q_l10000, q_l65536, q_l1000000000, mM, h1, p3, p4, m_done, mW_n]
  · have a := w.ship hβ hb h1
    obtain ⟨a1, a2, a3, a4, a5⟩ := a
    have tl := w.tl hb
    obtain ⟨t, l, t1, t2, -, -⟩ := tl
    have lk := lk_eq w hb
    have l20 := ldN_le w hb
    have eN : rN r (16 + b) = t := by unfold rN; rw [t1]; exact nI_clamp (by omega)
    have d1 := dgt_len (drN r b)
    have d2 := dgt_len (duN r b)
    have q1 := m_part (M := M) (L := bt0 b) (c := 100) (v := drN r b) (by omega) (by omega) (by omega) (by omega)
    have q2 := m_part (M := M) (L := bt0 b ++ [32] ++ [100] ++ dgt (drN r b)) (c := 104) (v := duN r b) (by simp only [List.length_append, List.length_cons, List.length_nil]; omega) (by omega) (by omega) (by omega)
    have q4 := m_load (M := mW M (bt0 b ++ [32] ++ [100] ++ dgt (drN r b) ++ [32] ++ [104] ++ dgt (duN r b))) (β := β) (by rw [mM]; exact w) hb
    rw [mM] at q4
    have q5 := m_part0 (M := M) (v := ldN r b) (L := bt0 b ++ [32] ++ [100] ++ dgt (drN r b) ++ [32] ++ [104] ++ dgt (duN r b)) (by simp only [List.length_append, List.length_cons, List.length_nil]; omega) (by omega)
    have e1 : bt0 b ++ [32] ++ [100] ++ dgt (drN r b) ++ [32] ++ [104] ++ dgt (duN r b) ++ [32] ++ dgt (ldN r b) = bt1 r b := rfl
    rw [e1] at q5
    have l1 := bt1_len r b
    have hne : ¬ r (7 + b) = nI 0 := fun q => by rw [h1] at q; exact absurd q (by decide)
    have eL : btL r b = bt1 r b ++ smL 120 t ++ smL 76 (lkN r b) := by unfold btL; rw [if_neg hne, eN]
    have s0 : ∀ c, smL c 0 = [] := fun c => if_pos rfl
    by_cases t0 : t = 0
    · rw [t0] at t1
      by_cases k0 : lkN r b = 0
      · have lk1 := lk.1
        rw [k0] at lk1
        rw [eL, t0, k0, s0, s0, List.append_nil, List.append_nil]
        simp (disch := omega) only [↓reduceIte, eq_self, Bool.true_eq_false, Bool.false_eq_true, q_seqr, q_seql, v_ig, v_ni, v_le, v_nle, v_lt, v_nlt, v_eq, v_ne, v_gbt, v_gbf, v_gbd, v_m1lt, v_m1ge, v_m1ne, v_m1e, ↓q_bindD, ↓q_gLet, Option.isSome_some, Option.getD_some, nI_add, pk_mul, q_sub, q_m1, q_div, q_modN, nI_clamp, if_true, if_false, q_l0, q_l1, q_l2, q_l3, q_l4, q_l5, q_l6, q_l7, q_l8, q_l9, q_l10, q_l11, q_l12, q_l13, q_l14, q_l15, q_l16, q_l19, q_l20, q_l22, q_l24, q_l30, q_l32, q_l34, q_l36, q_l45, q_l47, q_l48, q_l57, q_l58, q_l59, q_l60, q_l61, q_l66, q_l75, q_l76, q_l94, q_l97, q_l99, q_l100, q_l101, q_l104, q_l105, q_l108, q_l109, q_l111, q_l114, q_l115, q_l116, q_l117, q_l118, q_l119, q_l120, q_l126, q_l132, q_l133, q_l135, q_l136, q_l138, q_l146, q_l147, q_l148, q_l149, q_l150, q_l151, q_l152, q_l153, q_l154, q_l155, q_l156, q_l157, q_l158, q_l214, q_l229, q_l244, q_l259, q_l300, q_l999, q_l1813, q_l2072, q_l10000, q_l65536, q_l1000000000, mM, h1, a1, q1, a4, q2, q4, q5, t1, lk1, m_done, mW_n]
      · have s1 : smL 76 (lkN r b) = [32] ++ [76] ++ dgt (lkN r b) := if_neg k0
        have q6 := m_part (M := M) (L := bt1 r b) (c := 76) (v := lkN r b) (by omega) (by omega) (by omega) (by omega)
        rw [eL, t0, s0, s1, List.append_nil, ← List.append_assoc, ← List.append_assoc]
        simp (disch := omega) only [↓reduceIte, eq_self, Bool.true_eq_false, Bool.false_eq_true, q_seqr, q_seql, v_ig, v_ni, v_le, v_nle, v_lt, v_nlt, v_eq, v_ne, v_gbt, v_gbf, v_gbd, v_m1lt, v_m1ge, v_m1ne, v_m1e, ↓q_bindD, ↓q_gLet, Option.isSome_some, Option.getD_some, nI_add, pk_mul, q_sub, q_m1, q_div, q_modN, nI_clamp, if_true, if_false, q_l0, q_l1, q_l2, q_l3, q_l4, q_l5, q_l6, q_l7, q_l8, q_l9, q_l10, q_l11, q_l12, q_l13, q_l14, q_l15, q_l16, q_l19, q_l20, q_l22, q_l24, q_l30, q_l32, q_l34, q_l36, q_l45, q_l47, q_l48, q_l57, q_l58, q_l59, q_l60, q_l61, q_l66, q_l75, q_l76, q_l94, q_l97, q_l99, q_l100, q_l101, q_l104, q_l105, q_l108, q_l109, q_l111, q_l114, q_l115, q_l116, q_l117, q_l118, q_l119, q_l120, q_l126, q_l132, q_l133, q_l135, q_l136, q_l138, q_l146, q_l147, q_l148, q_l149, q_l150, q_l151, q_l152, q_l153, q_l154, q_l155, q_l156, q_l157, q_l158, q_l214, q_l229, q_l244, q_l259, q_l300, q_l999, q_l1813, q_l2072, q_l10000, q_l65536, q_l1000000000, mM, h1, a1, q1, a4, q2, q4, q5, t1, lk.1, q6, m_done, mW_n]
    · have s2 : smL 120 t = [32] ++ [120] ++ dgt t := if_neg t0
      have q6 := m_part (M := M) (L := bt1 r b) (c := 120) (v := t) (by omega) (by omega) (by omega) (by omega)
      have d3 := dgt_len t
      by_cases k0 : lkN r b = 0
      · have lk1 := lk.1
        rw [k0] at lk1
        rw [eL, k0, s0, s2, List.append_nil, ← List.append_assoc, ← List.append_assoc]
        simp (disch := omega) only [↓reduceIte, eq_self, Bool.true_eq_false, Bool.false_eq_true, q_seqr, q_seql, v_ig, v_ni, v_le, v_nle, v_lt, v_nlt, v_eq, v_ne, v_gbt, v_gbf, v_gbd, v_m1lt, v_m1ge, v_m1ne, v_m1e, ↓q_bindD, ↓q_gLet, Option.isSome_some, Option.getD_some, nI_add, pk_mul, q_sub, q_m1, q_div, q_modN, nI_clamp, if_true, if_false, q_l0, q_l1, q_l2, q_l3, q_l4, q_l5, q_l6, q_l7, q_l8, q_l9, q_l10, q_l11, q_l12, q_l13, q_l14, q_l15, q_l16, q_l19, q_l20, q_l22, q_l24, q_l30, q_l32, q_l34, q_l36, q_l45, q_l47, q_l48, q_l57, q_l58, q_l59, q_l60, q_l61, q_l66, q_l75, q_l76, q_l94, q_l97, q_l99, q_l100, q_l101, q_l104, q_l105, q_l108, q_l109, q_l111, q_l114, q_l115, q_l116, q_l117, q_l118, q_l119, q_l120, q_l126, q_l132, q_l133, q_l135, q_l136, q_l138, q_l146, q_l147, q_l148, q_l149, q_l150, q_l151, q_l152, q_l153, q_l154, q_l155, q_l156, q_l157, q_l158, q_l214, q_l229, q_l244, q_l259, q_l300, q_l999, q_l1813, q_l2072, q_l10000, q_l65536, q_l1000000000, mM, h1, a1, q1, a4, q2, q4, q5, t1, lk1, q6, m_done, mW_n]
      · have s1 : smL 76 (lkN r b) = [32] ++ [76] ++ dgt (lkN r b) := if_neg k0
        have q7 := m_part (M := M) (L := bt1 r b ++ [32] ++ [120] ++ dgt t) (c := 76) (v := lkN r b) (by simp only [List.length_append, List.length_cons, List.length_nil]; omega) (by omega) (by omega) (by omega)
        rw [eL, s2, s1, ← List.append_assoc, ← List.append_assoc, ← List.append_assoc, ← List.append_assoc]
        simp (disch := omega) only [↓reduceIte, eq_self, Bool.true_eq_false, Bool.false_eq_true, q_seqr, q_seql, v_ig, v_ni, v_le, v_nle, v_lt, v_nlt, v_eq, v_ne, v_gbt, v_gbf, v_gbd, v_m1lt, v_m1ge, v_m1ne, v_m1e, ↓q_bindD, ↓q_gLet, Option.isSome_some, Option.getD_some, nI_add, pk_mul, q_sub, q_m1, q_div, q_modN, nI_clamp, if_true, if_false, q_l0, q_l1, q_l2, q_l3, q_l4, q_l5, q_l6, q_l7, q_l8, q_l9, q_l10, q_l11, q_l12, q_l13, q_l14, q_l15, q_l16, q_l19, q_l20, q_l22, q_l24, q_l30, q_l32, q_l34, q_l36, q_l45, q_l47, q_l48, q_l57, q_l58, q_l59, q_l60, q_l61, q_l66, q_l75, q_l76, q_l94, q_l97, q_l99, q_l100, q_l101, q_l104, q_l105, q_l108, q_l109, q_l111, q_l114, q_l115, q_l116, q_l117, q_l118, q_l119, q_l120, q_l126, q_l132, q_l133, q_l135, q_l136, q_l138, q_l146, q_l147, q_l148, q_l149, q_l150, q_l151, q_l152, q_l153, q_l154, q_l155, q_l156, q_l157, q_l158, q_l214, q_l229, q_l244, q_l259, q_l300, q_l999, q_l1813, q_l2072, q_l10000, q_l65536, q_l1000000000, mM, h1, a1, q1, a4, q2, q4, q5, t1, lk.1, q6, q7, m_done, mW_n]
end PB
theorem K_formatBerth (v : Int32) : gCl kO (f_X6_formatBerth v) (f_X7_formatBerth v) := by
  intro k M hk hI
  obtain ⟨t, ht, tie, x⟩ := id hI
  have g := tie.1
  have w := tie.2.1
  rcases q_cases v 3 with ⟨b, hb, rfl⟩ | hv
  · have hw := c_writeBerth g w (by omega) hb
    have hf : f_X6_formatBerth (nI b) M = some (.inr (nI (btL (M 151) b).length), cW M (btL (M 151) b)) := by
      unfold f_X6_formatBerth f_X6_requireBerth
      simp (disch := omega) only [↓reduceIte, eq_self, Bool.true_eq_false, Bool.false_eq_true, q_seqr, q_seql, v_ig, v_ni, v_le, v_nle, v_lt, v_nlt, v_eq, v_ne, v_gbt, v_gbf, v_gbd, v_m1lt, v_m1ge, v_m1ne, v_m1e, ↓q_bindD, ↓q_gLet, Option.isSome_some, Option.getD_some, nI_add, pk_mul, q_sub, q_m1, q_div, q_modN, nI_clamp, if_true, if_false, q_l0, q_l1, q_l2, q_l3, q_l4, q_l5, q_l6, q_l7, q_l8, q_l9, q_l10, q_l11, q_l12, q_l13, q_l14, q_l15, q_l16, q_l19, q_l20, q_l22, q_l24, q_l30, q_l32, q_l34, q_l36, q_l45, q_l47, q_l48, q_l57, q_l58, q_l59, q_l60, q_l61, q_l66, q_l75, q_l76, q_l94, q_l97, q_l99, q_l100, q_l101, q_l104, q_l105, q_l108, q_l109, q_l111, q_l114, q_l115, q_l116, q_l117, q_l118, q_l119, q_l120, q_l126, q_l132, q_l133, q_l135, q_l136, q_l138, q_l146, q_l147, q_l148, q_l149, q_l150, q_l151, q_l152, q_l153, q_l154, q_l155, q_l156, q_l157, q_l158, q_l214, q_l229, q_l244, q_l259, q_l300, q_l999, q_l1813, q_l2072, q_l10000, q_l65536, q_l1000000000, c_isBerth hb, c_raise0, hw, cW_n]
    have e151 : cW M (btL (M 151) b) 151 = M 151 := cW_o (by omega) (by omega)
    have hm := m_writeBerth e151 w (by omega) hb
    have hl := btL_len (M 151) b
    exact ⟨_, _, _, _, _, hf, hm, q_gss rfl, gAns_r, line_inv hI (by omega) (btL_lt _ _)⟩
  · refine ⟨.inl "java/lang/IndexOutOfBoundsException", M, nI 1, nI 0, gs M 150 13 (nI 1), ?_, ?_, q_gss rfl, gAns_l 0 rfl, gInv_q hI (fun _ _ _ _ => rfl)⟩
    · unfold f_X6_formatBerth f_X6_requireBerth
      simp (disch := omega) only [↓reduceIte, eq_self, Bool.true_eq_false, Bool.false_eq_true, q_seqr, q_seql, v_ig, v_ni, v_le, v_nle, v_lt, v_nlt, v_eq, v_ne, v_gbt, v_gbf, v_gbd, v_m1lt, v_m1ge, v_m1ne, v_m1e, ↓q_bindD, ↓q_gLet, Option.isSome_some, Option.getD_some, nI_add, pk_mul, q_sub, q_m1, q_div, q_modN, nI_clamp, if_true, if_false, q_l0, q_l1, q_l2, q_l3, q_l4, q_l5, q_l6, q_l7, q_l8, q_l9, q_l10, q_l11, q_l12, q_l13, q_l14, q_l15, q_l16, q_l19, q_l20, q_l22, q_l24, q_l30, q_l32, q_l34, q_l36, q_l45, q_l47, q_l48, q_l57, q_l58, q_l59, q_l60, q_l61, q_l66, q_l75, q_l76, q_l94, q_l97, q_l99, q_l100, q_l101, q_l104, q_l105, q_l108, q_l109, q_l111, q_l114, q_l115, q_l116, q_l117, q_l118, q_l119, q_l120, q_l126, q_l132, q_l133, q_l135, q_l136, q_l138, q_l146, q_l147, q_l148, q_l149, q_l150, q_l151, q_l152, q_l153, q_l154, q_l155, q_l156, q_l157, q_l158, q_l214, q_l229, q_l244, q_l259, q_l300, q_l999, q_l1813, q_l2072, q_l10000, q_l65536, q_l1000000000, c_isBerth_n hv, c_raise1]
    · unfold f_X7_formatBerth
      simp (disch := omega) only [↓reduceIte, eq_self, Bool.true_eq_false, Bool.false_eq_true, q_seqr, q_seql, v_ig, v_ni, v_le, v_nle, v_lt, v_nlt, v_eq, v_ne, v_gbt, v_gbf, v_gbd, v_m1lt, v_m1ge, v_m1ne, v_m1e, ↓q_bindD, ↓q_gLet, Option.isSome_some, Option.getD_some, nI_add, pk_mul, q_sub, q_m1, q_div, q_modN, nI_clamp, if_true, if_false, q_l0, q_l1, q_l2, q_l3, q_l4, q_l5, q_l6, q_l7, q_l8, q_l9, q_l10, q_l11, q_l12, q_l13, q_l14, q_l15, q_l16, q_l19, q_l20, q_l22, q_l24, q_l30, q_l32, q_l34, q_l36, q_l45, q_l47, q_l48, q_l57, q_l58, q_l59, q_l60, q_l61, q_l66, q_l75, q_l76, q_l94, q_l97, q_l99, q_l100, q_l101, q_l104, q_l105, q_l108, q_l109, q_l111, q_l114, q_l115, q_l116, q_l117, q_l118, q_l119, q_l120, q_l126, q_l132, q_l133, q_l135, q_l136, q_l138, q_l146, q_l147, q_l148, q_l149, q_l150, q_l151, q_l152, q_l153, q_l154, q_l155, q_l156, q_l157, q_l158, q_l214, q_l229, q_l244, q_l259, q_l300, q_l999, q_l1813, q_l2072, q_l10000, q_l65536, q_l1000000000, m_done, m_fails, m_thrown, m_th, gs_same, q_gsgs, c_raise0, c_raise1, c_raise2, c_raise3, c_raise4, m_isBerth_n hv]
