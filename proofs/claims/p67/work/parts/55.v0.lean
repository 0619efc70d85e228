/-! The parser, once for both sides: what is read from a text, and the class's reading. -/
def isD (tx : Nat → Nat) (t p : Nat) : Prop := p < t ∧ 48 ≤ tx p ∧ tx p ≤ 57
def dN (tx : Nat → Nat) (t : Nat) : Nat → Nat → Nat → Nat × Nat
  | 0, p, v => (v, p)
  | m + 1, p, v => if p < t ∧ 48 ≤ tx p ∧ tx p ≤ 57 then dN tx t m (p + 1) (v * 10 + (tx p - 48)) else (v, p)
/-- items: (0, c) a character; (k + 1, _) a number of up to k + 1 digits -/
def pI (tx : Nat → Nat) (t : Nat) : List (Nat × Nat) → Nat → List Nat → Bool × Nat × List Nat
  | [], p, vs => (true, p, vs)
  | (0, c) :: r, p, vs => if p < t ∧ tx p = c then pI tx t r (p + 1) vs else (false, p, vs)
  | (k + 1, _) :: r, p, vs => if p < t ∧ 48 ≤ tx p ∧ tx p ≤ 57 then pI tx t r (dN tx t (k + 1) p 0).2 (vs ++ [(dN tx t (k + 1) p 0).1]) else (false, p, vs)
def cX : Nat → List (Nat × Nat) → gM → Option (Bool × gM)
  | _, [], M => some (true, M)
  | i, (0, c) :: r, M => (f_X2_read (nI c) M).bind fun q => if gb q.1 = 0 then some (false, q.2) else cX i r q.2
  | i, (1, _) :: r, M => (f_X2_readDigit (nI i) M).bind fun q => if gb q.1 = 0 then some (false, q.2) else cX (i + 1) r q.2
  | i, (_ + 2, _) :: r, M => (f_X2_readNumber (nI i) M).bind fun q => if gb q.1 = 0 then some (false, q.2) else cX (i + 1) r q.2
theorem dN_val (tx : Nat → Nat) (t : Nat) : ∀ m p v, (dN tx t m p v).1 < (v + 1) * 10 ^ m ∧ p ≤ (dN tx t m p v).2 := by
  intro m
  induction m with
  | zero => intro p v; exact ⟨by show v < (v + 1) * 1; omega, Nat.le_refl _⟩
  | succ m ih =>
    intro p v
    rw [dN]
    split
    · rename_i h
      have := ih (p + 1) (v * 10 + (tx p - 48))
      refine ⟨Nat.lt_of_lt_of_le this.1 ?_, by omega⟩
      rw [Nat.pow_succ]
      have e : (v + 1) * (10 ^ m * 10) = (v * 10 + 10) * 10 ^ m := by
        rw [Nat.mul_comm (10 ^ m) 10, ← Nat.mul_assoc]
        congr 1
        omega
      rw [e]
      exact Nat.mul_le_mul_right _ (by omega)
    · refine ⟨?_, Nat.le_refl _⟩
      have := Nat.pow_pos (n := m + 1) (show 0 < 10 by omega)
      exact Nat.lt_of_lt_of_le (Nat.lt_succ_self v) (Nat.le_mul_of_pos_right _ this)
/-- the class's text, and where it reads -/
def tS (S : gM) (tx : Nat → Nat) (t p : Nat) : Prop := S 146 1 = nI t ∧ S 146 2 = nI p ∧ (∀ i, i < t → S 147 i = nI (tx i) ∧ tx i < 128) ∧ t ≤ 60 ∧ p ≤ t
section RC
variable {S : gM} {tx : Nat → Nat} {t p : Nat}
theorem c_next (h : tS S tx t p) : f_X2_nextChar S = some (if p < t then nI (tx p) else nI 0) := by
  obtain ⟨h1, h2, h3, h4, h5⟩ := h
  unfold f_X2_nextChar
  by_cases hp : p < t
  · obtain ⟨a, b⟩ := h3 p hp
    rw [if_pos hp]
    simp (disch := omega) only [↓reduceIte, eq_self, Bool.true_eq_false, Bool.false_eq_true, q_seqr, q_seql, v_ig, v_ni, v_le, v_nle, v_lt, v_nlt, v_eq, v_ne, v_gbt, v_gbf, v_gbd, v_m1lt, v_m1ge, v_m1ne, v_m1e, ↓q_bindD, ↓q_gLet, Option.isSome_some, Option.getD_some, nI_add, pk_mul, q_sub, q_m1, q_div, q_modN, nI_clamp, if_true, if_false, q_l0, q_l1, q_l2, q_l3, q_l4, q_l5, q_l6, q_l7, q_l8, q_l9, q_l10, q_l11, q_l12, q_l13, q_l14, q_l15, q_l16, q_l19, q_l20, q_l22, q_l24, q_l30, q_l32, q_l34, q_l36, q_l45, q_l47, q_l48, q_l57, q_l58, q_l59, q_l60, q_l61, q_l66, q_l75, q_l76, q_l94, q_l97, q_l99, q_l100, q_l101, q_l104, q_l105, q_l108, q_l109, q_l111, q_l114, q_l115, q_l116, q_l117, q_l118, q_l119, q_l120, q_l126, q_l132, q_l133, q_l135, q_l136, q_l138, q_l146, q_l147, q_l148, q_l149, q_l150, q_l151, q_l152, q_l153, q_l154, q_l155, q_l156, q_l157, q_l158, q_l214, q_l229, q_l244, q_l259, q_l300, q_l999, q_l1813, q_l2072, q_l10000, q_l65536, q_l1000000000, h1, h2, a]
  · rw [if_neg hp]
    simp (disch := omega) only [↓reduceIte, eq_self, Bool.true_eq_false, Bool.false_eq_true, q_seqr, q_seql, v_ig, v_ni, v_le, v_nle, v_lt, v_nlt, v_eq, v_ne, v_gbt, v_gbf, v_gbd, v_m1lt, v_m1ge, v_m1ne, v_m1e, ↓q_bindD, ↓q_gLet, Option.isSome_some, Option.getD_some, nI_add, pk_mul, q_sub, q_m1, q_div, q_modN, nI_clamp, if_true, if_false, q_l0, q_l1, q_l2, q_l3, q_l4, q_l5, q_l6, q_l7, q_l8, q_l9, q_l10, q_l11, q_l12, q_l13, q_l14, q_l15, q_l16, q_l19, q_l20, q_l22, q_l24, q_l30, q_l32, q_l34, q_l36, q_l45, q_l47, q_l48, q_l57, q_l58, q_l59, q_l60, q_l61, q_l66, q_l75, q_l76, q_l94, q_l97, q_l99, q_l100, q_l101, q_l104, q_l105, q_l108, q_l109, q_l111, q_l114, q_l115, q_l116, q_l117, q_l118, q_l119, q_l120, q_l126, q_l132, q_l133, q_l135, q_l136, q_l138, q_l146, q_l147, q_l148, q_l149, q_l150, q_l151, q_l152, q_l153, q_l154, q_l155, q_l156, q_l157, q_l158, q_l214, q_l229, q_l244, q_l259, q_l300, q_l999, q_l1813, q_l2072, q_l10000, q_l65536, q_l1000000000, h1, h2]
theorem c_read (h : tS S tx t p) {c : Nat} (hc0 : 0 < c) (hc : c < 128) : f_X2_read (nI c) S = if p < t ∧ tx p = c then some (true, gs S 146 2 (nI (p + 1))) else some (false, S) := by
  have hn := c_next h
  obtain ⟨h1, h2, h3, h4, h5⟩ := h
  unfold f_X2_read
  by_cases q : p < t ∧ tx p = c
  · rw [if_pos q]
    rw [if_pos q.1, q.2] at hn
    simp (disch := omega) only [↓reduceIte, eq_self, Bool.true_eq_false, Bool.false_eq_true, q_seqr, q_seql, v_ig, v_ni, v_le, v_nle, v_lt, v_nlt, v_eq, v_ne, v_gbt, v_gbf, v_gbd, v_m1lt, v_m1ge, v_m1ne, v_m1e, ↓q_bindD, ↓q_gLet, Option.isSome_some, Option.getD_some, nI_add, pk_mul, q_sub, q_m1, q_div, q_modN, nI_clamp, if_true, if_false, q_l0, q_l1, q_l2, q_l3, q_l4, q_l5, q_l6, q_l7, q_l8, q_l9, q_l10, q_l11, q_l12, q_l13, q_l14, q_l15, q_l16, q_l19, q_l20, q_l22, q_l24, q_l30, q_l32, q_l34, q_l36, q_l45, q_l47, q_l48, q_l57, q_l58, q_l59, q_l60, q_l61, q_l66, q_l75, q_l76, q_l94, q_l97, q_l99, q_l100, q_l101, q_l104, q_l105, q_l108, q_l109, q_l111, q_l114, q_l115, q_l116, q_l117, q_l118, q_l119, q_l120, q_l126, q_l132, q_l133, q_l135, q_l136, q_l138, q_l146, q_l147, q_l148, q_l149, q_l150, q_l151, q_l152, q_l153, q_l154, q_l155, q_l156, q_l157, q_l158, q_l214, q_l229, q_l244, q_l259, q_l300, q_l999, q_l1813, q_l2072, q_l10000, q_l65536, q_l1000000000, hn, h2]
  · rw [if_neg q]
    by_cases hp : p < t
    · have hx := (h3 p hp).2
      have hx2 : ¬ tx p = c := fun z => q ⟨hp, z⟩
      rw [if_pos hp] at hn
      simp (disch := omega) only [↓reduceIte, eq_self, Bool.true_eq_false, Bool.false_eq_true, q_seqr, q_seql, v_ig, v_ni, v_le, v_nle, v_lt, v_nlt, v_eq, v_ne, v_gbt, v_gbf, v_gbd, v_m1lt, v_m1ge, v_m1ne, v_m1e, ↓q_bindD, ↓q_gLet, Option.isSome_some, Option.getD_some, nI_add, pk_mul, q_sub, q_m1, q_div, q_modN, nI_clamp, if_true, if_false, q_l0, q_l1, q_l2, q_l3, q_l4, q_l5, q_l6, q_l7, q_l8, q_l9, q_l10, q_l11, q_l12, q_l13, q_l14, q_l15, q_l16, q_l19, q_l20, q_l22, q_l24, q_l30, q_l32, q_l34, q_l36, q_l45, q_l47, q_l48, q_l57, q_l58, q_l59, q_l60, q_l61, q_l66, q_l75, q_l76, q_l94, q_l97, q_l99, q_l100, q_l101, q_l104, q_l105, q_l108, q_l109, q_l111, q_l114, q_l115, q_l116, q_l117, q_l118, q_l119, q_l120, q_l126, q_l132, q_l133, q_l135, q_l136, q_l138, q_l146, q_l147, q_l148, q_l149, q_l150, q_l151, q_l152, q_l153, q_l154, q_l155, q_l156, q_l157, q_l158, q_l214, q_l229, q_l244, q_l259, q_l300, q_l999, q_l1813, q_l2072, q_l10000, q_l65536, q_l1000000000, hn]
    · rw [if_neg hp] at hn
      simp (disch := omega) only [↓reduceIte, eq_self, Bool.true_eq_false, Bool.false_eq_true, q_seqr, q_seql, v_ig, v_ni, v_le, v_nle, v_lt, v_nlt, v_eq, v_ne, v_gbt, v_gbf, v_gbd, v_m1lt, v_m1ge, v_m1ne, v_m1e, ↓q_bindD, ↓q_gLet, Option.isSome_some, Option.getD_some, nI_add, pk_mul, q_sub, q_m1, q_div, q_modN, nI_clamp, if_true, if_false, q_l0, q_l1, q_l2, q_l3, q_l4, q_l5, q_l6, q_l7, q_l8, q_l9, q_l10, q_l11, q_l12, q_l13, q_l14, q_l15, q_l16, q_l19, q_l20, q_l22, q_l24, q_l30, q_l32, q_l34, q_l36, q_l45, q_l47, q_l48, q_l57, q_l58, q_l59, q_l60, q_l61, q_l66, q_l75, q_l76, q_l94, q_l97, q_l99, q_l100, q_l101, q_l104, q_l105, q_l108, q_l109, q_l111, q_l114, q_l115, q_l116, q_l117, q_l118, q_l119, q_l120, q_l126, q_l132, q_l133, q_l135, q_l136, q_l138, q_l146, q_l147, q_l148, q_l149, q_l150, q_l151, q_l152, q_l153, q_l154, q_l155, q_l156, q_l157, q_l158, q_l214, q_l229, q_l244, q_l259, q_l300, q_l999, q_l1813, q_l2072, q_l10000, q_l65536, q_l1000000000, hn]
theorem c_isDig (h : tS S tx t p) : f_X2_nextIsDigit S = some (decide (p < t ∧ 48 ≤ tx p ∧ tx p ≤ 57)) := by
  have hn := c_next h
  obtain ⟨h1, h2, h3, h4, h5⟩ := h
  unfold f_X2_nextIsDigit
  by_cases hp : p < t
  · have hx := (h3 p hp).2
    rw [if_pos hp] at hn
    by_cases a : 48 ≤ tx p
    · by_cases b : tx p ≤ 57
      · rw [decide_eq_true ⟨hp, a, b⟩]
        simp (disch := omega) only [↓reduceIte, eq_self, Bool.true_eq_false, Bool.false_eq_true, q_seqr, q_seql, v_ig, v_ni, v_le, v_nle, v_lt, v_nlt, v_eq, v_ne, v_gbt, v_gbf, v_gbd, v_m1lt, v_m1ge, v_m1ne, v_m1e, ↓q_bindD, ↓q_gLet, Option.isSome_some, Option.getD_some, nI_add, pk_mul, q_sub, q_m1, q_div, q_modN, nI_clamp, if_true, if_false, q_l0, q_l1, q_l2, q_l3, q_l4, q_l5, q_l6, q_l7, q_l8, q_l9, q_l10, q_l11, q_l12, q_l13, q_l14, q_l15, q_l16, q_l19, q_l20, q_l22, q_l24, q_l30, q_l32, q_l34, q_l36, q_l45, q_l47, q_l48, q_l57, q_l58, q_l59, q_l60, q_l61, q_l66, q_l75, q_l76, q_l94, q_l97, q_l99, q_l100, q_l101, q_l104, q_l105, q_l108, q_l109, q_l111, q_l114, q_l115, q_l116, q_l117, q_l118, q_l119, q_l120, q_l126, q_l132, q_l133, q_l135, q_l136, q_l138, q_l146, q_l147, q_l148, q_l149, q_l150, q_l151, q_l152, q_l153, q_l154, q_l155, q_l156, q_l157, q_l158, q_l214, q_l229, q_l244, q_l259, q_l300, q_l999, q_l1813, q_l2072, q_l10000, q_l65536, q_l1000000000, hn]
      · rw [decide_eq_false (fun q => b q.2.2)]
        simp (disch := omega) only [↓reduceIte, eq_self, Bool.true_eq_false, Bool.false_eq_true, q_seqr, q_seql, v_ig, v_ni, v_le, v_nle, v_lt, v_nlt, v_eq, v_ne, v_gbt, v_gbf, v_gbd, v_m1lt, v_m1ge, v_m1ne, v_m1e, ↓q_bindD, ↓q_gLet, Option.isSome_some, Option.getD_some, nI_add, pk_mul, q_sub, q_m1, q_div, q_modN, nI_clamp, if_true, if_false, q_l0, q_l1, q_l2, q_l3, q_l4, q_l5, q_l6, q_l7, q_l8, q_l9, q_l10, q_l11, q_l12, q_l13, q_l14, q_l15, q_l16, q_l19, q_l20, q_l22, q_l24, q_l30, q_l32, q_l34, q_l36, q_l45, q_l47, q_l48, q_l57, q_l58, q_l59, q_l60, q_l61, q_l66, q_l75, q_l76, q_l94, q_l97, q_l99, q_l100, q_l101, q_l104, q_l105, q_l108, q_l109, q_l111, q_l114, q_l115, q_l116, q_l117, q_l118, q_l119, q_l120, q_l126, q_l132, q_l133, q_l135, q_l136, q_l138, q_l146, q_l147, q_l148, q_l149, q_l150, q_l151, q_l152, q_l153, q_l154, q_l155, q_l156, q_l157, q_l158, q_l214, q_l229, q_l244, q_l259, q_l300, q_l999, q_l1813, q_l2072, q_l10000, q_l65536, q_l1000000000, hn]
    · rw [decide_eq_false (fun q => a q.2.1)]
      simp (disch := omega) only [↓reduceIte, eq_self, Bool.true_eq_false, Bool.false_eq_true, q_seqr, q_seql, v_ig, v_ni, v_le, v_nle, v_lt, v_nlt, v_eq, v_ne, v_gbt, v_gbf, v_gbd, v_m1lt, v_m1ge, v_m1ne, v_m1e, ↓q_bindD, ↓q_gLet, Option.isSome_some, Option.getD_some, nI_add, pk_mul, q_sub, q_m1, q_div, q_modN, nI_clamp, if_true, if_false, q_l0, q_l1, q_l2, q_l3, q_l4, q_l5, q_l6, q_l7, q_l8, q_l9, q_l10, q_l11, q_l12, q_l13, q_l14, q_l15, q_l16, q_l19, q_l20, q_l22, q_l24, q_l30, q_l32, q_l34, q_l36, q_l45, q_l47, q_l48, q_l57, q_l58, q_l59, q_l60, q_l61, q_l66, q_l75, q_l76, q_l94, q_l97, q_l99, q_l100, q_l101, q_l104, q_l105, q_l108, q_l109, q_l111, q_l114, q_l115, q_l116, q_l117, q_l118, q_l119, q_l120, q_l126, q_l132, q_l133, q_l135, q_l136, q_l138, q_l146, q_l147, q_l148, q_l149, q_l150, q_l151, q_l152, q_l153, q_l154, q_l155, q_l156, q_l157, q_l158, q_l214, q_l229, q_l244, q_l259, q_l300, q_l999, q_l1813, q_l2072, q_l10000, q_l65536, q_l1000000000, hn]
  · rw [if_neg hp] at hn
    rw [decide_eq_false (fun q => hp q.1)]
    simp (disch := omega) only [↓reduceIte, eq_self, Bool.true_eq_false, Bool.false_eq_true, q_seqr, q_seql, v_ig, v_ni, v_le, v_nle, v_lt, v_nlt, v_eq, v_ne, v_gbt, v_gbf, v_gbd, v_m1lt, v_m1ge, v_m1ne, v_m1e, ↓q_bindD, ↓q_gLet, Option.isSome_some, Option.getD_some, nI_add, pk_mul, q_sub, q_m1, q_div, q_modN, nI_clamp, if_true, if_false, q_l0, q_l1, q_l2, q_l3, q_l4, q_l5, q_l6, q_l7, q_l8, q_l9, q_l10, q_l11, q_l12, q_l13, q_l14, q_l15, q_l16, q_l19, q_l20, q_l22, q_l24, q_l30, q_l32, q_l34, q_l36, q_l45, q_l47, q_l48, q_l57, q_l58, q_l59, q_l60, q_l61, q_l66, q_l75, q_l76, q_l94, q_l97, q_l99, q_l100, q_l101, q_l104, q_l105, q_l108, q_l109, q_l111, q_l114, q_l115, q_l116, q_l117, q_l118, q_l119, q_l120, q_l126, q_l132, q_l133, q_l135, q_l136, q_l138, q_l146, q_l147, q_l148, q_l149, q_l150, q_l151, q_l152, q_l153, q_l154, q_l155, q_l156, q_l157, q_l158, q_l214, q_l229, q_l244, q_l259, q_l300, q_l999, q_l1813, q_l2072, q_l10000, q_l65536, q_l1000000000, hn]
end RC
/-- a row of numbers, but from b on the list -/
def lnG (b : Nat) (f : Nat → Int32) (L : List Nat) : Nat → Int32 := fun i => if b ≤ i ∧ i < b + L.length then nI (L.getD (i - b) 0) else f i
theorem lnG_nil (b : Nat) (f : Nat → Int32) : lnG b f [] = f := by
  funext i
  unfold lnG
  rw [if_neg (by simp)]
theorem lnG_o {b i : Nat} {f : Nat → Int32} {L : List Nat} (h : i < b) : lnG b f L i = f i := by
  unfold lnG
  rw [if_neg (by omega)]
theorem lnG_get {b : Nat} {f : Nat → Int32} {vs : List Nat} {j c : Nat} (h : vs[j]? = some c) : lnG b f vs (b + j) = nI c := by
  obtain ⟨hj, e⟩ := List.getElem?_eq_some_iff.mp h
  unfold lnG
  rw [if_pos ⟨by omega, by omega⟩, show b + j - b = j by omega, List.getD_eq_getElem?_getD, h]
  rfl
theorem lnG_put (b : Nat) (f : Nat → Int32) (L : List Nat) (c : Nat) : upd (lnG b f L) (b + L.length) (nI c) = lnG b f (L ++ [c]) := by
  funext i
  have hl : (L ++ [c]).length = L.length + 1 := by rw [List.length_append]; rfl
  by_cases h : i = b + L.length
  · rw [q_ups h]
    unfold lnG
    rw [hl, h, if_pos ⟨by omega, by omega⟩, show b + L.length - b = L.length by omega]
    congr 1
    simp
  · rw [q_upn h]
    unfold lnG
    rw [hl]
    by_cases h2 : b ≤ i ∧ i < b + L.length
    · rw [if_pos h2, if_pos ⟨by omega, by omega⟩]
      congr 1
      rw [List.getD_eq_getElem?_getD, List.getD_eq_getElem?_getD, List.getElem?_append_left (by omega)]
    · rw [if_neg h2, if_neg (by omega)]
theorem c_isRow {a : Nat} (h : a < 8) (M : gM) : f_X4_isRow (nI a) M = some true := by
  unfold f_X4_isRow
  simp (disch := omega) only [↓reduceIte, eq_self, Bool.true_eq_false, Bool.false_eq_true, q_seqr, q_seql, v_ig, v_ni, v_le, v_nle, v_lt, v_nlt, v_eq, v_ne, v_gbt, v_gbf, v_gbd, v_m1lt, v_m1ge, v_m1ne, v_m1e, ↓q_bindD, ↓q_gLet, Option.isSome_some, Option.getD_some, nI_add, pk_mul, q_sub, q_m1, q_div, q_modN, nI_clamp, if_true, if_false, q_l0, q_l1, q_l2, q_l3, q_l4, q_l5, q_l6, q_l7, q_l8, q_l9, q_l10, q_l11, q_l12, q_l13, q_l14, q_l15, q_l16, q_l19, q_l20, q_l22, q_l24, q_l30, q_l32, q_l34, q_l36, q_l45, q_l47, q_l48, q_l57, q_l58, q_l59, q_l60, q_l61, q_l66, q_l75, q_l76, q_l94, q_l97, q_l99, q_l100, q_l101, q_l104, q_l105, q_l108, q_l109, q_l111, q_l114, q_l115, q_l116, q_l117, q_l118, q_l119, q_l120, q_l126, q_l132, q_l133, q_l135, q_l136, q_l138, q_l146, q_l147, q_l148, q_l149, q_l150, q_l151, q_l152, q_l153, q_l154, q_l155, q_l156, q_l157, q_l158, q_l214, q_l229, q_l244, q_l259, q_l300, q_l999, q_l1813, q_l2072, q_l10000, q_l65536, q_l1000000000]
theorem c_isPlace {a : Nat} (h : a < 4) (M : gM) : f_X4_isPlace (nI a) M = some true := by
  unfold f_X4_isPlace
  simp (disch := omega) only [↓reduceIte, eq_self, Bool.true_eq_false, Bool.false_eq_true, q_seqr, q_seql, v_ig, v_ni, v_le, v_nle, v_lt, v_nlt, v_eq, v_ne, v_gbt, v_gbf, v_gbd, v_m1lt, v_m1ge, v_m1ne, v_m1e, ↓q_bindD, ↓q_gLet, Option.isSome_some, Option.getD_some, nI_add, pk_mul, q_sub, q_m1, q_div, q_modN, nI_clamp, if_true, if_false, q_l0, q_l1, q_l2, q_l3, q_l4, q_l5, q_l6, q_l7, q_l8, q_l9, q_l10, q_l11, q_l12, q_l13, q_l14, q_l15, q_l16, q_l19, q_l20, q_l22, q_l24, q_l30, q_l32, q_l34, q_l36, q_l45, q_l47, q_l48, q_l57, q_l58, q_l59, q_l60, q_l61, q_l66, q_l75, q_l76, q_l94, q_l97, q_l99, q_l100, q_l101, q_l104, q_l105, q_l108, q_l109, q_l111, q_l114, q_l115, q_l116, q_l117, q_l118, q_l119, q_l120, q_l126, q_l132, q_l133, q_l135, q_l136, q_l138, q_l146, q_l147, q_l148, q_l149, q_l150, q_l151, q_l152, q_l153, q_l154, q_l155, q_l156, q_l157, q_l158, q_l214, q_l229, q_l244, q_l259, q_l300, q_l999, q_l1813, q_l2072, q_l10000, q_l65536, q_l1000000000]
theorem c_given {i j : Nat} (hi : i < 8) (hj : j < 4) (M : gM) : f_X4_given (nI i) (nI j) M = some (M 137 (i * 4 + j)) := by
  unfold f_X4_given
  simp (disch := omega) only [↓reduceIte, eq_self, Bool.true_eq_false, Bool.false_eq_true, q_seqr, q_seql, v_ig, v_ni, v_le, v_nle, v_lt, v_nlt, v_eq, v_ne, v_gbt, v_gbf, v_gbd, v_m1lt, v_m1ge, v_m1ne, v_m1e, ↓q_bindD, ↓q_gLet, Option.isSome_some, Option.getD_some, nI_add, pk_mul, q_sub, q_m1, q_div, q_modN, nI_clamp, if_true, if_false, q_l0, q_l1, q_l2, q_l3, q_l4, q_l5, q_l6, q_l7, q_l8, q_l9, q_l10, q_l11, q_l12, q_l13, q_l14, q_l15, q_l16, q_l19, q_l20, q_l22, q_l24, q_l30, q_l32, q_l34, q_l36, q_l45, q_l47, q_l48, q_l57, q_l58, q_l59, q_l60, q_l61, q_l66, q_l75, q_l76, q_l94, q_l97, q_l99, q_l100, q_l101, q_l104, q_l105, q_l108, q_l109, q_l111, q_l114, q_l115, q_l116, q_l117, q_l118, q_l119, q_l120, q_l126, q_l132, q_l133, q_l135, q_l136, q_l138, q_l146, q_l147, q_l148, q_l149, q_l150, q_l151, q_l152, q_l153, q_l154, q_l155, q_l156, q_l157, q_l158, q_l214, q_l229, q_l244, q_l259, q_l300, q_l999, q_l1813, q_l2072, q_l10000, q_l65536, q_l1000000000, c_isRow hi, c_isPlace hj]
theorem c_kind {i : Nat} (hi : i < 8) (M : gM) : f_X4_kind (nI i) M = some (M 136 i) := by
  unfold f_X4_kind
  simp (disch := omega) only [↓reduceIte, eq_self, Bool.true_eq_false, Bool.false_eq_true, q_seqr, q_seql, v_ig, v_ni, v_le, v_nle, v_lt, v_nlt, v_eq, v_ne, v_gbt, v_gbf, v_gbd, v_m1lt, v_m1ge, v_m1ne, v_m1e, ↓q_bindD, ↓q_gLet, Option.isSome_some, Option.getD_some, nI_add, pk_mul, q_sub, q_m1, q_div, q_modN, nI_clamp, if_true, if_false, q_l0, q_l1, q_l2, q_l3, q_l4, q_l5, q_l6, q_l7, q_l8, q_l9, q_l10, q_l11, q_l12, q_l13, q_l14, q_l15, q_l16, q_l19, q_l20, q_l22, q_l24, q_l30, q_l32, q_l34, q_l36, q_l45, q_l47, q_l48, q_l57, q_l58, q_l59, q_l60, q_l61, q_l66, q_l75, q_l76, q_l94, q_l97, q_l99, q_l100, q_l101, q_l104, q_l105, q_l108, q_l109, q_l111, q_l114, q_l115, q_l116, q_l117, q_l118, q_l119, q_l120, q_l126, q_l132, q_l133, q_l135, q_l136, q_l138, q_l146, q_l147, q_l148, q_l149, q_l150, q_l151, q_l152, q_l153, q_l154, q_l155, q_l156, q_l157, q_l158, q_l214, q_l229, q_l244, q_l259, q_l300, q_l999, q_l1813, q_l2072, q_l10000, q_l65536, q_l1000000000, c_isRow hi]
/-- the class's state within its n-th command: the values read so far, and where it reads -/
def cPs (M : gM) (n p : Nat) (vs : List Nat) : gM := gs (gw M 137 (lnG ((n - 1) * 4) (M 137) vs)) 146 2 (nI p)
theorem cPs_o {M : gM} {n p a : Nat} {vs : List Nat} (h : a ≠ 137) (h2 : a ≠ 146) : cPs M n p vs a = M a := by unfold cPs; rw [q_gsn h2, gw_ne h]
theorem cPs_k {M : gM} {n p k : Nat} {vs : List Nat} (hn : n ≤ 8) (h2 : k ≠ 2) : cPs M n p vs 146 k = M 146 k := by unfold cPs; rw [q_gsk h2, gw_ne (by omega)]
theorem cPs_p {M : gM} {n p : Nat} {vs : List Nat} : cPs M n p vs 146 2 = nI p := q_gss rfl
theorem cPs_v {M : gM} {n p : Nat} {vs : List Nat} : cPs M n p vs 137 = lnG ((n - 1) * 4) (M 137) vs := by unfold cPs; rw [q_gsn (by omega), gw_same]
theorem cPs_gs (M : gM) (n p q : Nat) (vs : List Nat) : gs (cPs M n p vs) 146 2 (nI q) = cPs M n q vs := by unfold cPs; rw [q_gsgs]
theorem cPs_nil {M : gM} {n p : Nat} (h : M 146 2 = nI p) : cPs M n p [] = M := by
  unfold cPs
  rw [lnG_nil, gw_id, ← h]
  funext a k
  by_cases ha : a = 146
  · subst ha
    by_cases hk : k = 2
    · rw [q_gss hk, hk]
    · rw [q_gsk hk]
  · rw [q_gsn ha]
theorem cPs_keep {M : gM} {n p : Nat} {vs : List Nat} (v : Nat) : gs (cPs M n p vs) 137 ((n - 1) * 4 + vs.length) (nI v) = cPs M n p (vs ++ [v]) := by
  unfold cPs
  funext a k
  by_cases ha : a = 137
  · subst ha
    have e : ∀ (S : gM) (b j : Nat), gs S b j (nI v) = gw S b (upd (S b) j (nI v)) := fun _ _ _ => rfl
    rw [e, gw_same, q_gsn (by omega), q_gsn (by omega), gw_same, gw_same, lnG_put]
  · rw [q_gsn ha]
    by_cases h6 : a = 146
    · subst h6
      by_cases hk : k = 2
      · rw [q_gss hk, q_gss hk]
      · rw [q_gsk hk, q_gsk hk, gw_ne ha, gw_ne ha]
    · rw [q_gsn h6, q_gsn h6, gw_ne ha, gw_ne ha]
section RP
variable {M : gM} {tx : Nat → Nat} {t n : Nat}
theorem cPs_tS {p q : Nat} {vs : List Nat} (h : tS M tx t p) (hn : n ≤ 8) (hq : q ≤ t) (h9 : n ≠ 9) : tS (cPs M n q vs) tx t q := by
  obtain ⟨h1, h2, h3, h4, h5⟩ := h
  refine ⟨by rw [cPs_k hn (by omega)]; exact h1, cPs_p, fun i hi => ?_, h4, hq⟩
  rw [cPs_o (by omega) (by omega)]
  exact h3 i hi
theorem c_keep {p v : Nat} {vs : List Nat} (hn : n ≤ 8) (hn1 : 1 ≤ n) (h2 : M 135 2 = nI n) (hv : vs.length < 4) : f_X4_keep (nI vs.length) (nI v) (cPs M n p vs) = some (cPs M n p (vs ++ [v])) := by
  have e1 : cPs M n p vs 135 2 = nI n := by rw [cPs_o (by omega) (by omega)]; exact h2
  have e3 := c_isRow (a := n - 1) (by omega) (cPs M n p vs)
  have e4 := c_isPlace hv (cPs M n p vs)
  unfold f_X4_keep
  simp (disch := omega) only [↓reduceIte, eq_self, Bool.true_eq_false, Bool.false_eq_true, q_seqr, q_seql, v_ig, v_ni, v_le, v_nle, v_lt, v_nlt, v_eq, v_ne, v_gbt, v_gbf, v_gbd, v_m1lt, v_m1ge, v_m1ne, v_m1e, ↓q_bindD, ↓q_gLet, Option.isSome_some, Option.getD_some, nI_add, pk_mul, q_sub, q_m1, q_div, q_modN, nI_clamp, if_true, if_false, q_l0, q_l1, q_l2, q_l3, q_l4, q_l5, q_l6, q_l7, q_l8, q_l9, q_l10, q_l11, q_l12, q_l13, q_l14, q_l15, q_l16, q_l19, q_l20, q_l22, q_l24, q_l30, q_l32, q_l34, q_l36, q_l45, q_l47, q_l48, q_l57, q_l58, q_l59, q_l60, q_l61, q_l66, q_l75, q_l76, q_l94, q_l97, q_l99, q_l100, q_l101, q_l104, q_l105, q_l108, q_l109, q_l111, q_l114, q_l115, q_l116, q_l117, q_l118, q_l119, q_l120, q_l126, q_l132, q_l133, q_l135, q_l136, q_l138, q_l146, q_l147, q_l148, q_l149, q_l150, q_l151, q_l152, q_l153, q_l154, q_l155, q_l156, q_l157, q_l158, q_l214, q_l229, q_l244, q_l259, q_l300, q_l999, q_l1813, q_l2072, q_l10000, q_l65536, q_l1000000000, e1, e3, e4, cPs_keep]
theorem c_readDigit {p0 p : Nat} {vs : List Nat} (h : tS M tx t p0) (hp : p ≤ t) (hn : n ≤ 8) (hn1 : 1 ≤ n) (h2 : M 135 2 = nI n) (hv : vs.length < 4) :
    f_X2_readDigit (nI vs.length) (cPs M n p vs) = if p < t ∧ 48 ≤ tx p ∧ tx p ≤ 57 then some (true, cPs M n (p + 1) (vs ++ [tx p - 48])) else some (false, cPs M n p vs) := by
  have hS := cPs_tS (q := p) (vs := vs) h hn hp (by omega)
  have hd := c_isDig hS
  have hc := c_next hS
  unfold f_X2_readDigit
  rw [hd, Option.bind_some]
  by_cases q : p < t ∧ 48 ≤ tx p ∧ tx p ≤ 57
  · have hx := (hS.2.2.1 p q.1).2
    have kp := c_keep (M := M) (p := p) (v := tx p - 48) hn hn1 h2 hv
    rw [if_pos q.1] at hc
    rw [if_pos q, decide_eq_true q, if_neg (show ¬ gb true = 0 by decide), hc, Option.bind_some, q_l48, q_sub q.2.1, kp, Option.bind_some, q_gLet, cPs_p, show nI p + 1 = nI (p + 1) from nI_add _ 1, cPs_gs]
  · rw [if_neg q, decide_eq_false q, if_pos (show gb false = 0 from rfl)]
theorem c_numL {p0 : Nat} {vs : List Nat} (h : tS M tx t p0) (hn : n ≤ 8) (hn1 : 1 ≤ n) (h2 : M 135 2 = nI n) (hv : vs.length < 4) :
    ∀ d f i p v, i + d = 3 → d < f → p ≤ t → v < 10 ^ i → f_X2_readNumber_L5 (nI vs.length) f (nI i) (nI v) (cPs M n p vs) = some (decide (0 < i ∨ (p < t ∧ 48 ≤ tx p ∧ tx p ≤ 57 ∧ 0 < d)), cPs M n (dN tx t d p v).2 (vs ++ [(dN tx t d p v).1])) := by
  intro d
  induction d with
  | zero =>
    intro f i p v hi hf hp hv3
    obtain ⟨m, rfl⟩ : ∃ m, f = m + 1 := ⟨f - 1, by omega⟩
    have hi : i = 3 := by omega
    subst hi
    have kp := c_keep (M := M) (p := p) (v := v) hn hn1 h2 hv
    rw [f_X2_readNumber_L5, decide_eq_true (Or.inl (by omega))]
    simp (disch := omega) only [↓reduceIte, eq_self, Bool.true_eq_false, Bool.false_eq_true, q_seqr, q_seql, v_ig, v_ni, v_le, v_nle, v_lt, v_nlt, v_eq, v_ne, v_gbt, v_gbf, v_gbd, v_m1lt, v_m1ge, v_m1ne, v_m1e, ↓q_bindD, ↓q_gLet, Option.isSome_some, Option.getD_some, nI_add, pk_mul, q_sub, q_m1, q_div, q_modN, nI_clamp, if_true, if_false, q_l0, q_l1, q_l2, q_l3, q_l4, q_l5, q_l6, q_l7, q_l8, q_l9, q_l10, q_l11, q_l12, q_l13, q_l14, q_l15, q_l16, q_l19, q_l20, q_l22, q_l24, q_l30, q_l32, q_l34, q_l36, q_l45, q_l47, q_l48, q_l57, q_l58, q_l59, q_l60, q_l61, q_l66, q_l75, q_l76, q_l94, q_l97, q_l99, q_l100, q_l101, q_l104, q_l105, q_l108, q_l109, q_l111, q_l114, q_l115, q_l116, q_l117, q_l118, q_l119, q_l120, q_l126, q_l132, q_l133, q_l135, q_l136, q_l138, q_l146, q_l147, q_l148, q_l149, q_l150, q_l151, q_l152, q_l153, q_l154, q_l155, q_l156, q_l157, q_l158, q_l214, q_l229, q_l244, q_l259, q_l300, q_l999, q_l1813, q_l2072, q_l10000, q_l65536, q_l1000000000, kp]
    rfl
  | succ d ih =>
    intro f i p v hi hf hp hv3
    obtain ⟨m, rfl⟩ : ∃ m, f = m + 1 := ⟨f - 1, by omega⟩
    have hS := cPs_tS (q := p) (vs := vs) h hn hp (by omega)
    have hd := c_isDig hS
    have hc := c_next hS
    have h10 : 10 ^ i ≤ 1000 := Nat.pow_le_pow_right (n := 10) (by omega) (show i ≤ 3 by omega)
    rw [f_X2_readNumber_L5]
    by_cases q : p < t ∧ 48 ≤ tx p ∧ tx p ≤ 57
    · have hx := (hS.2.2.1 p q.1).2
      have ih := ih m (i + 1) (p + 1) (v * 10 + (tx p - 48)) (by omega) (by omega) (by omega) (by rw [Nat.pow_succ]; omega)
      rw [if_pos q.1] at hc
      rw [decide_eq_true (Or.inl (by omega))] at ih
      have ed : dN tx t (d + 1) p v = dN tx t d (p + 1) (v * 10 + (tx p - 48)) := by rw [dN, if_pos q]
      rw [decide_eq_true (Or.inr ⟨q.1, q.2.1, q.2.2, by omega⟩), ed, ← ih]
      rw [decide_eq_true q] at hd
      have q48 := q.2.1
      simp (disch := omega) only [↓reduceIte, eq_self, Bool.true_eq_false, Bool.false_eq_true, q_seqr, q_seql, v_ig, v_ni, v_le, v_nle, v_lt, v_nlt, v_eq, v_ne, v_gbt, v_gbf, v_gbd, v_m1lt, v_m1ge, v_m1ne, v_m1e, ↓q_bindD, ↓q_gLet, Option.isSome_some, Option.getD_some, nI_add, pk_mul, q_sub, q_m1, q_div, q_modN, nI_clamp, if_true, if_false, q_l0, q_l1, q_l2, q_l3, q_l4, q_l5, q_l6, q_l7, q_l8, q_l9, q_l10, q_l11, q_l12, q_l13, q_l14, q_l15, q_l16, q_l19, q_l20, q_l22, q_l24, q_l30, q_l32, q_l34, q_l36, q_l45, q_l47, q_l48, q_l57, q_l58, q_l59, q_l60, q_l61, q_l66, q_l75, q_l76, q_l94, q_l97, q_l99, q_l100, q_l101, q_l104, q_l105, q_l108, q_l109, q_l111, q_l114, q_l115, q_l116, q_l117, q_l118, q_l119, q_l120, q_l126, q_l132, q_l133, q_l135, q_l136, q_l138, q_l146, q_l147, q_l148, q_l149, q_l150, q_l151, q_l152, q_l153, q_l154, q_l155, q_l156, q_l157, q_l158, q_l214, q_l229, q_l244, q_l259, q_l300, q_l999, q_l1813, q_l2072, q_l10000, q_l65536, q_l1000000000, hd, hc, cPs_p, cPs_gs]
    · have kp := c_keep (M := M) (p := p) (v := v) hn hn1 h2 hv
      have ed : dN tx t (d + 1) p v = (v, p) := by rw [dN, if_neg q]
      rw [ed]
      rw [decide_eq_false q] at hd
      by_cases i0 : i = 0
      · rw [decide_eq_false (fun z => by rcases z with z | z; omega; exact q ⟨z.1, z.2.1, z.2.2.1⟩)]
        simp (disch := omega) only [↓reduceIte, eq_self, Bool.true_eq_false, Bool.false_eq_true, q_seqr, q_seql, v_ig, v_ni, v_le, v_nle, v_lt, v_nlt, v_eq, v_ne, v_gbt, v_gbf, v_gbd, v_m1lt, v_m1ge, v_m1ne, v_m1e, ↓q_bindD, ↓q_gLet, Option.isSome_some, Option.getD_some, nI_add, pk_mul, q_sub, q_m1, q_div, q_modN, nI_clamp, if_true, if_false, q_l0, q_l1, q_l2, q_l3, q_l4, q_l5, q_l6, q_l7, q_l8, q_l9, q_l10, q_l11, q_l12, q_l13, q_l14, q_l15, q_l16, q_l19, q_l20, q_l22, q_l24, q_l30, q_l32, q_l34, q_l36, q_l45, q_l47, q_l48, q_l57, q_l58, q_l59, q_l60, q_l61, q_l66, q_l75, q_l76, q_l94, q_l97, q_l99, q_l100, q_l101, q_l104, q_l105, q_l108, q_l109, q_l111, q_l114, q_l115, q_l116, q_l117, q_l118, q_l119, q_l120, q_l126, q_l132, q_l133, q_l135, q_l136, q_l138, q_l146, q_l147, q_l148, q_l149, q_l150, q_l151, q_l152, q_l153, q_l154, q_l155, q_l156, q_l157, q_l158, q_l214, q_l229, q_l244, q_l259, q_l300, q_l999, q_l1813, q_l2072, q_l10000, q_l65536, q_l1000000000, hd, kp]
      · rw [decide_eq_true (Or.inl (by omega))]
        simp (disch := omega) only [↓reduceIte, eq_self, Bool.true_eq_false, Bool.false_eq_true, q_seqr, q_seql, v_ig, v_ni, v_le, v_nle, v_lt, v_nlt, v_eq, v_ne, v_gbt, v_gbf, v_gbd, v_m1lt, v_m1ge, v_m1ne, v_m1e, ↓q_bindD, ↓q_gLet, Option.isSome_some, Option.getD_some, nI_add, pk_mul, q_sub, q_m1, q_div, q_modN, nI_clamp, if_true, if_false, q_l0, q_l1, q_l2, q_l3, q_l4, q_l5, q_l6, q_l7, q_l8, q_l9, q_l10, q_l11, q_l12, q_l13, q_l14, q_l15, q_l16, q_l19, q_l20, q_l22, q_l24, q_l30, q_l32, q_l34, q_l36, q_l45, q_l47, q_l48, q_l57, q_l58, q_l59, q_l60, q_l61, q_l66, q_l75, q_l76, q_l94, q_l97, q_l99, q_l100, q_l101, q_l104, q_l105, q_l108, q_l109, q_l111, q_l114, q_l115, q_l116, q_l117, q_l118, q_l119, q_l120, q_l126, q_l132, q_l133, q_l135, q_l136, q_l138, q_l146, q_l147, q_l148, q_l149, q_l150, q_l151, q_l152, q_l153, q_l154, q_l155, q_l156, q_l157, q_l158, q_l214, q_l229, q_l244, q_l259, q_l300, q_l999, q_l1813, q_l2072, q_l10000, q_l65536, q_l1000000000, hd, kp]
theorem c_readNumber {p0 p : Nat} {vs : List Nat} (h : tS M tx t p0) (hp : p ≤ t) (hn : n ≤ 8) (hn1 : 1 ≤ n) (h2 : M 135 2 = nI n) (hv : vs.length < 4) :
    f_X2_readNumber (nI vs.length) (cPs M n p vs) = some (decide (p < t ∧ 48 ≤ tx p ∧ tx p ≤ 57), cPs M n (dN tx t 3 p 0).2 (vs ++ [(dN tx t 3 p 0).1])) := by
  have k0 := c_numL (vs := vs) h hn hn1 h2 hv 3 gF 0 p 0 rfl (by unfold gF; omega) hp (by omega)
  have e : decide (0 < 0 ∨ (p < t ∧ 48 ≤ tx p ∧ tx p ≤ 57 ∧ 0 < 3)) = decide (p < t ∧ 48 ≤ tx p ∧ tx p ≤ 57) := by
    congr 1
    apply propext
    constructor
    · rintro (z | z)
      · omega
      · exact ⟨z.1, z.2.1, z.2.2.1⟩
    · rintro z
      exact Or.inr ⟨z.1, z.2.1, z.2.2, by omega⟩
  rw [e] at k0
  exact k0
theorem dN_le (p m v : Nat) (hp : p ≤ t) : (dN tx t m p v).2 ≤ t := by
  induction m generalizing p v with
  | zero => exact hp
  | succ m ih =>
    rw [dN]
    split
    · rename_i h
      exact ih (p + 1) _ (by omega)
    · exact hp
/-- items: well formed, few enough values -/
def itOK : List (Nat × Nat) → Prop
  | [] => True
  | (0, c) :: r => (0 < c ∧ c < 128) ∧ itOK r
  | (1, _) :: r => itOK r
  | (2, _) :: _ => False
  | (3, _) :: r => itOK r
  | (_ + 4, _) :: _ => False
def itN : List (Nat × Nat) → Nat
  | [] => 0
  | (0, _) :: r => itN r
  | (_ + 1, _) :: r => itN r + 1
theorem cX_ok {p0 : Nat} (h : tS M tx t p0) (hn : n ≤ 8) (hn1 : 1 ≤ n) (h2 : M 135 2 = nI n) : ∀ (its : List (Nat × Nat)) (p : Nat) (vs : List Nat), itOK its → p ≤ t → vs.length + itN its ≤ 4 →
    (∃ p' vs', p' ≤ t ∧ pI tx t its p vs = (true, p', vs') ∧ cX vs.length its (cPs M n p vs) = some (true, cPs M n p' vs')) ∨ (∃ e vs' vs'', e ≤ t ∧ pI tx t its p vs = (false, e, vs') ∧ cX vs.length its (cPs M n p vs) = some (false, cPs M n e vs'')) := by
  intro its
  induction its with
  | nil => intro p vs _ hp _; exact Or.inl ⟨p, vs, hp, rfl, rfl⟩
  | cons it r ih =>
    intro p vs ho hp hv
    obtain ⟨k, c⟩ := it
    match k, ho, hv with
    | 0, ho, hv =>
      obtain ⟨⟨hc0, hc⟩, ho⟩ := ho
      have hv : vs.length + itN r ≤ 4 := hv
      have rd := c_read (cPs_tS (n := n) (q := p) (vs := vs) h hn hp (by omega)) hc0 hc
      by_cases q : p < t ∧ tx p = c
      · rw [if_pos q, cPs_gs] at rd
        have e1 : pI tx t ((0, c) :: r) p vs = pI tx t r (p + 1) vs := by rw [pI, if_pos q]
        have e2 : cX vs.length ((0, c) :: r) (cPs M n p vs) = cX vs.length r (cPs M n (p + 1) vs) := by rw [cX, rd, Option.bind_some, if_neg (show ¬ gb true = 0 by decide)]
        rw [e1, e2]
        exact ih (p + 1) vs ho (by omega) hv
      · rw [if_neg q] at rd
        refine Or.inr ⟨p, vs, vs, hp, by rw [pI, if_neg q], ?_⟩
        rw [cX, rd, Option.bind_some, if_pos (show gb false = 0 from rfl)]
    | 1, ho, hv =>
      have ho : itOK r := ho
      have hv : vs.length + (itN r + 1) ≤ 4 := hv
      have rd := c_readDigit (vs := vs) h hp hn hn1 h2 (by omega)
      by_cases q : p < t ∧ 48 ≤ tx p ∧ tx p ≤ 57
      · rw [if_pos q] at rd
        have ed : dN tx t 1 p 0 = (tx p - 48, p + 1) := by
          rw [dN, if_pos q, dN]
          congr 1
          omega
        have e1 : pI tx t ((1, c) :: r) p vs = pI tx t r (p + 1) (vs ++ [tx p - 48]) := by rw [pI, if_pos q, ed]
        have e2 : cX vs.length ((1, c) :: r) (cPs M n p vs) = cX (vs ++ [tx p - 48]).length r (cPs M n (p + 1) (vs ++ [tx p - 48])) := by rw [cX, rd, Option.bind_some, if_neg (show ¬ gb true = 0 by decide), List.length_append]; rfl
        rw [e1, e2]
        exact ih (p + 1) _ ho (by omega) (by rw [List.length_append, List.length_cons, List.length_nil]; omega)
      · rw [if_neg q] at rd
        refine Or.inr ⟨p, vs, vs, hp, by rw [pI, if_neg q], ?_⟩
        rw [cX, rd, Option.bind_some, if_pos (show gb false = 0 from rfl)]
    | 2, ho, hv => exact False.elim ho
    | 3, ho, hv =>
      have ho : itOK r := ho
      have hv : vs.length + (itN r + 1) ≤ 4 := hv
      have rd := c_readNumber (vs := vs) h hp hn hn1 h2 (by omega)
      have hle := dN_le (tx := tx) p 3 0 hp
      by_cases q : p < t ∧ 48 ≤ tx p ∧ tx p ≤ 57
      · rw [decide_eq_true q] at rd
        have e1 : pI tx t ((3, c) :: r) p vs = pI tx t r (dN tx t 3 p 0).2 (vs ++ [(dN tx t 3 p 0).1]) := by rw [pI, if_pos q]
        have e2 : cX vs.length ((3, c) :: r) (cPs M n p vs) = cX (vs ++ [(dN tx t 3 p 0).1]).length r (cPs M n (dN tx t 3 p 0).2 (vs ++ [(dN tx t 3 p 0).1])) := by rw [cX, rd, Option.bind_some, if_neg (show ¬ gb true = 0 by decide), List.length_append]; rfl
        rw [e1, e2]
        exact ih _ _ ho hle (by rw [List.length_append, List.length_cons, List.length_nil]; omega)
      · have ed : dN tx t 3 p 0 = (0, p) := by rw [dN, if_neg q]
        rw [decide_eq_false q, ed] at rd
        refine Or.inr ⟨p, vs, vs ++ [0], hp, by rw [pI, if_neg q], ?_⟩
        rw [cX, rd, Option.bind_some, if_pos (show gb false = 0 from rfl)]
    | k + 4, ho, hv => exact False.elim ho
end RP
