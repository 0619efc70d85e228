/-! The line: what both sides write. -/
def lnF (f : Nat → Int32) (L : List Nat) : Nat → Int32 := fun i => if i < L.length then nI (L.getD i 0) else f i
def cW (M : gM) (L : List Nat) : gM := gs (gw M 149 (lnF (M 149) L)) 148 1 (nI L.length)
def mW (M : gM) (L : List Nat) : gM := gs (gw M 157 (lnF (M 157) L)) 150 12 (nI L.length)
theorem lnF_nil (f : Nat → Int32) : lnF f [] = f := by
  funext i
  unfold lnF
  rw [if_neg (by simp)]
theorem lnF_put (f : Nat → Int32) (L : List Nat) (c : Nat) : upd (lnF f L) L.length (nI c) = lnF f (L ++ [c]) := by
  funext i
  by_cases h : i = L.length
  · rw [q_ups h]
    unfold lnF
    rw [h, if_pos (by simp)]
    congr 1
    simp
  · rw [q_upn h]
    unfold lnF
    by_cases h2 : i < L.length
    · rw [if_pos h2, if_pos (by simp; omega)]
      congr 1
      rw [List.getD_eq_getElem?_getD, List.getD_eq_getElem?_getD, List.getElem?_append_left h2]
    · rw [if_neg h2, if_neg (by simp; omega)]
theorem cW_o {M : gM} {L : List Nat} {a : Nat} (h1 : a ≠ 148) (h2 : a ≠ 149) : cW M L a = M a := by unfold cW; rw [q_gsn h1, gw_ne h2]
theorem mW_o {M : gM} {L : List Nat} {a : Nat} (h1 : a ≠ 150) (h2 : a ≠ 157) : mW M L a = M a := by unfold mW; rw [q_gsn h1, gw_ne h2]
theorem mW_k {M : gM} {L : List Nat} {k : Nat} (h : k ≠ 12) : mW M L 150 k = M 150 k := by unfold mW; rw [q_gsk h, gw_ne (by omega)]
theorem cW_n {M : gM} {L : List Nat} : cW M L 148 1 = nI L.length := q_gss rfl
theorem mW_n {M : gM} {L : List Nat} : mW M L 150 12 = nI L.length := q_gss rfl
theorem cW_c {M : gM} {L : List Nat} : cW M L 149 = lnF (M 149) L := by unfold cW; rw [q_gsn (by omega), gw_same]
theorem mW_c {M : gM} {L : List Nat} : mW M L 157 = lnF (M 157) L := by unfold mW; rw [q_gsn (by omega), gw_same]
theorem cW_nil (M : gM) : gs M 148 1 (nI 0) = cW M [] := by
  unfold cW
  rw [lnF_nil, gw_id]
  rfl
theorem mW_nil (M : gM) : gs M 150 12 (nI 0) = mW M [] := by
  unfold mW
  rw [lnF_nil, gw_id]
  rfl
theorem c_putC {M : gM} {L : List Nat} {c : Nat} (h : L.length < 100) (hc : c < 65536) : f_X3_put (nI c) (cW M L) = some (cW M (L ++ [c])) := by
  have e1 : gs (gs (cW M L) 149 L.length (nI c)) 148 1 (nI (L.length + 1)) = cW M (L ++ [c]) := by
    funext a i
    by_cases h8 : a = 148
    · subst h8
      by_cases hi : i = 1
      · rw [hi, q_gss rfl, cW_n, List.length_append]
        rfl
      · rw [q_gsk hi, q_gsn (by omega)]
        unfold cW
        rw [q_gsk hi, q_gsk hi, gw_ne (by omega), gw_ne (by omega)]
    · rw [q_gsn h8]
      by_cases h9 : a = 149
      · subst h9
        show upd (cW M L 149) L.length (nI c) i = _
        rw [cW_c, cW_c, lnF_put]
      · rw [q_gsn h9, cW_o h8 h9, cW_o h8 h9]
  unfold f_X3_put
  simp (disch := omega) only [↓reduceIte, eq_self, Bool.true_eq_false, Bool.false_eq_true, q_seqr, q_seql, v_ig, v_ni, v_le, v_nle, v_lt, v_nlt, v_eq, v_ne, v_gbt, v_gbf, v_gbd, v_m1lt, v_m1ge, v_m1ne, v_m1e, ↓q_bindD, ↓q_gLet, Option.isSome_some, Option.getD_some, nI_add, pk_mul, q_sub, q_m1, q_div, q_modN, nI_clamp, if_true, if_false, q_l0, q_l1, q_l2, q_l3, q_l4, q_l5, q_l6, q_l7, q_l8, q_l9, q_l10, q_l11, q_l12, q_l13, q_l14, q_l15, q_l16, q_l19, q_l20, q_l22, q_l24, q_l30, q_l32, q_l34, q_l36, q_l45, q_l47, q_l48, q_l57, q_l58, q_l59, q_l60, q_l61, q_l66, q_l75, q_l76, q_l94, q_l97, q_l99, q_l100, q_l101, q_l104, q_l105, q_l108, q_l109, q_l111, q_l114, q_l115, q_l116, q_l117, q_l118, q_l119, q_l120, q_l126, q_l132, q_l133, q_l135, q_l136, q_l138, q_l146, q_l147, q_l148, q_l149, q_l150, q_l151, q_l152, q_l153, q_l154, q_l155, q_l156, q_l157, q_l158, q_l214, q_l229, q_l244, q_l259, q_l300, q_l999, q_l1813, q_l2072, q_l10000, q_l65536, q_l1000000000, cW_n, q_nar, q_gsn, e1]
theorem m_putC {M : gM} {L : List Nat} {c : Nat} (h : L.length < 100) (hc : c < 65536) : f_X7_writes (nI c) (mW M L) = some (mW M (L ++ [c])) := by
  have e1 : gs (gs (mW M L) 157 L.length (nI c)) 150 12 (nI (L.length + 1)) = mW M (L ++ [c]) := by
    funext a i
    by_cases h8 : a = 150
    · subst h8
      by_cases hi : i = 12
      · rw [hi, q_gss rfl, mW_n, List.length_append]
        rfl
      · rw [q_gsk hi, q_gsn (by omega), mW_k hi, mW_k hi]
    · rw [q_gsn h8]
      by_cases h9 : a = 157
      · subst h9
        show upd (mW M L 157) L.length (nI c) i = _
        rw [mW_c, mW_c, lnF_put]
      · rw [q_gsn h9, mW_o h8 h9, mW_o h8 h9]
  unfold f_X7_writes
  simp (disch := omega) only [↓reduceIte, eq_self, Bool.true_eq_false, Bool.false_eq_true, q_seqr, q_seql, v_ig, v_ni, v_le, v_nle, v_lt, v_nlt, v_eq, v_ne, v_gbt, v_gbf, v_gbd, v_m1lt, v_m1ge, v_m1ne, v_m1e, ↓q_bindD, ↓q_gLet, Option.isSome_some, Option.getD_some, nI_add, pk_mul, q_sub, q_m1, q_div, q_modN, nI_clamp, if_true, if_false, q_l0, q_l1, q_l2, q_l3, q_l4, q_l5, q_l6, q_l7, q_l8, q_l9, q_l10, q_l11, q_l12, q_l13, q_l14, q_l15, q_l16, q_l19, q_l20, q_l22, q_l24, q_l30, q_l32, q_l34, q_l36, q_l45, q_l47, q_l48, q_l57, q_l58, q_l59, q_l60, q_l61, q_l66, q_l75, q_l76, q_l94, q_l97, q_l99, q_l100, q_l101, q_l104, q_l105, q_l108, q_l109, q_l111, q_l114, q_l115, q_l116, q_l117, q_l118, q_l119, q_l120, q_l126, q_l132, q_l133, q_l135, q_l136, q_l138, q_l146, q_l147, q_l148, q_l149, q_l150, q_l151, q_l152, q_l153, q_l154, q_l155, q_l156, q_l157, q_l158, q_l214, q_l229, q_l244, q_l259, q_l300, q_l999, q_l1813, q_l2072, q_l10000, q_l65536, q_l1000000000, mW_n, q_i2c, q_nar, q_gsn, e1]
/-- the digits from the one worth 10^k down -/
def dgs (v : Nat) : Nat → List Nat
  | 0 => [48 + v % 10]
  | k + 1 => (48 + v / 10 ^ (k + 1) % 10) :: dgs v k
def lgk (v : Nat) : Nat := if v < 10 then 0 else if v < 100 then 1 else if v < 1000 then 2 else if v < 10000 then 3 else 4
def dgt (v : Nat) : List Nat := dgs v (lgk v)
theorem dgs_len (v k : Nat) : (dgs v k).length = k + 1 := by
  induction k with
  | zero => rfl
  | succ k ih => simp [dgs, ih]
theorem dgs_lt (v k : Nat) : ∀ c ∈ dgs v k, c < 65536 := by
  induction k with
  | zero => intro c hc; simp [dgs] at hc; omega
  | succ k ih =>
    intro c hc
    rcases List.mem_cons.mp hc with rfl | hc
    · omega
    · exact ih c hc
theorem lgk_le (v : Nat) : lgk v ≤ 4 := by
  unfold lgk
  split <;> first | omega | (split <;> first | omega | (split <;> first | omega | (split <;> omega)))
theorem dgt_len (v : Nat) : (dgt v).length ≤ 5 := by
  unfold dgt
  rw [dgs_len]
  have := lgk_le v
  omega
theorem dgt_lt (v : Nat) : ∀ c ∈ dgt v, c < 65536 := dgs_lt v _
theorem p10 {k : Nat} (h : k ≤ 9) : 1 ≤ 10 ^ k ∧ 10 ^ k ≤ 1000000000 := ⟨Nat.pow_pos (by omega), by
  have := Nat.pow_le_pow_right (n := 10) (by omega) h
  exact this⟩
/-- the digits of a number, class -/
theorem c_nums {M : gM} {v : Nat} (hv : v < 100000) : ∀ k n (L : List Nat), k ≤ 4 → k + 2 ≤ n → L.length + k < 100 → (k = 0 ∨ 10 ^ k ≤ v) → f_X3_putNumber_L3 (nI v) n (nI (10 ^ k)) (cW M L) = some (cW M (L ++ dgs v k)) := by
  intro k
  induction k with
  | zero =>
    intro n L hk hn hL _
    obtain ⟨m, rfl⟩ : ∃ m, n = m + 1 + 1 := ⟨n - 2, by omega⟩
    have pc := c_putC (M := M) (L := L) (c := 48 + v % 10) (by omega) (by omega)
    rw [show (10 : Nat) ^ 0 = 1 from rfl]
    rw [f_X3_putNumber_L3]
    by_cases h1 : 1 ≤ v
    · simp (disch := omega) only [↓reduceIte, eq_self, Bool.true_eq_false, Bool.false_eq_true, q_seqr, q_seql, v_ig, v_ni, v_le, v_nle, v_lt, v_nlt, v_eq, v_ne, v_gbt, v_gbf, v_gbd, v_m1lt, v_m1ge, v_m1ne, v_m1e, ↓q_bindD, ↓q_gLet, Option.isSome_some, Option.getD_some, nI_add, pk_mul, q_sub, q_m1, q_div, q_modN, nI_clamp, if_true, if_false, q_l0, q_l1, q_l2, q_l3, q_l4, q_l5, q_l6, q_l7, q_l8, q_l9, q_l10, q_l11, q_l12, q_l13, q_l14, q_l15, q_l16, q_l19, q_l20, q_l22, q_l24, q_l30, q_l32, q_l34, q_l36, q_l45, q_l47, q_l48, q_l57, q_l58, q_l59, q_l60, q_l61, q_l66, q_l75, q_l76, q_l94, q_l97, q_l99, q_l100, q_l101, q_l104, q_l105, q_l108, q_l109, q_l111, q_l114, q_l115, q_l116, q_l117, q_l118, q_l119, q_l120, q_l126, q_l132, q_l133, q_l135, q_l136, q_l138, q_l146, q_l147, q_l148, q_l149, q_l150, q_l151, q_l152, q_l153, q_l154, q_l155, q_l156, q_l157, q_l158, q_l214, q_l229, q_l244, q_l259, q_l300, q_l999, q_l1813, q_l2072, q_l10000, q_l65536, q_l1000000000, Nat.div_one, q_i2c, pc]
      rw [f_X3_putNumber_L3]
      simp (disch := omega) only [↓reduceIte, eq_self, Bool.true_eq_false, Bool.false_eq_true, q_seqr, q_seql, v_ig, v_ni, v_le, v_nle, v_lt, v_nlt, v_eq, v_ne, v_gbt, v_gbf, v_gbd, v_m1lt, v_m1ge, v_m1ne, v_m1e, ↓q_bindD, ↓q_gLet, Option.isSome_some, Option.getD_some, nI_add, pk_mul, q_sub, q_m1, q_div, q_modN, nI_clamp, if_true, if_false, q_l0, q_l1, q_l2, q_l3, q_l4, q_l5, q_l6, q_l7, q_l8, q_l9, q_l10, q_l11, q_l12, q_l13, q_l14, q_l15, q_l16, q_l19, q_l20, q_l22, q_l24, q_l30, q_l32, q_l34, q_l36, q_l45, q_l47, q_l48, q_l57, q_l58, q_l59, q_l60, q_l61, q_l66, q_l75, q_l76, q_l94, q_l97, q_l99, q_l100, q_l101, q_l104, q_l105, q_l108, q_l109, q_l111, q_l114, q_l115, q_l116, q_l117, q_l118, q_l119, q_l120, q_l126, q_l132, q_l133, q_l135, q_l136, q_l138, q_l146, q_l147, q_l148, q_l149, q_l150, q_l151, q_l152, q_l153, q_l154, q_l155, q_l156, q_l157, q_l158, q_l214, q_l229, q_l244, q_l259, q_l300, q_l999, q_l1813, q_l2072, q_l10000, q_l65536, q_l1000000000]
      rfl
    · simp (disch := omega) only [↓reduceIte, eq_self, Bool.true_eq_false, Bool.false_eq_true, q_seqr, q_seql, v_ig, v_ni, v_le, v_nle, v_lt, v_nlt, v_eq, v_ne, v_gbt, v_gbf, v_gbd, v_m1lt, v_m1ge, v_m1ne, v_m1e, ↓q_bindD, ↓q_gLet, Option.isSome_some, Option.getD_some, nI_add, pk_mul, q_sub, q_m1, q_div, q_modN, nI_clamp, if_true, if_false, q_l0, q_l1, q_l2, q_l3, q_l4, q_l5, q_l6, q_l7, q_l8, q_l9, q_l10, q_l11, q_l12, q_l13, q_l14, q_l15, q_l16, q_l19, q_l20, q_l22, q_l24, q_l30, q_l32, q_l34, q_l36, q_l45, q_l47, q_l48, q_l57, q_l58, q_l59, q_l60, q_l61, q_l66, q_l75, q_l76, q_l94, q_l97, q_l99, q_l100, q_l101, q_l104, q_l105, q_l108, q_l109, q_l111, q_l114, q_l115, q_l116, q_l117, q_l118, q_l119, q_l120, q_l126, q_l132, q_l133, q_l135, q_l136, q_l138, q_l146, q_l147, q_l148, q_l149, q_l150, q_l151, q_l152, q_l153, q_l154, q_l155, q_l156, q_l157, q_l158, q_l214, q_l229, q_l244, q_l259, q_l300, q_l999, q_l1813, q_l2072, q_l10000, q_l65536, q_l1000000000, Nat.div_one, q_i2c, pc]
      rw [f_X3_putNumber_L3]
      simp (disch := omega) only [↓reduceIte, eq_self, Bool.true_eq_false, Bool.false_eq_true, q_seqr, q_seql, v_ig, v_ni, v_le, v_nle, v_lt, v_nlt, v_eq, v_ne, v_gbt, v_gbf, v_gbd, v_m1lt, v_m1ge, v_m1ne, v_m1e, ↓q_bindD, ↓q_gLet, Option.isSome_some, Option.getD_some, nI_add, pk_mul, q_sub, q_m1, q_div, q_modN, nI_clamp, if_true, if_false, q_l0, q_l1, q_l2, q_l3, q_l4, q_l5, q_l6, q_l7, q_l8, q_l9, q_l10, q_l11, q_l12, q_l13, q_l14, q_l15, q_l16, q_l19, q_l20, q_l22, q_l24, q_l30, q_l32, q_l34, q_l36, q_l45, q_l47, q_l48, q_l57, q_l58, q_l59, q_l60, q_l61, q_l66, q_l75, q_l76, q_l94, q_l97, q_l99, q_l100, q_l101, q_l104, q_l105, q_l108, q_l109, q_l111, q_l114, q_l115, q_l116, q_l117, q_l118, q_l119, q_l120, q_l126, q_l132, q_l133, q_l135, q_l136, q_l138, q_l146, q_l147, q_l148, q_l149, q_l150, q_l151, q_l152, q_l153, q_l154, q_l155, q_l156, q_l157, q_l158, q_l214, q_l229, q_l244, q_l259, q_l300, q_l999, q_l1813, q_l2072, q_l10000, q_l65536, q_l1000000000]
      rfl
  | succ k ih =>
    intro n L hk hn hL hv2
    obtain ⟨m, rfl⟩ : ∃ m, n = m + 1 := ⟨n - 1, by omega⟩
    have hp := p10 (k := k) (by omega)
    have hs : 10 ^ (k + 1) = 10 ^ k * 10 := Nat.pow_succ ..
    have hs1 := p10 (k := k + 1) (by omega)
    have hv2 : 10 ^ (k + 1) ≤ v := hv2.resolve_left (by omega)
    have pc := c_putC (M := M) (L := L) (c := 48 + v / 10 ^ (k + 1) % 10) (by omega) (by omega)
    have ih := ih m (L ++ [48 + v / 10 ^ (k + 1) % 10]) (by omega) (by omega) (by rw [List.length_append]; simp; omega) (Or.inr (by omega))
    have ed : 10 ^ (k + 1) / 10 = 10 ^ k := by omega
    have hq : v / 10 ^ (k + 1) ≤ v := Nat.div_le_self _ _
    rw [List.append_assoc] at ih
    rw [f_X3_putNumber_L3]
    obtain ⟨P, hP⟩ : ∃ P, P = 10 ^ (k + 1) := ⟨_, rfl⟩
    rw [← hP] at pc ih hv2 hs1 ed hq ⊢
    simp (disch := omega) only [↓reduceIte, eq_self, Bool.true_eq_false, Bool.false_eq_true, q_seqr, q_seql, v_ig, v_ni, v_le, v_nle, v_lt, v_nlt, v_eq, v_ne, v_gbt, v_gbf, v_gbd, v_m1lt, v_m1ge, v_m1ne, v_m1e, ↓q_bindD, ↓q_gLet, Option.isSome_some, Option.getD_some, nI_add, pk_mul, q_sub, q_m1, q_div, q_modN, nI_clamp, if_true, if_false, q_l0, q_l1, q_l2, q_l3, q_l4, q_l5, q_l6, q_l7, q_l8, q_l9, q_l10, q_l11, q_l12, q_l13, q_l14, q_l15, q_l16, q_l19, q_l20, q_l22, q_l24, q_l30, q_l32, q_l34, q_l36, q_l45, q_l47, q_l48, q_l57, q_l58, q_l59, q_l60, q_l61, q_l66, q_l75, q_l76, q_l94, q_l97, q_l99, q_l100, q_l101, q_l104, q_l105, q_l108, q_l109, q_l111, q_l114, q_l115, q_l116, q_l117, q_l118, q_l119, q_l120, q_l126, q_l132, q_l133, q_l135, q_l136, q_l138, q_l146, q_l147, q_l148, q_l149, q_l150, q_l151, q_l152, q_l153, q_l154, q_l155, q_l156, q_l157, q_l158, q_l214, q_l229, q_l244, q_l259, q_l300, q_l999, q_l1813, q_l2072, q_l10000, q_l65536, q_l1000000000, q_i2c, pc, ed]
    rw [hP] at ih ⊢
    exact ih
theorem lgk_of {v k : Nat} (h : k = 0 ∨ 10 ^ k ≤ v) (h2 : v < 10 ^ (k + 1)) (hk : k ≤ 4) : lgk v = k := by
  have : k = 0 ∨ k = 1 ∨ k = 2 ∨ k = 3 ∨ k = 4 := by omega
  unfold lgk
  rcases this with rfl | rfl | rfl | rfl | rfl
  · rw [if_pos (by omega)]
  · rw [if_neg (by omega), if_pos (by omega)]
  · rw [if_neg (by omega), if_neg (by omega), if_pos (by omega)]
  · rw [if_neg (by omega), if_neg (by omega), if_neg (by omega), if_pos (by omega)]
  · rw [if_neg (by omega), if_neg (by omega), if_neg (by omega), if_neg (by omega)]
theorem c_putNumber {M : gM} {v : Nat} {L : List Nat} (hv : v < 100000) (hL : L.length < 95) : f_X3_putNumber (nI v) (cW M L) = some (cW M (L ++ dgt v)) := by
  have key : ∀ k n, k ≤ 9 → k + 2 ≤ n → v < 10 ^ (k + 1) → f_X3_putNumber_L3 (nI v) n (nI (10 ^ k)) (cW M L) = some (cW M (L ++ dgt v)) := by
    intro k
    induction k with
    | zero =>
      intro n hk hn hv2
      have := c_nums (M := M) hv 0 n L (by omega) hn (by omega) (Or.inl rfl)
      unfold dgt
      rw [lgk_of (Or.inl rfl) hv2 (by omega)]
      exact this
    | succ k ih =>
      intro n hk hn hv2
      by_cases h : 10 ^ (k + 1) ≤ v
      · have hk4 : k + 1 ≤ 4 := by
          by_cases q : k + 1 ≤ 4
          · exact q
          · have := Nat.pow_le_pow_right (n := 10) (by omega) (show 5 ≤ k + 1 by omega)
            omega
        have := c_nums (M := M) hv (k + 1) n L hk4 hn (by omega) (Or.inr h)
        unfold dgt
        rw [lgk_of (Or.inr h) hv2 hk4]
        exact this
      · obtain ⟨m, rfl⟩ : ∃ m, n = m + 1 := ⟨n - 1, by omega⟩
        have ih := ih m (by omega) (by omega) (by omega)
        have hp := p10 (k := k) (by omega)
        have hs : 10 ^ (k + 1) = 10 ^ k * 10 := Nat.pow_succ ..
        have hs1 := p10 (k := k + 1) (by omega)
        have ed : 10 ^ (k + 1) / 10 = 10 ^ k := by omega
        rw [f_X3_putNumber_L3]
        obtain ⟨P, hP⟩ : ∃ P, P = 10 ^ (k + 1) := ⟨_, rfl⟩
        rw [← hP] at h hs hs1 ed ⊢
        simp (disch := omega) only [↓reduceIte, eq_self, Bool.true_eq_false, Bool.false_eq_true, q_seqr, q_seql, v_ig, v_ni, v_le, v_nle, v_lt, v_nlt, v_eq, v_ne, v_gbt, v_gbf, v_gbd, v_m1lt, v_m1ge, v_m1ne, v_m1e, ↓q_bindD, ↓q_gLet, Option.isSome_some, Option.getD_some, nI_add, pk_mul, q_sub, q_m1, q_div, q_modN, nI_clamp, if_true, if_false, q_l0, q_l1, q_l2, q_l3, q_l4, q_l5, q_l6, q_l7, q_l8, q_l9, q_l10, q_l11, q_l12, q_l13, q_l14, q_l15, q_l16, q_l19, q_l20, q_l22, q_l24, q_l30, q_l32, q_l34, q_l36, q_l45, q_l47, q_l48, q_l57, q_l58, q_l59, q_l60, q_l61, q_l66, q_l75, q_l76, q_l94, q_l97, q_l99, q_l100, q_l101, q_l104, q_l105, q_l108, q_l109, q_l111, q_l114, q_l115, q_l116, q_l117, q_l118, q_l119, q_l120, q_l126, q_l132, q_l133, q_l135, q_l136, q_l138, q_l146, q_l147, q_l148, q_l149, q_l150, q_l151, q_l152, q_l153, q_l154, q_l155, q_l156, q_l157, q_l158, q_l214, q_l229, q_l244, q_l259, q_l300, q_l999, q_l1813, q_l2072, q_l10000, q_l65536, q_l1000000000, ed]
        exact ih
  have k0 := key 9 gF (by omega) (by unfold gF; omega) (by omega)
  unfold f_X3_putNumber
  rw [show (1000000000 : Int32) = nI (10 ^ 9) from q_l1000000000]
  exact k0
/-- the digits of a number, reference -/
theorem m_nums {M : gM} {v : Nat} (hv : v < 100000) : ∀ k n (L : List Nat), k ≤ 4 → k + 2 ≤ n → L.length + k < 100 → f_X7_writesNumber_L22 (nI v) n (nI (10 ^ k)) (mW M L) = some (mW M (L ++ dgs v k)) := by
  intro k
  induction k with
  | zero =>
    intro n L hk hn hL
    obtain ⟨m, rfl⟩ : ∃ m, n = m + 1 + 1 := ⟨n - 2, by omega⟩
    have pc := m_putC (M := M) (L := L) (c := 48 + v % 10) (by omega) (by omega)
    rw [show (10 : Nat) ^ 0 = 1 from rfl]
    rw [f_X7_writesNumber_L22]
    simp (disch := omega) only [↓reduceIte, eq_self, Bool.true_eq_false, Bool.false_eq_true, q_seqr, q_seql, v_ig, v_ni, v_le, v_nle, v_lt, v_nlt, v_eq, v_ne, v_gbt, v_gbf, v_gbd, v_m1lt, v_m1ge, v_m1ne, v_m1e, ↓q_bindD, ↓q_gLet, Option.isSome_some, Option.getD_some, nI_add, pk_mul, q_sub, q_m1, q_div, q_modN, nI_clamp, if_true, if_false, q_l0, q_l1, q_l2, q_l3, q_l4, q_l5, q_l6, q_l7, q_l8, q_l9, q_l10, q_l11, q_l12, q_l13, q_l14, q_l15, q_l16, q_l19, q_l20, q_l22, q_l24, q_l30, q_l32, q_l34, q_l36, q_l45, q_l47, q_l48, q_l57, q_l58, q_l59, q_l60, q_l61, q_l66, q_l75, q_l76, q_l94, q_l97, q_l99, q_l100, q_l101, q_l104, q_l105, q_l108, q_l109, q_l111, q_l114, q_l115, q_l116, q_l117, q_l118, q_l119, q_l120, q_l126, q_l132, q_l133, q_l135, q_l136, q_l138, q_l146, q_l147, q_l148, q_l149, q_l150, q_l151, q_l152, q_l153, q_l154, q_l155, q_l156, q_l157, q_l158, q_l214, q_l229, q_l244, q_l259, q_l300, q_l999, q_l1813, q_l2072, q_l10000, q_l65536, q_l1000000000, Nat.div_one, pc]
    rw [f_X7_writesNumber_L22]
    simp (disch := omega) only [↓reduceIte, eq_self, Bool.true_eq_false, Bool.false_eq_true, q_seqr, q_seql, v_ig, v_ni, v_le, v_nle, v_lt, v_nlt, v_eq, v_ne, v_gbt, v_gbf, v_gbd, v_m1lt, v_m1ge, v_m1ne, v_m1e, ↓q_bindD, ↓q_gLet, Option.isSome_some, Option.getD_some, nI_add, pk_mul, q_sub, q_m1, q_div, q_modN, nI_clamp, if_true, if_false, q_l0, q_l1, q_l2, q_l3, q_l4, q_l5, q_l6, q_l7, q_l8, q_l9, q_l10, q_l11, q_l12, q_l13, q_l14, q_l15, q_l16, q_l19, q_l20, q_l22, q_l24, q_l30, q_l32, q_l34, q_l36, q_l45, q_l47, q_l48, q_l57, q_l58, q_l59, q_l60, q_l61, q_l66, q_l75, q_l76, q_l94, q_l97, q_l99, q_l100, q_l101, q_l104, q_l105, q_l108, q_l109, q_l111, q_l114, q_l115, q_l116, q_l117, q_l118, q_l119, q_l120, q_l126, q_l132, q_l133, q_l135, q_l136, q_l138, q_l146, q_l147, q_l148, q_l149, q_l150, q_l151, q_l152, q_l153, q_l154, q_l155, q_l156, q_l157, q_l158, q_l214, q_l229, q_l244, q_l259, q_l300, q_l999, q_l1813, q_l2072, q_l10000, q_l65536, q_l1000000000]
    rfl
  | succ k ih =>
    intro n L hk hn hL
    obtain ⟨m, rfl⟩ : ∃ m, n = m + 1 := ⟨n - 1, by omega⟩
    have hp := p10 (k := k) (by omega)
    have hs : 10 ^ (k + 1) = 10 ^ k * 10 := Nat.pow_succ ..
    have hs1 := p10 (k := k + 1) (by omega)
    have pc := m_putC (M := M) (L := L) (c := 48 + v / 10 ^ (k + 1) % 10) (by omega) (by omega)
    have ih := ih m (L ++ [48 + v / 10 ^ (k + 1) % 10]) (by omega) (by omega) (by rw [List.length_append]; simp; omega)
    have ed : 10 ^ (k + 1) / 10 = 10 ^ k := by omega
    have hq : v / 10 ^ (k + 1) ≤ v := Nat.div_le_self _ _
    rw [List.append_assoc] at ih
    rw [f_X7_writesNumber_L22]
    obtain ⟨P, hP⟩ : ∃ P, P = 10 ^ (k + 1) := ⟨_, rfl⟩
    rw [← hP] at pc ih hs1 ed hq ⊢
    simp (disch := omega) only [↓reduceIte, eq_self, Bool.true_eq_false, Bool.false_eq_true, q_seqr, q_seql, v_ig, v_ni, v_le, v_nle, v_lt, v_nlt, v_eq, v_ne, v_gbt, v_gbf, v_gbd, v_m1lt, v_m1ge, v_m1ne, v_m1e, ↓q_bindD, ↓q_gLet, Option.isSome_some, Option.getD_some, nI_add, pk_mul, q_sub, q_m1, q_div, q_modN, nI_clamp, if_true, if_false, q_l0, q_l1, q_l2, q_l3, q_l4, q_l5, q_l6, q_l7, q_l8, q_l9, q_l10, q_l11, q_l12, q_l13, q_l14, q_l15, q_l16, q_l19, q_l20, q_l22, q_l24, q_l30, q_l32, q_l34, q_l36, q_l45, q_l47, q_l48, q_l57, q_l58, q_l59, q_l60, q_l61, q_l66, q_l75, q_l76, q_l94, q_l97, q_l99, q_l100, q_l101, q_l104, q_l105, q_l108, q_l109, q_l111, q_l114, q_l115, q_l116, q_l117, q_l118, q_l119, q_l120, q_l126, q_l132, q_l133, q_l135, q_l136, q_l138, q_l146, q_l147, q_l148, q_l149, q_l150, q_l151, q_l152, q_l153, q_l154, q_l155, q_l156, q_l157, q_l158, q_l214, q_l229, q_l244, q_l259, q_l300, q_l999, q_l1813, q_l2072, q_l10000, q_l65536, q_l1000000000, pc, ed]
    rw [hP] at ih ⊢
    exact ih
theorem m_putNumber {M : gM} {v : Nat} {L : List Nat} (hv : v < 100000) (hL : L.length < 95) : f_X7_writesNumber (nI v) (mW M L) = some (mW M (L ++ dgt v)) := by
  have key : ∀ k n, k ≤ 4 → k + 2 ≤ n → v < 10 ^ (k + 1) → f_X7_writesNumber_L4 (nI v) n (nI (10 ^ k)) (mW M L) = some (mW M (L ++ dgt v)) := by
    intro k
    induction k with
    | zero =>
      intro n hk hn hv2
      obtain ⟨m, rfl⟩ : ∃ m, n = m + 1 := ⟨n - 1, by omega⟩
      have := m_nums (M := M) hv 0 gF L (by omega) (by unfold gF; omega) (by omega)
      unfold dgt
      rw [lgk_of (Or.inl rfl) hv2 (by omega), f_X7_writesNumber_L4, if_pos (show nI (10 ^ 0) ≤ 1 from nI_le (a := 1) (b := 1) (by omega) (by omega))]
      exact this
    | succ k ih =>
      intro n hk hn hv2
      obtain ⟨m, rfl⟩ : ∃ m, n = m + 1 := ⟨n - 1, by omega⟩
      have hp := p10 (k := k) (by omega)
      have hs : 10 ^ (k + 1) = 10 ^ k * 10 := Nat.pow_succ ..
      have hs1 := p10 (k := k + 1) (by omega)
      have n1 : ¬ nI (10 ^ (k + 1)) ≤ (1 : Int32) := nI_ge (show 1 < 10 ^ (k + 1) by omega) (by omega)
      rw [f_X7_writesNumber_L4, if_neg n1]
      by_cases h : 10 ^ (k + 1) ≤ v
      · have := m_nums (M := M) hv (k + 1) gF L hk (by unfold gF; omega) (by omega)
        unfold dgt
        rw [lgk_of (Or.inr h) hv2 hk, if_pos (nI_le h (by omega))]
        exact this
      · have ih := ih m (by omega) (by omega) (by omega)
        have ed : 10 ^ (k + 1) / 10 = 10 ^ k := by omega
        rw [if_neg (nI_ge (show v < 10 ^ (k + 1) by omega) (by omega)), q_gLet, show (10 : Int32) = nI 10 by decide, q_div (by omega) (by omega) (by omega), ed]
        exact ih
  have k0 := key 4 gF (by omega) (by unfold gF; omega) (by omega)
  unfold f_X7_writesNumber
  rw [show (10000 : Int32) = nI (10 ^ 4) from q_l10000]
  exact k0
