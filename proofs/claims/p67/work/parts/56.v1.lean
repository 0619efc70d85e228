/-! The class's commands. -/
def wdN : Nat → List Nat
  | 0 => [111, 114, 32]
  | 1 => [118, 101, 32]
  | 2 => [115, 116, 111, 119, 32]
  | 3 => [99, 108, 101, 97, 114, 32]
  | 4 => [100, 101, 108, 105, 118, 101, 114, 32]
  | 5 => [108, 101, 97, 118, 101, 32]
  | _ => [104, 111, 117, 114, 115, 32]
def wI (k : Nat) : List (Nat × Nat) := (wdN k).map (fun c => (0, c))
theorem wd_ok : ∀ k, k < 7 → gWb.getD k [] = (wdN k).map nI ∧ gWl.getD k 0 = (wdN k).length ∧ (wdN k).length < 10 := by decide
theorem cX_app (a b : List (Nat × Nat)) : ∀ (i : Nat) (M : gM), itOK a → cX i (a ++ b) M = (cX i a M).bind fun q => if gb q.1 = 0 then some (false, q.2) else cX (i + itN a) b q.2 := by
  induction a with
  | nil => intro i M _; rfl
  | cons it r ih =>
    intro i M ho
    have pz : ∀ (q : Bool × gM) (X : Option (Bool × gM)) (Y : Option (Bool × gM)), ((if gb q.1 = 0 then some (false, q.2) else X).bind fun z => if gb z.1 = 0 then some (false, z.2) else Y) = if gb q.1 = 0 then some (false, q.2) else X.bind fun z => if gb z.1 = 0 then some (false, z.2) else Y := fun q X Y => by
      by_cases h : gb q.1 = 0
      · rw [if_pos h, if_pos h, Option.bind_some, if_pos (show gb false = 0 from rfl)]
      · rw [if_neg h, if_neg h]
    obtain ⟨k, c⟩ := it
    have fin : ∀ (x : Option (Bool × gM)) (j : Nat), (∀ M', cX j (r ++ b) M' = (cX j r M').bind fun q => if gb q.1 = 0 then some (false, q.2) else cX (j + itN r) b q.2) →
        (x.bind fun q => if gb q.1 = 0 then some (false, q.2) else cX j (r ++ b) q.2) = (x.bind fun q => if gb q.1 = 0 then some (false, q.2) else cX j r q.2).bind fun q => if gb q.1 = 0 then some (false, q.2) else cX (j + itN r) b q.2 := fun x j hj => by
      cases x with
      | none => rfl
      | some q =>
        rw [Option.bind_some, Option.bind_some]
        by_cases h : gb q.1 = 0
        · rw [if_pos h, if_pos h, Option.bind_some, if_pos (show gb false = 0 from rfl)]
        · rw [if_neg h, if_neg h, hj]
    match k, ho with
    | 0, ho => exact fin _ i (fun M' => ih i M' ho.2)
    | 1, ho =>
      have e : i + itN ((1, c) :: r) = i + 1 + itN r := by show i + (itN r + 1) = _; omega
      rw [e]
      exact fin _ (i + 1) (fun M' => ih (i + 1) M' ho)
    | 2, ho => exact False.elim ho
    | 3, ho =>
      have e : i + itN ((3, c) :: r) = i + 1 + itN r := by show i + (itN r + 1) = _; omega
      rw [e]
      exact fin _ (i + 1) (fun M' => ih (i + 1) M' ho)
    | k + 4, ho => exact False.elim ho
theorem c_word {k : Nat} (hk : k < 7) (i : Nat) (M : gM) : f_X2_readWord k M = cX i (wI k) M := by
  obtain ⟨h1, h2, h3⟩ := wd_ok k hk
  have key : ∀ d n v M, v + d = (wdN k).length → d < n → f_X2_readWord_L2 k n (nI v) M = cX i (((wdN k).drop v).map (fun c => (0, c))) M := by
    intro d
    induction d with
    | zero =>
      intro n v M hv hn
      obtain ⟨m, rfl⟩ : ∃ m, n = m + 1 := ⟨n - 1, by omega⟩
      rw [f_X2_readWord_L2, h2, if_pos (nI_le (by omega) (by omega)), List.drop_eq_nil_of_le (by omega)]
      rfl
    | succ d ih =>
      intro n v M hv hn
      obtain ⟨m, rfl⟩ : ∃ m, n = m + 1 := ⟨n - 1, by omega⟩
      have hlt : v < (wdN k).length := by omega
      have eg : ((wdN k).map nI).getD v 0 = nI ((wdN k)[v]) := by
        rw [List.getD_eq_getElem?_getD, List.getElem?_map, List.getElem?_eq_getElem hlt]
        rfl
      rw [List.drop_eq_getElem_cons hlt, List.map_cons, cX, f_X2_readWord_L2, h1, h2, if_neg (nI_ge hlt (by omega)), if_pos (show gin (nI v) (wdN k).length from ⟨by rw [nI_toInt (by omega)]; omega, by rw [nI_toInt (by omega)]; omega⟩), nI_clamp (by omega), eg]
      congr 1
      funext q
      rw [show nI v + 1 = nI (v + 1) from nI_add _ 1, ih m (v + 1) q.2 (by omega) (by omega)]
  have k0 := key (wdN k).length gF 0 M (by omega) (by unfold gF; omega)
  exact k0
def kd (k : Nat) : Nat := if k = 99 then 3 else if k = 100 then 5 else if k = 104 then 7 else if k = 108 then 6 else if k = 115 then 2 else if k = 109 then 1 else 4
def its (k : Nat) : List (Nat × Nat) :=
  if k = 99 then wI 3 ++ [(1, 0), (1, 0), (0, 61), (1, 0)] else if k = 100 then wI 4 ++ [(3, 0)] else if k = 104 then wI 6 ++ [(3, 0)] else if k = 108 then wI 5 ++ [(1, 0)]
  else if k = 115 then wI 2 ++ [(1, 0), (1, 0), (0, 32), (3, 0), (0, 47), (3, 0)] else if k = 109 then (0, 109) :: (0, 111) :: (wI 0 ++ [(1, 0), (0, 32), (1, 0), (0, 32), (3, 0)]) else (0, 109) :: (0, 111) :: (wI 1 ++ [(1, 0), (1, 0), (1, 0)])
def isK (k : Nat) : Prop := k = 99 ∨ k = 100 ∨ k = 104 ∨ k = 108 ∨ k = 115 ∨ k = 109 ∨ k = 118
/-- the command's letter; 'move' has v's -/
def ltr (tx : Nat → Nat) (t p : Nat) : Nat := if p < t then (if tx p = 109 then (if p + 1 < t ∧ tx (p + 1) = 111 ∧ p + 2 < t ∧ tx (p + 2) = 118 then 118 else 109) else if tx p = 99 ∨ tx p = 100 ∨ tx p = 104 ∨ tx p = 108 ∨ tx p = 115 then tx p else 0) else 0
def pC (tx : Nat → Nat) (t p : Nat) : Bool × Nat × List Nat := if ltr tx t p = 0 then (false, p, []) else pI tx t (its (ltr tx t p)) p []
theorem q_eta {α : Type} (x : Option (α × gM)) : (x.bind fun r => some (r.1, r.2)) = x := by
  cases x with
  | none => rfl
  | some q => rfl
theorem q_eta2 (x : Option (Bool × gM)) : (x.bind fun r => if gb r.1 = 0 then some (false, r.2) else some (true, r.2)) = x := by
  cases x with
  | none => rfl
  | some q =>
    obtain ⟨b, M⟩ := q
    cases b <;> rfl
theorem c_beginK {M : gM} {n : Nat} (h : M 135 2 = nI n) (hn : n < 8) (v : Int32) : f_X4_begin v M = some (gs (gs M 136 n v) 135 2 (nI (n + 1))) := by
  have e := c_isRow hn M
  unfold f_X4_begin
  simp (disch := omega) only [↓reduceIte, eq_self, Bool.true_eq_false, Bool.false_eq_true, q_seqr, q_seql, v_ig, v_ni, v_le, v_nle, v_lt, v_nlt, v_eq, v_ne, v_gbt, v_gbf, v_gbd, v_m1lt, v_m1ge, v_m1ne, v_m1e, ↓q_bindD, ↓q_gLet, Option.isSome_some, Option.getD_some, nI_add, pk_mul, q_sub, q_m1, q_div, q_modN, nI_clamp, if_true, if_false, q_l0, q_l1, q_l2, q_l3, q_l4, q_l5, q_l6, q_l7, q_l8, q_l9, q_l10, q_l11, q_l12, q_l13, q_l14, q_l15, q_l16, q_l19, q_l20, q_l22, q_l24, q_l30, q_l32, q_l34, q_l36, q_l45, q_l47, q_l48, q_l57, q_l58, q_l59, q_l60, q_l61, q_l66, q_l75, q_l76, q_l94, q_l97, q_l99, q_l100, q_l101, q_l104, q_l105, q_l108, q_l109, q_l111, q_l114, q_l115, q_l116, q_l117, q_l118, q_l119, q_l120, q_l126, q_l132, q_l133, q_l135, q_l136, q_l138, q_l146, q_l147, q_l148, q_l149, q_l150, q_l151, q_l152, q_l153, q_l154, q_l155, q_l156, q_l157, q_l158, q_l214, q_l229, q_l244, q_l259, q_l300, q_l999, q_l1813, q_l2072, q_l10000, q_l65536, q_l1000000000, h, e, q_gsn]
theorem c_clearX (M : gM) : f_X2_readClear M = (f_X4_begin (nI 3) M).bind (cX 0 (its 99)) := by
  show (f_X4_begin (nI 3) M).bind (fun r1 => (f_X2_readWord 3 r1).bind fun q => if gb q.1 = 0 then some (false, q.2) else cX (0 + itN (wI 3)) [(1, 0), (1, 0), (0, 61), (1, 0)] q.2) = _
  congr 1
  funext r1
  rw [c_word (by omega) 0, show its 99 = wI 3 ++ [(1, 0), (1, 0), (0, 61), (1, 0)] from rfl, cX_app _ _ _ _ (by simp [wI, wdN, itOK])]
theorem c_stowX (M : gM) : f_X2_readStow M = (f_X4_begin (nI 2) M).bind (cX 0 (its 115)) := by
  show (f_X4_begin (nI 2) M).bind (fun r1 => (f_X2_readWord 2 r1).bind fun q => if gb q.1 = 0 then some (false, q.2) else cX (0 + itN (wI 2)) [(1, 0), (1, 0), (0, 32), (3, 0), (0, 47), (3, 0)] q.2) = _
  congr 1
  funext r1
  rw [c_word (by omega) 0, show its 115 = wI 2 ++ [(1, 0), (1, 0), (0, 32), (3, 0), (0, 47), (3, 0)] from rfl, cX_app _ _ _ _ (by simp [wI, wdN, itOK])]
def itM : List (Nat × Nat) := wI 0 ++ [(1, 0), (0, 32), (1, 0), (0, 32), (3, 0)]
def itV : List (Nat × Nat) := wI 1 ++ [(1, 0), (1, 0), (1, 0)]
theorem c_moorX (M : gM) : f_X2_readMoor M = (f_X4_begin (nI 1) M).bind (cX 0 itM) := by
  show (f_X4_begin (nI 1) M).bind (fun r1 => (f_X2_readWord 0 r1).bind fun q => if gb q.1 = 0 then some (false, q.2) else cX (0 + itN (wI 0)) [(1, 0), (0, 32), (1, 0), (0, 32), (3, 0)] q.2) = _
  congr 1
  funext r1
  rw [c_word (by omega) 0, itM, cX_app _ _ _ _ (by simp [wI, wdN, itOK])]
theorem c_moveX (M : gM) : f_X2_readMove M = (f_X4_begin (nI 4) M).bind (cX 0 itV) := by
  show (f_X4_begin (nI 4) M).bind (fun r1 => (f_X2_readWord 1 r1).bind fun q => if gb q.1 = 0 then some (false, q.2) else cX (0 + itN (wI 1)) [(1, 0), (1, 0), (1, 0)] q.2) = _
  congr 1
  funext r1
  rw [c_word (by omega) 0, itV, cX_app _ _ _ _ (by simp [wI, wdN, itOK])]
theorem c_delX (M : gM) : ((f_X4_begin 5 M).bind fun r7 => (f_X2_readWord 4 r7).bind fun r9 => (if (gb r9.1) = 0 then some (false, r9.2) else (f_X2_readNumber 0 r9.2).bind fun r12 => (if (gb r12.1) = 0 then some (false, r12.2) else some (true, r12.2)))) = (f_X4_begin (nI 5) M).bind (cX 0 (its 100)) := by
  show (f_X4_begin (nI 5) M).bind (fun r1 => (f_X2_readWord 4 r1).bind fun q => if gb q.1 = 0 then some (false, q.2) else cX (0 + itN (wI 4)) [(3, 0)] q.2) = _
  congr 1
  funext r1
  rw [c_word (by omega) 0, show its 100 = wI 4 ++ [(3, 0)] from rfl, cX_app _ _ _ _ (by simp [wI, wdN, itOK])]
theorem c_hourX (M : gM) : ((f_X4_begin 7 M).bind fun r7 => (f_X2_readWord 6 r7).bind fun r9 => (if (gb r9.1) = 0 then some (false, r9.2) else (f_X2_readNumber 0 r9.2).bind fun r12 => (if (gb r12.1) = 0 then some (false, r12.2) else some (true, r12.2)))) = (f_X4_begin (nI 7) M).bind (cX 0 (its 104)) := by
  show (f_X4_begin (nI 7) M).bind (fun r1 => (f_X2_readWord 6 r1).bind fun q => if gb q.1 = 0 then some (false, q.2) else cX (0 + itN (wI 6)) [(3, 0)] q.2) = _
  congr 1
  funext r1
  rw [c_word (by omega) 0, show its 104 = wI 6 ++ [(3, 0)] from rfl, cX_app _ _ _ _ (by simp [wI, wdN, itOK])]
theorem c_leaX (M : gM) : ((f_X4_begin 6 M).bind fun r7 => (f_X2_readWord 5 r7).bind fun r9 => (if (gb r9.1) = 0 then some (false, r9.2) else (f_X2_readDigit 0 r9.2).bind fun r12 => (if (gb r12.1) = 0 then some (false, r12.2) else some (true, r12.2)))) = (f_X4_begin (nI 6) M).bind (cX 0 (its 108)) := by
  show (f_X4_begin (nI 6) M).bind (fun r1 => (f_X2_readWord 5 r1).bind fun q => if gb q.1 = 0 then some (false, q.2) else cX (0 + itN (wI 5)) [(1, 0)] q.2) = _
  congr 1
  funext r1
  rw [c_word (by omega) 0, show its 108 = wI 5 ++ [(1, 0)] from rfl, cX_app _ _ _ _ (by simp [wI, wdN, itOK])]
theorem its_ok : ∀ k, isK k → itOK (its k) ∧ itN (its k) ≤ 4 ∧ 7 ≤ (its k).length := by
  intro k hk
  rcases hk with rfl | rfl | rfl | rfl | rfl | rfl | rfl <;> exact ⟨by simp [its, wI, wdN, itOK], by decide, by decide⟩
/-- what a command leaves alone -/
def gFrK (M B : gM) : Prop := (∀ a, ¬ (135 ≤ a ∧ a ≤ 146) → B a = M a) ∧ ∀ j, j ≠ 2 → B 146 j = M 146 j
section RK
variable {M : gM} {tx : Nat → Nat} {t p n : Nat}
/-- from the begun command on -/
theorem c_cmdK {M0 : gM} {k p1 : Nat} {items : List (Nat × Nat)} (h : tS M tx t p1) (h2 : M 135 2 = nI n) (hn : n < 8) (hf : gFrK M0 M) (h136 : ∀ j, M 136 j = M0 136 j) (h138 : M 137 = M0 137) (ho : itOK items) (hN : itN items ≤ 4)
    (hr : f_X2_readCommand M0 = (f_X4_begin (nI (kd k)) M).bind (cX 0 items)) (hp : pC tx t p = pI tx t items p1 []) :
    (∃ p' vs B, p' ≤ t ∧ pC tx t p = (true, p', vs) ∧ f_X2_readCommand M0 = some (true, cPs B (n + 1) p' vs) ∧ B 136 n = nI (kd k) ∧ B 135 2 = nI (n + 1) ∧ gFrK M0 B ∧ (∀ j, j ≠ n → B 136 j = M0 136 j) ∧ B 137 = M0 137) ∨
    (∃ e vs M', e ≤ t ∧ pC tx t p = (false, e, vs) ∧ f_X2_readCommand M0 = some (false, M') ∧ M' 146 2 = nI e ∧ gFrK M0 M') := by
  obtain ⟨B, hB⟩ : ∃ B, B = gs (gs M 136 n (nI (kd k))) 135 2 (nI (n + 1)) := ⟨_, rfl⟩
  have hb := c_beginK h2 hn (nI (kd k))
  rw [← hB] at hb
  have o : ∀ a, a ≠ 135 → a ≠ 136 → B a = M a := fun a h1 h2 => by rw [hB, q_gsn h1, q_gsn h2]
  have tB : tS B tx t p1 := by
    obtain ⟨a1, a2, a3, a4, a5⟩ := h
    exact ⟨by rw [o 146 (by omega) (by omega)]; exact a1, by rw [o 146 (by omega) (by omega)]; exact a2, by rw [o 147 (by omega) (by omega)]; exact a3, a4, a5⟩
  have b135 : B 135 2 = nI (n + 1) := by rw [hB]; exact q_gss rfl
  have b136 : B 136 n = nI (kd k) := by rw [hB, q_gsn (by omega), q_gss rfl]
  have b136' : ∀ j, j ≠ n → B 136 j = M0 136 j := fun j hj => by rw [hB, q_gsn (by omega), q_gsk hj, h136]
  have frB : gFrK M0 B := ⟨fun a ha => by rw [o a (by omega) (by omega), hf.1 a ha], fun j hj => by rw [o 146 (by omega) (by omega), hf.2 j hj]⟩
  have b138 : B 137 = M0 137 := by rw [o 137 (by omega) (by omega), h138]
  rw [hb, Option.bind_some, ← cPs_nil (M := B) (n := n + 1) tB.2.1] at hr
  rcases cX_ok tB (n := n + 1) (by omega) (by omega) b135 items p1 [] ho tB.2.2.2.2 (by simpa using hN) with ⟨p', vs, q1, q2, q3⟩ | ⟨e, vs, vs2, q1, q2, q3⟩
  · exact Or.inl ⟨p', vs, B, q1, by rw [hp, q2], by rw [hr]; exact q3, b136, b135, frB, b136', b138⟩
  · refine Or.inr ⟨e, vs, _, q1, by rw [hp, q2], by rw [hr]; exact q3, cPs_p, fun a ha => ?_, fun j hj => ?_⟩
    · rw [cPs_o (by omega) (by omega), frB.1 a ha]
    · rw [cPs_k (by omega) hj, frB.2 j hj]
theorem c_cmd (h : tS M tx t p) (h2 : M 135 2 = nI n) (hn : n < 8) :
    (∃ k p' vs B, isK k ∧ ltr tx t p = k ∧ p' ≤ t ∧ pC tx t p = (true, p', vs) ∧ f_X2_readCommand M = some (true, cPs B (n + 1) p' vs) ∧ B 136 n = nI (kd k) ∧ B 135 2 = nI (n + 1) ∧ gFrK M B ∧ (∀ j, j ≠ n → B 136 j = M 136 j) ∧ B 137 = M 137) ∨
    (∃ e vs M', e ≤ t ∧ pC tx t p = (false, e, vs) ∧ f_X2_readCommand M = some (false, M') ∧ M' 146 2 = nI e ∧ gFrK M M') := by
  have hnx := c_next h
  have rf : gFrK M M := ⟨fun _ _ => rfl, fun _ _ => rfl⟩
  have simple : ∀ k, isK k → k ≠ 118 → k ≠ 109 → ltr tx t p = k → f_X2_readCommand M = (f_X4_begin (nI (kd k)) M).bind (cX 0 (its k)) → _ := fun k hk h8 h9 hl hr => by
    have hk0 : ¬ k = 0 := by
      rcases hk with rfl | rfl | rfl | rfl | rfl | rfl | rfl <;> omega
    have hp : pC tx t p = pI tx t (its k) p [] := by unfold pC; rw [hl, if_neg hk0]
    have ok := its_ok k hk
    exact (c_cmdK (p := p) h h2 hn rf (fun _ => rfl) rfl ok.1 ok.2.1 hr hp).imp (fun ⟨p', vs, B, q1, q2, q3⟩ => (⟨k, p', vs, B, hk, hl, q1, q2, q3⟩ : ∃ k p' vs B, isK k ∧ ltr tx t p = k ∧ p' ≤ t ∧ pC tx t p = (true, p', vs) ∧ f_X2_readCommand M = some (true, cPs B (n + 1) p' vs) ∧ B 136 n = nI (kd k) ∧ B 135 2 = nI (n + 1) ∧ gFrK M B ∧ (∀ j, j ≠ n → B 136 j = M 136 j) ∧ B 137 = M 137)) id
  by_cases hp : p < t
  · rw [if_pos hp] at hnx
    have hx := (h.2.2.1 p hp).2
    have L : ltr tx t p = if tx p = 109 then (if p + 1 < t ∧ tx (p + 1) = 111 ∧ p + 2 < t ∧ tx (p + 2) = 118 then 118 else 109) else if tx p = 99 ∨ tx p = 100 ∨ tx p = 104 ∨ tx p = 108 ∨ tx p = 115 then tx p else 0 := by unfold ltr; rw [if_pos hp]
    by_cases x99 : tx p = 99
    · rw [x99] at hnx
      refine simple 99 (by unfold isK; omega) (by omega) (by omega) (by rw [L, if_neg (by omega), if_pos (by omega), x99]) ?_
      unfold f_X2_readCommand
      rw [hnx, Option.bind_some, if_pos (show nI 99 = (99 : Int32) by decide), q_eta, c_clearX]
      rfl
    by_cases x100 : tx p = 100
    · rw [x100] at hnx
      refine simple 100 (by unfold isK; omega) (by omega) (by omega) (by rw [L, if_neg (by omega), if_pos (by omega), x100]) ?_
      unfold f_X2_readCommand
      rw [hnx, Option.bind_some, if_neg (show ¬ nI 100 = (99 : Int32) by decide), if_pos (show nI 100 = (100 : Int32) by decide), c_delX]
      rfl
    by_cases x104 : tx p = 104
    · rw [x104] at hnx
      refine simple 104 (by unfold isK; omega) (by omega) (by omega) (by rw [L, if_neg (by omega), if_pos (by omega), x104]) ?_
      unfold f_X2_readCommand
      rw [hnx, Option.bind_some, if_neg (show ¬ nI 104 = (99 : Int32) by decide), if_neg (show ¬ nI 104 = (100 : Int32) by decide), if_pos (show nI 104 = (104 : Int32) by decide), c_hourX]
      rfl
    by_cases x108 : tx p = 108
    · rw [x108] at hnx
      refine simple 108 (by unfold isK; omega) (by omega) (by omega) (by rw [L, if_neg (by omega), if_pos (by omega), x108]) ?_
      unfold f_X2_readCommand
      rw [hnx, Option.bind_some, if_neg (show ¬ nI 108 = (99 : Int32) by decide), if_neg (show ¬ nI 108 = (100 : Int32) by decide), if_neg (show ¬ nI 108 = (104 : Int32) by decide), if_pos (show nI 108 = (108 : Int32) by decide), c_leaX]
      rfl
    by_cases x115 : tx p = 115
    · rw [x115] at hnx
      refine simple 115 (by unfold isK; omega) (by omega) (by omega) (by rw [L, if_neg (by omega), if_pos (by omega), x115]) ?_
      unfold f_X2_readCommand
      rw [hnx, Option.bind_some, if_neg (show ¬ nI 115 = (99 : Int32) by decide), if_neg (show ¬ nI 115 = (100 : Int32) by decide), if_neg (show ¬ nI 115 = (104 : Int32) by decide), if_neg (show ¬ nI 115 = (108 : Int32) by decide), if_neg (show ¬ nI 115 = (109 : Int32) by decide), if_pos (show nI 115 = (115 : Int32) by decide), q_eta, c_stowX]
      rfl
    by_cases x109 : tx p = 109
    · rw [x109] at hnx
      have r1 := c_read h (c := 109) (by omega) (by omega)
      rw [if_pos ⟨hp, x109⟩] at r1
      obtain ⟨M1, hM1⟩ : ∃ M1, M1 = gs M 146 2 (nI (p + 1)) := ⟨_, rfl⟩
      rw [← hM1] at r1
      have o1 : ∀ a, a ≠ 146 → M1 a = M a := fun a ha => by rw [hM1, q_gsn ha]
      have k1 : ∀ j, j ≠ 2 → M1 146 j = M 146 j := fun j hj => by rw [hM1, q_gsk hj]
      have t1 : tS M1 tx t (p + 1) := by
        obtain ⟨a1, a2, a3, a4, a5⟩ := h
        exact ⟨by rw [k1 1 (by omega)]; exact a1, by rw [hM1, q_gss rfl], by rw [o1 147 (by omega)]; exact a3, a4, by omega⟩
      have r2 := c_read t1 (c := 111) (by omega) (by omega)
      have hd : f_X2_readCommand M = (f_X2_read (nI 111) M1).bind fun r37 => (if (gb r37.1) = 0 then some (false, r37.2) else (f_X2_nextChar r37.2).bind fun r40 => (if r40 = 118 then f_X2_readMove r37.2 else f_X2_readMoor r37.2)) := by
        unfold f_X2_readCommand
        rw [hnx, Option.bind_some, if_neg (show ¬ nI 109 = (99 : Int32) by decide), if_neg (show ¬ nI 109 = (100 : Int32) by decide), if_neg (show ¬ nI 109 = (104 : Int32) by decide), if_neg (show ¬ nI 109 = (108 : Int32) by decide), if_pos (show nI 109 = (109 : Int32) by decide), q_l109, r1, Option.bind_some, if_neg (show ¬ gb true = 0 by decide), q_l111]
        simp only [q_eta2]
      by_cases x111 : p + 1 < t ∧ tx (p + 1) = 111
      · rw [if_pos x111] at r2
        obtain ⟨M2, hM2⟩ : ∃ M2, M2 = gs M1 146 2 (nI (p + 1 + 1)) := ⟨_, rfl⟩
        rw [← hM2] at r2
        have o2 : ∀ a, a ≠ 146 → M2 a = M a := fun a ha => by rw [hM2, q_gsn ha, o1 a ha]
        have k2 : ∀ j, j ≠ 2 → M2 146 j = M 146 j := fun j hj => by rw [hM2, q_gsk hj, k1 j hj]
        have t2 : tS M2 tx t (p + 1 + 1) := by
          obtain ⟨a1, a2, a3, a4, a5⟩ := h
          exact ⟨by rw [k2 1 (by omega)]; exact a1, by rw [hM2, q_gss rfl], by rw [o2 147 (by omega)]; exact a3, a4, by omega⟩
        have n2 := c_next t2
        rw [r2, Option.bind_some, if_neg (show ¬ gb true = 0 by decide), n2, Option.bind_some] at hd
        have fr2 : gFrK M M2 := ⟨fun a ha => o2 a (by omega), k2⟩
        have hz : ∀ r, pI tx t ((0, 109) :: (0, 111) :: r) p [] = pI tx t r (p + 1 + 1) [] := fun r => by
          rw [pI, if_pos ⟨hp, x109⟩, pI, if_pos x111]
        by_cases x118 : p + 1 + 1 < t ∧ tx (p + 1 + 1) = 118
        · have l1 : ltr tx t p = 118 := by rw [L, if_pos x109, if_pos ⟨x111.1, x111.2, x118.1, x118.2⟩]
          rw [if_pos x118.1, x118.2, if_pos (show nI 118 = (118 : Int32) by decide), c_moveX] at hd
          have hp2 : pC tx t p = pI tx t itV (p + 1 + 1) [] := by
            unfold pC
            rw [l1, if_neg (by omega)]
            exact hz itV
          rcases c_cmdK (k := 118) (p := p) t2 (by rw [o2 135 (by omega)]; exact h2) hn fr2 (fun j => by rw [o2 136 (by omega)]) (o2 137 (by omega)) (by simp [itV, wI, wdN, itOK]) (by decide) hd hp2 with ⟨p', vs, B, q⟩ | q
          · exact Or.inl ⟨118, p', vs, B, by unfold isK; omega, l1, q⟩
          · exact Or.inr q
        · have l1 : ltr tx t p = 109 := by rw [L, if_pos x109, if_neg (fun q => x118 ⟨q.2.2.1, q.2.2.2⟩)]
          have hne : ¬ (if p + 1 + 1 < t then nI (tx (p + 1 + 1)) else nI 0) = (118 : Int32) := by
            rw [show (118 : Int32) = nI 118 by decide]
            by_cases z : p + 1 + 1 < t
            · have hx2 := (h.2.2.1 (p + 1 + 1) z).2
              rw [if_pos z]
              intro y
              exact x118 ⟨z, (nI_eq (by omega) (by omega)).mp y⟩
            · rw [if_neg z]
              decide
          rw [if_neg hne, c_moorX] at hd
          have hp2 : pC tx t p = pI tx t itM (p + 1 + 1) [] := by
            unfold pC
            rw [l1, if_neg (by omega)]
            exact hz itM
          rcases c_cmdK (k := 109) (p := p) t2 (by rw [o2 135 (by omega)]; exact h2) hn fr2 (fun j => by rw [o2 136 (by omega)]) (o2 137 (by omega)) (by simp [itM, wI, wdN, itOK]) (by decide) hd hp2 with ⟨p', vs, B, q⟩ | q
          · exact Or.inl ⟨109, p', vs, B, by unfold isK; omega, l1, q⟩
          · exact Or.inr q
      · rw [if_neg x111] at r2
        have l1 : ltr tx t p = 109 := by rw [L, if_pos x109, if_neg (fun q => x111 ⟨q.1, q.2.1⟩)]
        rw [r2, Option.bind_some, if_pos (show gb false = 0 from rfl)] at hd
        refine Or.inr ⟨p + 1, [], M1, by omega, ?_, hd, by rw [hM1, q_gss rfl], fun a ha => o1 a (by omega), k1⟩
        unfold pC
        rw [l1, if_neg (by omega)]
        show pI tx t ((0, 109) :: (0, 111) :: itM) p [] = _
        rw [pI, if_pos ⟨hp, x109⟩, pI, if_neg x111]
    · have l0 : ltr tx t p = 0 := by rw [L, if_neg x109, if_neg (by omega)]
      refine Or.inr ⟨p, [], M, by omega, by unfold pC; rw [if_pos l0], ?_, h.2.1, rf⟩
      unfold f_X2_readCommand
      rw [hnx, Option.bind_some]
      simp (disch := omega) only [↓reduceIte, eq_self, Bool.true_eq_false, Bool.false_eq_true, q_seqr, q_seql, v_ig, v_ni, v_le, v_nle, v_lt, v_nlt, v_eq, v_ne, v_gbt, v_gbf, v_gbd, v_m1lt, v_m1ge, v_m1ne, v_m1e, ↓q_bindD, ↓q_gLet, Option.isSome_some, Option.getD_some, nI_add, pk_mul, q_sub, q_m1, q_div, q_modN, nI_clamp, if_true, if_false, q_l0, q_l1, q_l2, q_l3, q_l4, q_l5, q_l6, q_l7, q_l8, q_l9, q_l10, q_l11, q_l12, q_l13, q_l14, q_l15, q_l16, q_l19, q_l20, q_l22, q_l24, q_l30, q_l32, q_l34, q_l36, q_l45, q_l47, q_l48, q_l57, q_l58, q_l59, q_l60, q_l61, q_l66, q_l75, q_l76, q_l94, q_l97, q_l99, q_l100, q_l101, q_l104, q_l105, q_l108, q_l109, q_l111, q_l114, q_l115, q_l116, q_l117, q_l118, q_l119, q_l120, q_l126, q_l132, q_l133, q_l135, q_l136, q_l138, q_l146, q_l147, q_l148, q_l149, q_l150, q_l151, q_l152, q_l153, q_l154, q_l155, q_l156, q_l157, q_l158, q_l214, q_l229, q_l244, q_l259, q_l300, q_l999, q_l1813, q_l2072, q_l10000, q_l65536, q_l1000000000]
  · rw [if_neg hp] at hnx
    have l0 : ltr tx t p = 0 := by unfold ltr; rw [if_neg hp]
    refine Or.inr ⟨p, [], M, h.2.2.2.2, by unfold pC; rw [if_pos l0], ?_, h.2.1, rf⟩
    unfold f_X2_readCommand
    rw [hnx, Option.bind_some]
    simp (disch := omega) only [↓reduceIte, eq_self, Bool.true_eq_false, Bool.false_eq_true, q_seqr, q_seql, v_ig, v_ni, v_le, v_nle, v_lt, v_nlt, v_eq, v_ne, v_gbt, v_gbf, v_gbd, v_m1lt, v_m1ge, v_m1ne, v_m1e, ↓q_bindD, ↓q_gLet, Option.isSome_some, Option.getD_some, nI_add, pk_mul, q_sub, q_m1, q_div, q_modN, nI_clamp, if_true, if_false, q_l0, q_l1, q_l2, q_l3, q_l4, q_l5, q_l6, q_l7, q_l8, q_l9, q_l10, q_l11, q_l12, q_l13, q_l14, q_l15, q_l16, q_l19, q_l20, q_l22, q_l24, q_l30, q_l32, q_l34, q_l36, q_l45, q_l47, q_l48, q_l57, q_l58, q_l59, q_l60, q_l61, q_l66, q_l75, q_l76, q_l94, q_l97, q_l99, q_l100, q_l101, q_l104, q_l105, q_l108, q_l109, q_l111, q_l114, q_l115, q_l116, q_l117, q_l118, q_l119, q_l120, q_l126, q_l132, q_l133, q_l135, q_l136, q_l138, q_l146, q_l147, q_l148, q_l149, q_l150, q_l151, q_l152, q_l153, q_l154, q_l155, q_l156, q_l157, q_l158, q_l214, q_l229, q_l244, q_l259, q_l300, q_l999, q_l1813, q_l2072, q_l10000, q_l65536, q_l1000000000]
end RK
