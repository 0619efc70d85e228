/-! The law's third terminal: from its beginning to its end it is one value; laid by wip/p67/gen/z0.py. -/
def zc {α : Type} [DecidableEq α] (o : Option ((String ⊕ α) × gM)) (v : α) (p : gM → Bool) : Bool := match o with
  | some (.inr x, M) => decide (x = v) && p M
  | _ => false
def zx {α : Type} (o : Option ((String ⊕ α) × gM)) (e : String) (p : gM → Bool) : Bool := match o with
  | some (.inl x, M) => decide (x = e) && p M
  | _ => false
def zn (o : Option ((String ⊕ Int32) × gM)) (p : gM → Bool) : Bool := match o with
  | some (.inr x, M) => decide (0 ≤ x) && p M
  | _ => false
def ze (o : Option (Bool × gM)) (v : Bool) (p : gM → Bool) : Bool := match o with
  | some (x, M) => decide (x = v) && p M
  | _ => false
def zp (o : Option gM) (p : gM → Bool) : Bool := match o with
  | some M => p M
  | _ => false
def zq {α : Type} [DecidableEq α] (o : Option α) (v : α) : Bool := match o with
  | some x => decide (x = v)
  | _ => false
def zl (bs : List Int32) (M : gM) : Bool := (List.range bs.length).all fun i => match f_X6_lineChar (nI i) M with
  | some (.inr c, _) => decide (c = bs.getD i 0)
  | _ => false
theorem zc_i {α : Type} [DecidableEq α] {o : Option ((String ⊕ α) × gM)} {v : α} {p : gM → Bool} (h : zc o v p = true) : ∃ M, o = some (.inr v, M) ∧ p M = true := by
  match o, h with
  | some (.inr x, M), h =>
    have h : (decide (x = v) && p M) = true := h
    rw [Bool.and_eq_true] at h
    exact ⟨M, by rw [of_decide_eq_true h.1], h.2⟩
theorem zx_i {α : Type} {o : Option ((String ⊕ α) × gM)} {e : String} {p : gM → Bool} (h : zx o e p = true) : ∃ M, o = some (.inl e, M) ∧ p M = true := by
  match o, h with
  | some (.inl x, M), h =>
    have h : (decide (x = e) && p M) = true := h
    rw [Bool.and_eq_true] at h
    exact ⟨M, by rw [of_decide_eq_true h.1], h.2⟩
theorem zn_i {o : Option ((String ⊕ Int32) × gM)} {p : gM → Bool} (h : zn o p = true) : ∃ x M, o = some (.inr x, M) ∧ 0 ≤ x ∧ p M = true := by
  match o, h with
  | some (.inr x, M), h =>
    have h : (decide (0 ≤ x) && p M) = true := h
    rw [Bool.and_eq_true] at h
    exact ⟨x, M, rfl, of_decide_eq_true h.1, h.2⟩
theorem ze_i {o : Option (Bool × gM)} {v : Bool} {p : gM → Bool} (h : ze o v p = true) : ∃ M, o = some (v, M) ∧ p M = true := by
  match o, h with
  | some (x, M), h =>
    have h : (decide (x = v) && p M) = true := h
    rw [Bool.and_eq_true] at h
    exact ⟨M, by rw [of_decide_eq_true h.1], h.2⟩
theorem zp_i {o : Option gM} {p : gM → Bool} (h : zp o p = true) : ∃ M, o = some M ∧ p M = true := by
  match o, h with
  | some M, h => exact ⟨M, rfl, h⟩
theorem zq_i {α : Type} [DecidableEq α] {o : Option α} {v : α} {b : Bool} (h : (zq o v && b) = true) : o = some v ∧ b = true := by
  rw [Bool.and_eq_true] at h
  refine ⟨?_, h.2⟩
  match o, h.1 with
  | some x, h => exact congrArg some (of_decide_eq_true h)
theorem line_same {v : Int32} {M M1 : gM} {oc : String ⊕ Int32} (h : f_X6_lineChar v M = some (oc, M1)) : M1 = M := by
  unfold f_X6_lineChar at h
  cases h9 : f_X3_hasIndex v M with
  | none => rw [h9] at h; cases h
  | some b =>
    rw [h9, Option.bind_some] at h
    by_cases q : gb b = 0
    · rw [if_pos q] at h; exact (congrArg Prod.snd (Option.some.inj h)).symm
    · rw [if_neg q] at h
      by_cases q1 : gin v 100
      · rw [if_pos q1] at h
        by_cases q2 : gin (M 149 v.toNatClampNeg) 65536
        · rw [if_pos q2] at h; exact (congrArg Prod.snd (Option.some.inj h)).symm
        · rw [if_neg q2] at h; cases h
      · rw [if_neg q1] at h; cases h
theorem zl_i {bs : List Int32} {M : gM} {b : Bool} (h : (zl bs M && b) = true) : (∀ i, i < bs.length → f_X6_lineChar (nI i) M = some (.inr (bs.getD i 0), M)) ∧ b = true := by
  rw [Bool.and_eq_true] at h
  refine ⟨fun i hi => ?_, h.2⟩
  have h1 := List.all_eq_true.mp h.1 i (List.mem_range.mpr hi)
  cases hf : f_X6_lineChar (nI i) M with
  | none => rw [hf] at h1; cases h1
  | some z =>
    obtain ⟨oc, M1⟩ := z
    rw [hf] at h1
    have e := line_same hf
    subst e
    cases oc with
    | inl e => cases h1
    | inr c =>
      have h1 : decide (c = bs.getD i 0) = true := h1
      rw [of_decide_eq_true h1]
def ln_B1 : List Int32 := [66, 49, 32, 100, 55, 32, 104, 50, 32, 48]
def ln_B0 : List Int32 := [66, 48, 32, 45]
def ln_S : List Int32 := [51, 58, 51, 48, 47, 57, 57]
def zA : List Int32 := [109, 111, 111, 114, 32, 49, 32, 55, 32, 50, 59, 115, 116, 111, 119, 32, 49, 50, 32]
def zB : List Int32 := [47]
def zC : List Int32 := [59, 115, 116, 111, 119, 32, 49, 50, 32, 50, 48, 47, 53, 48, 59, 115, 116, 111, 119, 32, 49, 48, 32]
def zT (w k : Nat) : List Int32 := (((((zA ++ dig w) ++ zB) ++ dig k) ++ zC) ++ dig w) ++ zB ++ dig k
def zOK (w k : Nat) (v8 : Int32) (M : gM) : Bool := ze (f_X6_isConsistent M) true fun M => zq (f_X6_shipCount M) 0 && zq (f_X6_tide M) 0 && zq (f_X6_yardCount M) 0 && zc (f_X6_canLeave 0 M) false fun M => zx (f_X6_mostUrgent M) "java/util/NoSuchElementException" fun M => zx (f_X6_leave 0 M) "java/lang/IllegalStateException" fun M => zx (f_X6_stow 0 0 1 1 M) "java/lang/IllegalStateException" fun M => zx (f_X6_clear 0 0 10 M) "java/lang/IllegalArgumentException" fun M => zp (pPut (zT w k) M) fun M => zc (f_X6_run M) 4 fun M => zc (f_X6_containersOn 1 M) 3 fun M => zc (f_X6_topOf 1 2 M) 1 fun M => zc (f_X6_answerOf 0 M) v8 fun M => zc (f_X6_movesToReach 0 M) 1 fun M => zc (f_X6_movesToReachByCopy 0 M) 1 fun M => zc (f_X6_heaviestAbove 0 M) 1 fun M => zc (f_X6_heavyOverLight 1 2 M) 1 fun M => zq (f_X6_keyTwins M) 1 && zq (f_X6_keyTwinsByGroups M) 1 && zc (f_X6_weightOn 1 M) (2 * nI w + 20) fun M => zc (f_X6_weightOnByContainers 1 M) (2 * nI w + 20) fun M => zc (f_X6_containerByWeight 0 M) 1 fun M => zc (f_X6_containerByWeight 1 M) 0 fun M => zc (f_X6_emptiestStack 1 M) 1 fun M => zc (f_X6_hoursUntilFloating 1 M) 3 fun M => zc (f_X6_hoursUntilFloatingByTide 1 M) 3 fun M => zc (f_X6_floats 1 M) false fun M => zc (f_X6_clear 1 2 1 M) false fun M => zc (f_X6_wrongAnswers 1 M) 1 fun M => zq (f_X6_fees M) 5 && zc (f_X6_clear 1 2 9 M) false fun M => zc (f_X6_clear 1 2 5 M) false fun M => zq (f_X6_fees M) 15 && zc (f_X6_lockedHours 1 M) 2 fun M => zc (f_X6_wrongAnswers 1 M) 0 fun M => zx (f_X6_clear 1 2 0 M) "java/lang/IllegalStateException" fun M => zc (f_X6_feesAfter 3 M) 4 fun M => zc (f_X6_pass 1 M) 0 fun M => zc (f_X6_lockedHours 1 M) 1 fun M => zc (f_X6_pass 2 M) 4 fun M => zc (f_X6_lockedHours 1 M) 0 fun M => zc (f_X6_floats 1 M) true fun M => zc (f_X6_canLeave 1 M) false fun M => zq (f_X6_fees M) 19 && zc (f_X6_clear 1 2 0 M) true fun M => zc (f_X6_yardAt 0 M) 1 fun M => zc (f_X6_move 1 2 3 M) 0 fun M => zc (f_X6_clear 1 3 v8 M) true fun M => zc (f_X6_clear 1 0 v8 M) true fun M => zq (f_X6_yardCount M) 3 && zq (f_X6_keyTwins M) 1 && zc (f_X6_rightShare M) 1056964608 fun M => zc (f_X6_deliver 0 M) 2 fun M => zc (f_X6_yardAt 1 M) 2 fun M => zq (f_X6_keyTwins M) 0 && zq (f_X6_isInYard 0 M) false && zx (f_X6_deliver 0 M) "java/util/NoSuchElementException" fun M => zc (f_X6_leave 1 M) 0 fun M => zc (f_X6_isMoored 1 M) false fun M => zq (f_X6_clearedTotal M) 3 && zq (f_X6_deliveredTotal M) 1 && zq (f_X6_wrongTotal M) 3 && zn (f_X6_undo M) fun M => zc (f_X6_isMoored 1 M) true fun M => zc (f_X6_mostUrgent M) 1 fun M => zc (f_X6_meanHeight M) 0 fun M => zc (f_X6_formatBerth 1 M) 10 fun M => zl ln_B1 M && zc (f_X6_formatBerth 0 M) 4 fun M => zl ln_B0 M && zc (f_X6_stow 1 0 30 99 M) 3 fun M => zc (f_X6_formatStack 1 0 M) 7 fun M => zl ln_S M && zq (f_X6_differentKeys M) (if k = 50 then 2 else 3) && ze (f_X6_isConsistent M) true fun M => true
