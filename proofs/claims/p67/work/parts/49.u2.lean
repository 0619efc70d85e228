/-! What holds between calls; the calls. -/
def gTxt (t : Nat) (M : gM) : Prop :=
  M 146 1 = nI t ∧ M 150 8 = nI t ∧ t ≤ 60 ∧ (∀ i, i < t → ∃ c, 32 ≤ c ∧ c ≤ 126 ∧ M 147 i = nI c ∧ M 156 i = nI c) ∧
  (M 132 8 = M 150 9 ∧ (M 132 8 = -nI 1 ∨ ∃ j, j < 100 ∧ M 132 8 = nI j)) ∧ (M 132 9 = M 150 10 ∧ (M 132 9 = -nI 1 ∨ ∃ j, j < 100 ∧ M 132 9 = nI j)) ∧
  ∃ l, l ≤ 100 ∧ M 148 1 = nI l ∧ M 150 12 = nI l ∧ ∀ i, i < l → ∃ c, c < 65536 ∧ M 149 i = nI c ∧ M 157 i = nI c
theorem gTxt.keep {t : Nat} {M M2 : gM} (x : gTxt t M) (k : gKeep M M2) : gTxt t M2 := by
  obtain ⟨k1, k2, k3, k4⟩ := k
  obtain ⟨x1, x2, x3, x4, x5, x6, l, x7, x8, x9, x10⟩ := x
  refine ⟨by rw [k1 146 (by omega) (by omega)]; exact x1, by rw [k3 8 (by omega) (by omega) (by omega)]; exact x2, x3, ?_, ?_, ?_, l, x7, ?_, ?_, ?_⟩
  · rw [k1 147 (by omega) (by omega), k2 156 (by omega)]; exact x4
  · rw [k4 8 (by omega), k3 9 (by omega) (by omega) (by omega)]; exact x5
  · rw [k4 9 (by omega), k3 10 (by omega) (by omega) (by omega)]; exact x6
  · rw [k1 148 (by omega) (by omega)]; exact x8
  · rw [k3 12 (by omega) (by omega) (by omega)]; exact x9
  · rw [k1 149 (by omega) (by omega), k2 157 (by omega)]; exact x10
/-- between calls: k of them are made, t characters stand typed -/
def gInv (k : Nat) (M : gM) : Prop := ∃ t, t ≤ k ∧ gTie (k - t) M ∧ gTxt t M
def gCl {α : Type} (codes : List String) (f : gM → Option ((String ⊕ α) × gM)) (m : gM → Option (α × gM)) : Prop :=
  ∀ k M, k ≤ 580 → gInv k M → ∃ oc M1 z b M2, f M = some (oc, M1) ∧ m M1 = some (b, M2) ∧ M2 150 13 = z ∧ gAns codes oc z b ∧ gInv (k + 1) M2
def gCq {α : Type} (f : gM → Option α) (m : gM → Option (α × gM)) : Prop :=
  ∀ k M, k ≤ 580 → gInv k M → ∃ b M2, f M = some b ∧ m M = some (b, M2) ∧ M2 150 13 = nI 0 ∧ gInv (k + 1) M2
def gCe {α : Type} (f : gM → Option (α × gM)) (m : gM → Option (α × gM)) : Prop :=
  ∀ k M, k ≤ 580 → gInv k M → ∃ b M1 M2, f M = some (b, M1) ∧ m M1 = some (b, M2) ∧ M2 150 13 = nI 0 ∧ gInv (k + 1) M2
theorem gInv_step {k : Nat} {M M2 : gM} {t : Nat} (ht : t ≤ k) (x : gTxt t M) (kp : gKeep M M2) (tie : gTie (k - t + 1) M2) : gInv (k + 1) M2 :=
  ⟨t, by omega, by rw [show k + 1 - t = k - t + 1 by omega]; exact tie, x.keep kp⟩
theorem gInv_q {k : Nat} {M M1 : gM} {z : Int32} (h : gInv k M) (f : ∀ a, a ≠ 7 → ¬ (12 ≤ a ∧ a < 24) → a ≠ 153 → M1 a = M a) : gInv (k + 1) (gs M1 150 13 z) := by
  obtain ⟨t, ht, tie, x⟩ := h
  refine gInv_step ht x ⟨fun a h1 h2 => ?_, fun a h1 => ?_, fun k h1 h2 h3 => ?_, fun k h1 => ?_⟩ ((tie.up (by omega)).fr ⟨fun a h1 h2 h3 => ?_, ?_, ?_, ?_, ?_, ?_, ?_, ?_, ?_⟩)
  · rw [q_gsn (by omega), f a (by omega) (by omega) (by omega)]
  · rw [q_gsn (by omega), f a (by omega) (by omega) (by omega)]
  · rw [q_gsk h3, f 150 (by omega) (by omega) (by omega)]
  · rw [q_gsn (by omega), f 132 (by omega) (by omega) (by omega)]
  · rw [q_gsn (by omega), f a (by omega) (by omega) (by omega)]
  · rw [q_gsn (by omega), f 132 (by omega) (by omega) (by omega)]
  · rw [q_gsn (by omega), f 133 (by omega) (by omega) (by omega)]
  · rw [q_gsn (by omega), f 133 (by omega) (by omega) (by omega)]
  · rw [q_gsk (by omega), f 150 (by omega) (by omega) (by omega)]
  · rw [q_gsk (by omega), f 150 (by omega) (by omega) (by omega)]
  · rw [q_gsn (by omega), f 151 (by omega) (by omega) (by omega)]
  · rw [q_gsn (by omega), f 154 (by omega) (by omega) (by omega)]
  · rw [q_gsn (by omega), f 155 (by omega) (by omega) (by omega)]
theorem cl_Q {α : Type} {codes : List String} {f : gM → Option ((String ⊕ α) × gM)} {m : gM → Option (α × gM)} (h : ∀ (M : gM) (β : Nat), gSim M 0 (M 151) → gRow β (M 151) → β ≤ 600 → gQ codes M (f M) (m M)) : gCl codes f m := by
  intro k M hk hI
  obtain ⟨t, ht, tie, x⟩ := id hI
  obtain ⟨oc, z, b, hf, hm, ha⟩ := h M _ tie.1 tie.2.1 (by omega)
  exact ⟨oc, M, z, b, _, hf, hm, q_gss rfl, ha, gInv_q hI (fun _ _ _ _ => rfl)⟩
theorem cl_Q7 {α : Type} {codes : List String} {f : gM → Option ((String ⊕ α) × gM)} {m : gM → Option (α × gM)} (h : ∀ (M : gM) (β : Nat), gSim M 0 (M 151) → gRow β (M 151) → β ≤ 600 → gQ7 codes M (f M) m) : gCl codes f m := by
  intro k M hk hI
  obtain ⟨t, ht, tie, x⟩ := id hI
  obtain ⟨M1, oc, z, b, h7, hf, hm, ha⟩ := h M _ tie.1 tie.2.1 (by omega)
  exact ⟨oc, M1, z, b, _, hf, hm, q_gss rfl, ha, gInv_q hI (fun a h1 _ _ => h7 a h1)⟩
theorem cq_Q {α : Type} {f : gM → Option α} {m : gM → Option (α × gM)} (h : ∀ (M : gM) (β : Nat), gSim M 0 (M 151) → gRow β (M 151) → β ≤ 600 → ∃ b, f M = some b ∧ m M = some (b, gs M 150 13 (nI 0))) : gCq f m := by
  intro k M hk hI
  obtain ⟨t, ht, tie, x⟩ := id hI
  obtain ⟨b, hf, hm⟩ := h M _ tie.1 tie.2.1 (by omega)
  exact ⟨b, _, hf, hm, q_gss rfl, gInv_q hI (fun _ _ _ _ => rfl)⟩
theorem K_hour : gCq f_X6_hour f_X7_hour := cq_Q (fun M β g w hβ => ⟨_, Q_hour g⟩)
theorem K_tide : gCq f_X6_tide f_X7_tide := cq_Q (fun M β g w hβ => Q_tide g w hβ)
theorem K_shipCount : gCq f_X6_shipCount f_X7_shipCount := cq_Q (fun M β g w hβ => Q_shipCount g w)
theorem K_isMoored (v : Int32) : gCl kO (f_X6_isMoored v) (f_X7_isMoored v) := cl_Q (fun M β g w hβ => Q_isMoored g w v)
theorem K_draught (v : Int32) : gCl kON (f_X6_draught v) (f_X7_draught v) := cl_Q (fun M β g w hβ => Q_draught g w v)
theorem K_dueHour (v : Int32) : gCl kON (f_X6_dueHour v) (f_X7_dueHour v) := cl_Q (fun M β g w hβ => Q_dueHour g w v)
theorem K_floats (v : Int32) : gCl kON (f_X6_floats v) (f_X7_floats v) := cl_Q (fun M β g w hβ => Q_floats g w hβ v)
theorem K_hoursUntilFloating (v : Int32) : gCl kON (f_X6_hoursUntilFloating v) (f_X7_hoursUntilFloating v) := cl_Q (fun M β g w hβ => Q_hoursUntilFloating g w hβ v)
theorem K_hoursUntilFloatingByTide (v : Int32) : gCl kON (f_X6_hoursUntilFloatingByTide v) (f_X7_hoursUntilFloatingByTide v) := cl_Q (fun M β g w hβ => Q_hoursUntilFloatingByTide g w hβ v)
theorem K_lockedHours (v : Int32) : gCl kO (f_X6_lockedHours v) (f_X7_lockedHours v) := cl_Q (fun M β g w hβ => Q_lockedHours g v)
theorem K_wrongAnswers (v : Int32) : gCl kO (f_X6_wrongAnswers v) (f_X7_wrongAnswers v) := cl_Q (fun M β g w hβ => Q_wrongAnswers g v)
theorem K_mostUrgent : gCl kN f_X6_mostUrgent f_X7_mostUrgent := cl_Q (fun M β g w hβ => Q_mostUrgent g w hβ)
theorem K_canLeave (v : Int32) : gCl kO (f_X6_canLeave v) (f_X7_canLeave v) := cl_Q (fun M β g w hβ => Q_canLeave g w hβ v)
theorem K_stackHeight (v u : Int32) : gCl kON (f_X6_stackHeight v u) (f_X7_stackHeight v u) := cl_Q (fun M β g w hβ => Q_stackHeight g w v u)
theorem K_containersOn (v : Int32) : gCl kON (f_X6_containersOn v) (f_X7_containersOn v) := cl_Q (fun M β g w hβ => Q_containersOn g w v)
theorem K_yardCount : gCq f_X6_yardCount f_X7_yardCount := cq_Q (fun M β g w hβ => ⟨_, Q_yardCount g w⟩)
theorem K_fees : gCq f_X6_fees f_X7_fees := cq_Q (fun M β g w hβ => ⟨_, Q_fees g⟩)
theorem K_clearedTotal : gCq f_X6_clearedTotal f_X7_clearedTotal := cq_Q (fun M β g w hβ => ⟨_, Q_clearedTotal g⟩)
theorem K_deliveredTotal : gCq f_X6_deliveredTotal f_X7_deliveredTotal := cq_Q (fun M β g w hβ => ⟨_, Q_deliveredTotal g⟩)
theorem K_wrongTotal : gCq f_X6_wrongTotal f_X7_wrongTotal := cq_Q (fun M β g w hβ => ⟨_, Q_wrongTotal g⟩)
theorem K_emptiestStack (v : Int32) : gCl kON (f_X6_emptiestStack v) (f_X7_emptiestStack v) := cl_Q (fun M β g w hβ => Q_emptiestStack g w v)
theorem K_isOnShip (v : Int32) : gCq (f_X6_isOnShip v) (f_X7_isOnShip v) := cq_Q (fun M β g w hβ => Q_isOnShip g w v)
theorem K_isInYard (v : Int32) : gCq (f_X6_isInYard v) (f_X7_isInYard v) := cq_Q (fun M β g w hβ => Q_isInYard g w v)
theorem K_weightOf (v : Int32) : gCl kN (f_X6_weightOf v) (f_X7_weightOf v) := cl_Q (fun M β g w hβ => Q_weightOf g w v)
theorem K_keyOf (v : Int32) : gCl kN (f_X6_keyOf v) (f_X7_keyOf v) := cl_Q (fun M β g w hβ => Q_keyOf g w v)
theorem K_answerOf (v : Int32) : gCl kN (f_X6_answerOf v) (f_X7_answerOf v) := cl_Q (fun M β g w hβ => Q_answerOf g w v)
theorem K_berthOf (v : Int32) : gCl kN (f_X6_berthOf v) (f_X7_berthOf v) := cl_Q (fun M β g w hβ => Q_berthOf g w v)
theorem K_stackOf (v : Int32) : gCl kN (f_X6_stackOf v) (f_X7_stackOf v) := cl_Q (fun M β g w hβ => Q_stackOf g w v)
theorem K_levelOf (v : Int32) : gCl kN (f_X6_levelOf v) (f_X7_levelOf v) := cl_Q (fun M β g w hβ => Q_levelOf g w v)
theorem K_containerAt (v u z : Int32) : gCl kON (f_X6_containerAt v u z) (f_X7_containerAt v u z) := cl_Q (fun M β g w hβ => Q_containerAt g w v u z)
theorem K_topOf (v u : Int32) : gCl kON (f_X6_topOf v u) (f_X7_topOf v u) := cl_Q (fun M β g w hβ => Q_topOf g w v u)
theorem K_yardAt (v : Int32) : gCl kN (f_X6_yardAt v) (f_X7_yardAt v) := cl_Q (fun M β g w hβ => Q_yardAt g w v)
theorem K_movesToReach (v : Int32) : gCl kN (f_X6_movesToReach v) (f_X7_movesToReach v) := cl_Q (fun M β g w hβ => Q_movesToReach g w v)
theorem K_movesToReachByCopy (v : Int32) : gCl kN (f_X6_movesToReachByCopy v) (f_X7_movesToReachByCopy v) := cl_Q7 (fun M β g w hβ => Q_movesToReachByCopy g w v)
theorem K_weightOn (v : Int32) : gCl kON (f_X6_weightOn v) (f_X7_weightOn v) := cl_Q (fun M β g w hβ => Q_weightOn g w v)
theorem K_weightOnByContainers (v : Int32) : gCl kON (f_X6_weightOnByContainers v) (f_X7_weightOnByContainers v) := cl_Q (fun M β g w hβ => Q_weightOnByContainers g w v)
theorem K_heavyOverLight (v u : Int32) : gCl kON (f_X6_heavyOverLight v u) (f_X7_heavyOverLight v u) := cl_Q (fun M β g w hβ => Q_heavyOverLight g w v u)
theorem K_heaviestAbove (v : Int32) : gCl kN (f_X6_heaviestAbove v) (f_X7_heaviestAbove v) := cl_Q (fun M β g w hβ => Q_heaviestAbove g w hβ v)
theorem K_containerByWeight (v : Int32) : gCl kN (f_X6_containerByWeight v) (f_X7_containerByWeight v) := cl_Q (fun M β g w hβ => Q_containerByWeight g w hβ v)
theorem K_differentKeys : gCq f_X6_differentKeys f_X7_differentKeys := cq_Q (fun M β g w hβ => Q_differentKeys g w)
theorem K_keyTwins : gCq f_X6_keyTwins f_X7_keyTwins := cq_Q (fun M β g w hβ => Q_keyTwins g w)
theorem K_keyTwinsByGroups : gCq f_X6_keyTwinsByGroups f_X7_keyTwinsByGroups := cq_Q (fun M β g w hβ => Q_keyTwinsByGroups g w)
theorem K_meanHeight : gCl kR f_X6_meanHeight f_X7_meanHeight := cl_Q (fun M β g w hβ => Q_meanHeight g w)
theorem K_rightShare : gCl kR f_X6_rightShare f_X7_rightShare := cl_Q (fun M β g w hβ => Q_rightShare g)
theorem K_isConsistent : gCe f_X6_isConsistent f_X7_isConsistent := by
  intro k M hk hI
  obtain ⟨t, ht, tie, x⟩ := id hI
  obtain ⟨M1, h7, hf, hm⟩ := Q_isConsistent tie.1 tie.2.1 (by omega)
  exact ⟨true, M1, _, hf, hm, q_gss rfl, gInv_q hI (fun a h1 _ _ => h7 a h1)⟩
/-! the changes -/
theorem cl_T {cf : Nat → gM → Option Int32} {cd : Nat → gM → Option (Int32 × gM)} {cr : Nat → gM → Option gM} {m : gM → Option (Int32 × gM)} {code : Nat → Nat} {codes : List String} {F : gM → Option ((String ⊕ Int32) × gM)} {G : gM → Option (Int32 × gM)}
    (c : ∀ (M : gM) (β : Nat), gRow β (M 151) → β ≤ 590 → gCmd β (M 151) cf cd cr m code codes) (hc4 : ∀ f, f ≤ 4 → code f < 100)
    (hF : ∀ M, F M = (cf 0 M).bind fun r1 => gSeq (f_X6_raise r1 M) fun _ M5 => (f_X1_push 0 M5).bind fun r6 => (cd 0 r6).bind fun p => some (.inr p.1, p.2))
    (hG : ∀ M, G M = (f_X7_begin M).bind fun r1 => (m r1).bind fun r3 => (f_X7_kept r3.1 r3.2).bind fun r5 => some (r5.1, r5.2)) : gCl codes F G := by
  intro k M hk hI
  obtain ⟨t, ht, tie, x⟩ := id hI
  obtain ⟨oc, M1, z, b, M2, h1, h2, h3, h4, h5, h6⟩ := T_call tie (c M _ tie.2.1 (by omega)) hc4 (hF M) hG
  exact ⟨oc, M1, z, b, M2, h1, h2, h3, h4, gInv_step ht x h6 h5⟩
theorem K_moor (v d u : Int32) : gCl kOAS (f_X6_moor v d u) (f_X7_moor v d u) :=
  cl_T (fun M β w hβ => T_moor w hβ v d u) (fun f hf => by omega) (fun M => by unfold f_X6_moor; simp only [Option.bind_assoc, Option.bind_some]) (fun M => rfl)
theorem K_stow (v s u k : Int32) : gCl kOAS (f_X6_stow v s u k) (f_X7_stow v s u k) :=
  cl_T (fun M β w hβ => T_stow w hβ v s u k) (fun f hf => by omega) (fun M => rfl) (fun M => rfl)
theorem K_move (v s u : Int32) : gCl kOAS (f_X6_move v s u) (f_X7_move v s u) :=
  cl_T (fun M β w hβ => T_move w hβ v s u) (fun f hf => by omega) (fun M => rfl) (fun M => rfl)
theorem K_deliver (v : Int32) : gCl kN (f_X6_deliver v) (f_X7_deliver v) :=
  cl_T (fun M β w hβ => T_deliver w hβ v) (fun f hf => by omega) (fun M => by unfold f_X6_deliver; simp only [Option.bind_assoc, Option.bind_some, q_l12]) (fun M => rfl)
theorem K_leave (v : Int32) : gCl kOS (f_X6_leave v) (f_X7_leave v) :=
  cl_T (fun M β w hβ => T_leave w hβ v) (fun f hf => by show (if _ then _ else _) < _; split <;> omega) (fun M => by unfold f_X6_leave; simp only [Option.bind_assoc, Option.bind_some]) (fun M => rfl)
theorem K_pass (v : Int32) : gCl kA (f_X6_pass v) (f_X7_pass v) :=
  cl_T (fun M β w hβ => T_pass w hβ v) (fun f hf => by omega) (fun M => rfl) (fun M => rfl)
theorem K_clear (v s a : Int32) : gCl kOAS (f_X6_clear v s a) (f_X7_clear v s a) := by
  have h := cl_T (F := fun M => (f_X6_clear v s a M).bind fun p => some (p.1.map id gb, p.2)) (G := fun M => (f_X7_begin M).bind fun r1 => (f_X7_clears v s a r1).bind fun r3 => (f_X7_kept r3.1 r3.2).bind fun r5 => some (r5.1, r5.2))
    (fun M β w hβ => T_clear w hβ v s a) (fun f hf => by omega) (fun M => by
      unfold f_X6_clear
      simp only [Option.bind_assoc]
      congr 1
      funext f
      unfold gSeq
      rw [Option.bind_assoc]
      congr 1
      funext z
      rcases z with ⟨e | v, M5⟩
      · rfl
      · simp only [Option.bind_assoc, Option.bind_some]
        rfl) (fun M => rfl)
  intro k M hk hI
  obtain ⟨oc, M1, z, b, M2, h1, h2, h3, h4, h5⟩ := h k M hk hI
  have h1 : (f_X6_clear v s a M).bind (fun p => some (p.1.map id gb, p.2)) = some (oc, M1) := h1
  cases hc : f_X6_clear v s a M with
  | none => rw [hc] at h1; cases h1
  | some p =>
    obtain ⟨o, M'⟩ := p
    rw [hc, Option.bind_some] at h1
    have h1 := Option.some.inj h1
    have e1 : o.map id gb = oc := congrArg Prod.fst h1
    have e2 : M' = M1 := congrArg Prod.snd h1
    subst e2
    have hg : f_X7_clear v s a M' = some (decide (b = 1), M2) := by
      have h2' : f_X7_clear v s a M' = ((f_X7_begin M').bind fun r1 => (f_X7_clears v s a r1).bind fun r3 => (f_X7_kept r3.1 r3.2).bind fun r5 => some (r5.1, r5.2)).bind fun r5 => (if r5.1 = 1 then some (true, r5.2) else some (false, r5.2)) := by
        unfold f_X7_clear
        simp only [Option.bind_assoc, Option.bind_some]
      have h2 : ((f_X7_begin M').bind fun r1 => (f_X7_clears v s a r1).bind fun r3 => (f_X7_kept r3.1 r3.2).bind fun r5 => some (r5.1, r5.2)) = some (b, M2) := h2
      rw [h2', h2, Option.bind_some]
      by_cases hb : b = 1
      · rw [if_pos hb, decide_eq_true hb]
      · rw [if_neg hb, decide_eq_false hb]
    refine ⟨o, M', z, decide (b = 1), M2, rfl, hg, h3, ?_, h5⟩
    rcases h4 with ⟨q1, q2⟩ | ⟨i, e, q1, q2, q3⟩
    · rw [q1] at e1
      rcases o with o | o
      · cases e1
      · have e1 : gb o = b := Sum.inr.inj e1
        refine Or.inl ⟨?_, q2⟩
        rw [← e1]
        cases o <;> rfl
    · rw [q2] at e1
      rcases o with o | o
      · have e1 : o = e := Sum.inl.inj e1
        exact Or.inr ⟨i, e, q1, by rw [e1], q3⟩
      · cases e1
