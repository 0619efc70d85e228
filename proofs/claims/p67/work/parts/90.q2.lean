/-! The law's state is a function of the row; laid by wip/p67/gen/q2.py. -/
def rG (r : Nat → Int32) (i : Nat) : Int32 := if i = 0 then r 0 else r (i + 1)
def rB (r : Nat → Int32) (b i : Nat) : Int32 := if i = 0 then r (19 + b) else if i = 1 then r (16 + b) else if i = 2 then r (10 + b) else r (13 + b)
def rM (r : Nat → Int32) (b : Nat) : Bool := decide (r (7 + b) = nI 1)
def rNn (r : Nat → Int32) (b k : Nat) : Nat := if rM r b = true then hN r (b * 4 + k) else 0
def rIds (r : Nat → Int32) (b k j : Nat) : Int32 := r (34 + (5 * (b * 4 + k) + j))
def rYi (r : Nat → Int32) (j : Nat) : Int32 := r (214 + j)
def rWt (r : Nat → Int32) (v : Int32) : Int32 := (fndR r v).2.1
def rKy (r : Nat → Int32) (v : Int32) : Int32 := (fndR r v).2.2.1
def stV (r : Nat → Int32) : Int32 := svAll (rG r) (rB r) (rM r) (rNn r) (rIds r) (yN r) (rYi r) (rWt r) (rKy r)
theorem svH_of {M : gM} {r : Nat → Int32} {β : Nat} (g : gSim M 0 r) (w : gRow β r) : svH (rG r) (rB r) (rM r) (rNn r) (rIds r) (yN r) (rYi r) (rWt r) (rKy r) M := by
  refine ⟨⟨e_hour (r := r) g, e_fees (r := r) g, e_clearedTotal (r := r) g, e_deliveredTotal (r := r) g, e_wrongTotal (r := r) g⟩, fun b hb => ⟨⟨e_lockedHours (r := r) g hb, e_wrongAnswers (r := r) g hb, e_isMoored (r := r) g w hb, fun hm => ?_⟩, fun k hk => ?_⟩, ⟨w.y.2, ?_, fun k hk => e_yardAt (r := r) g w hk⟩, fun j hj => ?_⟩
  · have hm := of_decide_eq_true hm
    exact ⟨e_draught (r := r) g w hb hm, e_dueHour (r := r) g w hb hm⟩
  · have h5 := (w.h (p := b * 4 + k) (by omega)).2
    by_cases hm : r (7 + b) = nI 1
    · have e : rNn r b k = hN r (b * 4 + k) := if_pos (decide_eq_true hm)
      rw [e]
      have im := e_isMoored (r := r) g w hb
      rw [decide_eq_true hm] at im
      refine ⟨⟨h5, Or.inr ⟨im, e_stackHeight (r := r) g w hb hk hm⟩, fun j hj => e_containerAt (r := r) g w hb hk hm hj⟩, fun j hj => ?_⟩
      obtain ⟨hf, -, -⟩ := cell_full hj h5
      obtain ⟨a1, a2, -⟩ := e_weightOf (r := r) g w (cell_mem (q := 5 * (b * 4 + k) + j) (by omega) hf)
      exact ⟨a1, a2⟩
    · have e : rNn r b k = 0 := if_neg (fun q => hm (of_decide_eq_true q))
      rw [e]
      have im := e_isMoored (r := r) g w hb
      rw [decide_eq_false hm] at im
      exact ⟨⟨Nat.zero_le _, Or.inl ⟨im, rfl⟩, fun j hj => absurd hj (Nat.not_lt_zero _)⟩, fun j hj => absurd hj (Nat.not_lt_zero _)⟩
  · rw [e_yardCount (r := r) g w, w.y.1]
  · obtain ⟨a1, a2, -⟩ := e_weightOf (r := r) g w (yd_mem hj)
    exact ⟨a1, a2⟩
