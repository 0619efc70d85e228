/-! What the law does with x and y; laid by wip/p67/gen/q4.py. -/
def tx_h325 : List Nat := [104, 111, 117, 114, 115, 32, 51, 59, 104, 111, 117, 114, 115, 32, 50, 53]
def tx_h1101 : List Nat := [104, 111, 117, 114, 115, 32, 49, 59, 104, 111, 117, 114, 115, 32, 49, 48, 49]
def tx_lv3 : List Nat := [108, 101, 97, 118, 101, 32, 51]
def txF (bs : List Nat) : Nat → Nat := fun i => bs.getD i 0
def txOKb (bs : List Nat) : Bool := bs.all (fun c => decide (32 ≤ c ∧ c ≤ 126)) && decide (bs.length ≤ 60)
def txOK (bs : List Nat) : Prop := (∀ c ∈ bs, 32 ≤ c ∧ c ≤ 126) ∧ bs.length ≤ 60
theorem txOK_of {bs : List Nat} (h : txOKb bs = true) : txOK bs := by
  unfold txOKb at h
  rw [Bool.and_eq_true, List.all_eq_true] at h
  exact ⟨fun c hc => of_decide_eq_true (h.1 c hc), of_decide_eq_true h.2⟩
def pAt0 (bs : List Nat) : Bool × Nat × List (Nat × List Nat) := pA (txF bs) bs.length 8 0 []
section XY
variable {M : gM} {r : Nat → Int32} {β : Nat}
/-- x, its row as when it was saved -/
def xI (β : Nat) (r : Nat → Int32) (M : gM) : Prop := gSim M 0 r ∧ gRow β r ∧ cH β M [] ∧ cS β M r ∧ M 146 1 = nI 0
theorem x_put {bs : List Nat} (ht : txOK bs) (h0 : M 146 1 = nI 0) : ∃ M1, pPut (bs.map nI) M = some M1 ∧ M1 146 1 = nI bs.length ∧ (∀ i, i < bs.length → M1 147 i = nI (txF bs i) ∧ txF bs i < 128) ∧ ∀ a, a ≠ 146 → a ≠ 147 → M1 a = M a := by
  obtain ⟨M1, e1, e2, e3, e4, e5⟩ := u_put bs 0 M ht.1 (by have := ht.2; omega) h0
  refine ⟨M1, e1, by rw [e2, Nat.zero_add], fun i hi => ⟨?_, ?_⟩, e5⟩
  · have := e4 i hi
    rw [Nat.zero_add] at this
    exact this
  · have hm : bs.getD i 0 ∈ bs := by
      rw [List.getD_eq_getElem?_getD, List.getElem?_eq_getElem hi]
      exact List.getElem_mem hi
    exact Nat.lt_of_le_of_lt (ht.1 _ hm).2 (by decide)
theorem x_bad {bs : List Nat} {e : Nat} {cs : List (Nat × List Nat)} (h : xI β r M) (ht : txOK bs) (hp : pAt0 bs = (false, e, cs)) (he : e < 100) : ∃ M1 M2, pPut (bs.map nI) M = some M1 ∧ f_X6_run M1 = some (.inl "java/lang/IllegalArgumentException", M2) ∧ f_X6_errorPosition M2 = some (.inr (nI e), M2) ∧ xI β r M2 ∧ M2 132 9 = M 132 9 := by
  obtain ⟨g, w, c, s, t⟩ := h
  obtain ⟨M1, p1, p2, p3, p4⟩ := x_put ht t
  obtain ⟨M2, q1, q2, q3, q4, q5⟩ := u_runP p2 p3 ht.2 hp
  have o : ∀ a, a ≠ 132 → ¬ (135 ≤ a ∧ a ≤ 147) → M2 a = M a := fun a k1 k2 => by rw [q4 a k1 (by omega), p4 a (by omega) (by omega)]
  have o132 : ∀ k, k ≠ 8 → M2 132 k = M 132 k := fun k hk => by rw [q5 k hk, p4 132 (by omega) (by omega)]
  exact ⟨M1, M2, p1, q1, u_error q2 he, ⟨g.frm (fun a k1 k2 k3 => o a (by omega) (by omega)), w, c.frm (fun a k1 k2 k3 => o a (by omega) (by omega)), s.frm (fun a k1 k2 => o a (by omega) (by omega)) (o132 3 (by omega)), q3⟩, o132 9 (by omega)⟩
theorem x_no {bs : List Nat} {p j : Nat} {cs : List (Nat × List Nat)} (h : xI β r M) (ht : txOK bs) (hp : pAt0 bs = (true, p, cs)) (hj : j < 8)
    (oc : ∀ S, gSim S 12 r → S 135 2 = nI cs.length → gCmds S cs → ∃ S', f_X4_firstFailureOn 12 S = some (nI j, S') ∧ gFr 12 S S') : ∃ M1 M2, pPut (bs.map nI) M = some M1 ∧ f_X6_run M1 = some (.inl "java/lang/IllegalStateException", M2) ∧ f_X6_failedCommand M2 = some (.inr (nI j), M2) ∧ xI β r M2 ∧ M2 132 9 = nI j := by
  obtain ⟨g, w, c, s, t⟩ := h
  obtain ⟨M1, p1, p2, p3, p4⟩ := x_put ht t
  have g1 : gSim M1 0 r := g.frm (fun a k1 k2 k3 => p4 a (by omega) (by omega))
  obtain ⟨M2, q1, q2, q3, q4, q5⟩ := u_runN g1 p2 p3 ht.2 hp hj oc
  have o : ∀ a, a ≠ 132 → ¬ (12 ≤ a ∧ a < 24) → ¬ (135 ≤ a ∧ a ≤ 147) → M2 a = M a := fun a k1 k2 k3 => by rw [q4 a k1 k2 (by omega), p4 a (by omega) (by omega)]
  have o132 : ∀ k, k ≠ 9 → M2 132 k = M 132 k := fun k hk => by rw [q5 k hk, p4 132 (by omega) (by omega)]
  exact ⟨M1, M2, p1, q1, u_failed q2 (by omega), ⟨g.frm (fun a k1 k2 k3 => o a (by omega) (by omega) (by omega)), w, c.frm (fun a k1 k2 k3 => o a (by omega) (by omega) (by omega)), s.frm (fun a k1 k2 => o a (by omega) (by omega) (by omega)) (o132 3 (by omega)), q3⟩, q2⟩
theorem oc_1101 (w : gRow β r) (hβ : β ≤ 580) : ∀ S, gSim S 12 r → S 135 2 = nI 2 → gCmds S [(104, [1]), (104, [101])] → ∃ S', f_X4_firstFailureOn 12 S = some (nI 1, S') ∧ gFr 12 S S' := by
  intro S g h2 hc
  obtain ⟨-, k6, k0⟩ := hc 0 104 [1] rfl
  obtain ⟨-, l6, l0⟩ := hc 1 104 [101] rfl
  obtain ⟨S1, e1, fr1, g1⟩ := u_hrs (F := 3999) g w (by omega) h2 (show 0 < 2 by omega) (by omega) k6 (k0 0 1 (by omega) rfl) (by omega) (by omega)
  refine ⟨S1, ?_, fr1⟩
  show f_X4_firstFailureOn_L2 12 (3999 + 1) (nI 0) S = _
  rw [e1]
  have h2' : S1 135 2 = nI 2 := by rw [fr1 135 (by omega)]; exact h2
  obtain ⟨x1, -⟩ := x_hours (M := S1) (i := 1) (a := 101) (by omega) (by rw [fr1 136 (by omega)]; exact l6) (by rw [fr1 137 (by omega)]; exact l0 0 101 (by omega) rfl)
  show f_X4_firstFailureOn_L2 12 (3998 + 1) (nI 1) S1 = _
  rw [f_X4_firstFailureOn_L2, h2', if_neg (nI_ge (show 1 < 2 by omega) (by omega)), x1, show f_X6_passingFault (nI 101) S1 = some 2 from rfl, Option.bind_some, if_neg (by decide)]
theorem oc_lv3 : ∀ S, gSim S 12 r → S 135 2 = nI 1 → gCmds S [(108, [3])] → ∃ S', f_X4_firstFailureOn 12 S = some (nI 0, S') ∧ gFr 12 S S' := by
  intro S g h2 hc
  obtain ⟨-, k6, k0⟩ := hc 0 108 [3] rfl
  refine ⟨S, ?_, gFr.rf⟩
  show f_X4_firstFailureOn_L2 12 (3999 + 1) (nI 0) S = _
  rw [f_X4_firstFailureOn_L2, h2, if_neg (nI_ge (show 0 < 1 by omega) (by omega)), x_leave3 (by omega) k6 (k0 0 3 (by omega) rfl), Option.bind_some, if_neg (by decide)]
theorem oc_h325 (w : gRow β r) (hβ : β ≤ 580) : ∀ S, gSim S 12 r → S 135 2 = nI 2 → gCmds S [(104, [3]), (104, [25])] → ∃ S', f_X4_firstFailureOn 12 S = some (-nI 1, S') ∧ gFr 12 S S' ∧ gSim S' 12 (hpI (hpI r 3) 25) := by
  intro S g h2 hc
  obtain ⟨-, k6, k0⟩ := hc 0 104 [3] rfl
  obtain ⟨-, l6, l0⟩ := hc 1 104 [25] rfl
  obtain ⟨S1, e1, fr1, g1⟩ := u_hrs (F := 3999) g w (by omega) h2 (show 0 < 2 by omega) (by omega) k6 (k0 0 3 (by omega) rfl) (by omega) (by omega)
  have h2' : S1 135 2 = nI 2 := by rw [fr1 135 (by omega)]; exact h2
  obtain ⟨S2, e2, fr2, g2⟩ := u_hrs (F := 3998) (i := 1) g1 (hpI_ok w (by omega) (n := 3) (by omega)).1 (by omega) h2' (show 1 < 2 by omega) (by omega) (by rw [fr1 136 (by omega)]; exact l6) (by rw [fr1 137 (by omega)]; exact l0 0 25 (by omega) rfl) (by omega) (by omega)
  have h2'' : S2 135 2 = nI 2 := by rw [fr2 135 (by omega)]; exact h2'
  refine ⟨S2, ?_, fun a ha => (fr2 a ha).trans (fr1 a ha), g2⟩
  show f_X4_firstFailureOn_L2 12 (3999 + 1) (nI 0) S = _
  rw [e1]
  show f_X4_firstFailureOn_L2 12 (3998 + 1) (nI 1) S1 = _
  rw [e2]
  exact u_end (F := 3997) h2'' (by omega)
/-- x: saved, typed and run -/
theorem x_run (g : gSim M 0 r) (w : gRow β r) (hβ : β ≤ 580) (c : cH β M []) (t : M 146 1 = nI 0) : ∃ M1 M2 M3 M4, f_X6_save M = some (r 7 + r 8 + r 9, M1) ∧ gSim M1 0 r ∧ pPut (tx_h325.map nI) M1 = some M2 ∧ f_X6_run M2 = some (.inr (nI 2), M3) ∧ gSim M3 0 (hpI (hpI r 3) 25) ∧ (∃ v, v < 8 ∧ f_X6_undo M3 = some (.inr (nI v), M4)) ∧ xI β r M4 := by
  obtain ⟨M1, s1, s2, s3, s4, s5⟩ := u_save g w c
  have ht : txOK tx_h325 := txOK_of (by decide +kernel)
  have hp : pAt0 tx_h325 = (true, tx_h325.length, [(104, [3]), (104, [25])]) := by decide +kernel
  obtain ⟨M2, p1, p2, p3, p4⟩ := x_put ht (M := M1) (by rw [s5 146 (by omega)]; exact t)
  obtain ⟨M3, q1, q2, q3, q4, q5, q6⟩ := u_runY (s2.frm (fun a k1 k2 k3 => p4 a (by omega) (by omega))) w (s3.frm (fun a k1 k2 k3 => p4 a (by omega) (by omega))) (Nat.zero_le _) p2 p3 ht.2 hp (oc_h325 w hβ)
  obtain ⟨v, M4, u1, u2, u3, u4, u5, u6⟩ := u_undo q3
  refine ⟨M1, M2, M3, M4, s1, s2, p1, q1, q2, ⟨v, u2, u1⟩, u3, u4, u5, ?_, by rw [u6 146 (by omega) (by omega)]; exact q4⟩
  exact s4.frm (fun a k1 k2 => by rw [u6 a (by omega) (by omega), q5 a k1 k2, p4 a (by omega) (by omega)]) (by rw [u6 132 (by omega) (by omega), q6, p4 132 (by omega) (by omega)])
/-- y: two passes, two undos -/
theorem y_run (g : gSim M 0 r) (w : gRow β r) (hβ : β ≤ 580) (c : cH β M []) : ∃ M1 M2 M3 M4, (∃ v, v < 10000 ∧ f_X6_pass 3 M = some (.inr (nI v), M1)) ∧ (∃ v, v < 10000 ∧ f_X6_pass 25 M1 = some (.inr (nI v), M2)) ∧ gSim M2 0 (hpI (hpI r 3) 25) ∧ (∃ v, v < 8 ∧ f_X6_undo M2 = some (.inr (nI v), M3)) ∧ (∃ v, v < 8 ∧ f_X6_undo M3 = some (.inr (nI v), M4)) ∧ gSim M4 0 r := by
  obtain ⟨M1, a1, a2, a3, a4⟩ := u_pass g w (by omega) c (Nat.zero_le _) (n := 3) (by omega) (by omega)
  obtain ⟨M2, b1, b2, b3, b4⟩ := u_pass a2 a3 (by omega) a4 (show 1 ≤ 7 by omega) (n := 25) (by omega) (by omega)
  obtain ⟨v, M3, c1, c2, c3, c4, c5, c6⟩ := u_undo b4
  obtain ⟨v', M4, d1, d2, d3, d4, d5, d6⟩ := u_undo c5
  have k1 := coT_le w (by omega) 3 (by omega)
  have k2 := coT_le a3 (by omega) 25 (by omega)
  exact ⟨M1, M2, M3, M4, ⟨_, by omega, a1⟩, ⟨_, by omega, b1⟩, b2, ⟨v, c2, c1⟩, ⟨v', d2, d1⟩, d3⟩
theorem x_1101 (h : xI β r M) (hβ : β ≤ 580) : ∃ M1 M2, pPut (tx_h1101.map nI) M = some M1 ∧ f_X6_run M1 = some (.inl "java/lang/IllegalStateException", M2) ∧ f_X6_failedCommand M2 = some (.inr (nI 1), M2) ∧ xI β r M2 ∧ M2 132 9 = nI 1 :=
  x_no h (txOK_of (by decide +kernel)) (show pAt0 tx_h1101 = (true, tx_h1101.length, [(104, [1]), (104, [101])]) by decide +kernel) (by omega) (oc_1101 h.2.1 hβ)
theorem x_lv3 (h : xI β r M) : ∃ M1 M2, pPut (tx_lv3.map nI) M = some M1 ∧ f_X6_run M1 = some (.inl "java/lang/IllegalStateException", M2) ∧ f_X6_failedCommand M2 = some (.inr (nI 0), M2) ∧ xI β r M2 ∧ M2 132 9 = nI 0 :=
  x_no h (txOK_of (by decide +kernel)) (show pAt0 tx_lv3 = (true, tx_lv3.length, [(108, [3])]) by decide +kernel) (by omega) oc_lv3
def tx_b0 : List Nat := [109, 111]
theorem x_b0 (h : xI β r M) : ∃ M1 M2, pPut (tx_b0.map nI) M = some M1 ∧ f_X6_run M1 = some (.inl "java/lang/IllegalArgumentException", M2) ∧ f_X6_errorPosition M2 = some (.inr (nI 2), M2) ∧ xI β r M2 ∧ M2 132 9 = M 132 9 :=
  x_bad h (txOK_of (by decide +kernel)) (cs := (pAt0 tx_b0).2.2) (by decide +kernel) (by omega)
def tx_b1 : List Nat := [115, 116, 111, 119, 32, 48]
theorem x_b1 (h : xI β r M) : ∃ M1 M2, pPut (tx_b1.map nI) M = some M1 ∧ f_X6_run M1 = some (.inl "java/lang/IllegalArgumentException", M2) ∧ f_X6_errorPosition M2 = some (.inr (nI 6), M2) ∧ xI β r M2 ∧ M2 132 9 = M 132 9 :=
  x_bad h (txOK_of (by decide +kernel)) (cs := (pAt0 tx_b1).2.2) (by decide +kernel) (by omega)
def tx_b2 : List Nat := [99, 108, 101, 97, 114, 32, 48, 51]
theorem x_b2 (h : xI β r M) : ∃ M1 M2, pPut (tx_b2.map nI) M = some M1 ∧ f_X6_run M1 = some (.inl "java/lang/IllegalArgumentException", M2) ∧ f_X6_errorPosition M2 = some (.inr (nI 8), M2) ∧ xI β r M2 ∧ M2 132 9 = M 132 9 :=
  x_bad h (txOK_of (by decide +kernel)) (cs := (pAt0 tx_b2).2.2) (by decide +kernel) (by omega)
def tx_b3 : List Nat := [109, 111, 118, 101, 32, 48, 49]
theorem x_b3 (h : xI β r M) : ∃ M1 M2, pPut (tx_b3.map nI) M = some M1 ∧ f_X6_run M1 = some (.inl "java/lang/IllegalArgumentException", M2) ∧ f_X6_errorPosition M2 = some (.inr (nI 7), M2) ∧ xI β r M2 ∧ M2 132 9 = M 132 9 :=
  x_bad h (txOK_of (by decide +kernel)) (cs := (pAt0 tx_b3).2.2) (by decide +kernel) (by omega)
def tx_b4 : List Nat := [104, 111, 117, 114, 115, 32, 49, 50, 51, 52]
theorem x_b4 (h : xI β r M) : ∃ M1 M2, pPut (tx_b4.map nI) M = some M1 ∧ f_X6_run M1 = some (.inl "java/lang/IllegalArgumentException", M2) ∧ f_X6_errorPosition M2 = some (.inr (nI 9), M2) ∧ xI β r M2 ∧ M2 132 9 = M 132 9 :=
  x_bad h (txOK_of (by decide +kernel)) (cs := (pAt0 tx_b4).2.2) (by decide +kernel) (by omega)
def tx_b5 : List Nat := []
theorem x_b5 (h : xI β r M) : ∃ M1 M2, pPut (tx_b5.map nI) M = some M1 ∧ f_X6_run M1 = some (.inl "java/lang/IllegalArgumentException", M2) ∧ f_X6_errorPosition M2 = some (.inr (nI 0), M2) ∧ xI β r M2 ∧ M2 132 9 = M 132 9 :=
  x_bad h (txOK_of (by decide +kernel)) (cs := (pAt0 tx_b5).2.2) (by decide +kernel) (by omega)
def tx_b6 : List Nat := [108, 101, 97, 118, 101, 32, 48, 59]
theorem x_b6 (h : xI β r M) : ∃ M1 M2, pPut (tx_b6.map nI) M = some M1 ∧ f_X6_run M1 = some (.inl "java/lang/IllegalArgumentException", M2) ∧ f_X6_errorPosition M2 = some (.inr (nI 8), M2) ∧ xI β r M2 ∧ M2 132 9 = M 132 9 :=
  x_bad h (txOK_of (by decide +kernel)) (cs := (pAt0 tx_b6).2.2) (by decide +kernel) (by omega)
def tx_b7 : List Nat := [109, 111, 120]
theorem x_b7 (h : xI β r M) : ∃ M1 M2, pPut (tx_b7.map nI) M = some M1 ∧ f_X6_run M1 = some (.inl "java/lang/IllegalArgumentException", M2) ∧ f_X6_errorPosition M2 = some (.inr (nI 2), M2) ∧ xI β r M2 ∧ M2 132 9 = M 132 9 :=
  x_bad h (txOK_of (by decide +kernel)) (cs := (pAt0 tx_b7).2.2) (by decide +kernel) (by omega)
def tx_b8 : List Nat := [109, 111, 118, 101, 32, 48, 49, 50, 51]
theorem x_b8 (h : xI β r M) : ∃ M1 M2, pPut (tx_b8.map nI) M = some M1 ∧ f_X6_run M1 = some (.inl "java/lang/IllegalArgumentException", M2) ∧ f_X6_errorPosition M2 = some (.inr (nI 8), M2) ∧ xI β r M2 ∧ M2 132 9 = M 132 9 :=
  x_bad h (txOK_of (by decide +kernel)) (cs := (pAt0 tx_b8).2.2) (by decide +kernel) (by omega)
def tx_b9 : List Nat := [100, 101, 108, 105, 118, 101, 114]
theorem x_b9 (h : xI β r M) : ∃ M1 M2, pPut (tx_b9.map nI) M = some M1 ∧ f_X6_run M1 = some (.inl "java/lang/IllegalArgumentException", M2) ∧ f_X6_errorPosition M2 = some (.inr (nI 7), M2) ∧ xI β r M2 ∧ M2 132 9 = M 132 9 :=
  x_bad h (txOK_of (by decide +kernel)) (cs := (pAt0 tx_b9).2.2) (by decide +kernel) (by omega)
def tx_b10 : List Nat := [122]
theorem x_b10 (h : xI β r M) : ∃ M1 M2, pPut (tx_b10.map nI) M = some M1 ∧ f_X6_run M1 = some (.inl "java/lang/IllegalArgumentException", M2) ∧ f_X6_errorPosition M2 = some (.inr (nI 0), M2) ∧ xI β r M2 ∧ M2 132 9 = M 132 9 :=
  x_bad h (txOK_of (by decide +kernel)) (cs := (pAt0 tx_b10).2.2) (by decide +kernel) (by omega)
end XY
