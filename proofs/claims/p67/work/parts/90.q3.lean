/-! What build leaves: it ends, whatever the script; laid by wip/p67/gen/q2.py. -/
def bI (β : Nat) (M : gM) : Prop := ∃ r, gSim M 0 r ∧ gRow β r ∧ cH β M [] ∧ M 146 1 = nI 0
theorem bI.up {β β' : Nat} {M : gM} (h : bI β M) (hβ : β ≤ β') : bI β' M := by
  obtain ⟨r, g, w, c, t⟩ := h
  exact ⟨r, g, w.up hβ, c.up hβ, t⟩
theorem b_ch {β : Nat} {M : gM} (h : bI β M) {cf : Nat → gM → Option Int32} {cd : Nat → gM → Option (Int32 × gM)} {cr : Nat → gM → Option gM} {m : gM → Option (Int32 × gM)} {code : Nat → Nat} {codes X : List String} {F : gM → Option ((String ⊕ Int32) × gM)}
    (c : ∀ r, gRow β r → gCmd β r cf cd cr m code codes) (hX : ∀ e ∈ codes, e ∈ X)
    (hF : F M = (cf 0 M).bind fun r1 => gSeq (f_X6_raise r1 M) fun _ M5 => (f_X1_push 0 M5).bind fun r6 => (cd 0 r6).bind fun p => some (.inr p.1, p.2)) : ∃ M', bT X (F M) M' ∧ bI (β + 1) M' := by
  obtain ⟨r, g, w, ch, t⟩ := h
  rcases u_call g w ch (Nat.zero_le _) (c r w) hF with ⟨e, he, hc⟩ | ⟨r', v, M1, he, g1, w1, c1, f1, f2⟩
  · exact ⟨M, ⟨_, he, fun e' h' => by cases h'; exact hX e hc⟩, r, g, w.up (by omega), ch.up (by omega), t⟩
  · exact ⟨M1, ⟨_, he, fun e' h' => by cases h'⟩, r', g1, w1, c1.nil, by rw [f2 146 (by omega) (by omega)]; exact t⟩
theorem b_moor {β : Nat} {M : gM} (h : bI β M) (hβ : β ≤ 590) (v d u : Int32) : ∃ M', bT xOAS (f_X6_moor v d u M) M' ∧ bI (β + 1) M' :=
  b_ch (F := f_X6_moor v d u) h (fun r w => T_moor w hβ v d u) (by decide +kernel) (by unfold f_X6_moor; simp only [Option.bind_assoc, Option.bind_some])
theorem b_stow {β : Nat} {M : gM} (h : bI β M) (hβ : β ≤ 590) (v s u k : Int32) : ∃ M', bT xOAS (f_X6_stow v s u k M) M' ∧ bI (β + 1) M' :=
  b_ch (F := f_X6_stow v s u k) h (fun r w => T_stow w hβ v s u k) (by decide +kernel) rfl
theorem b_move {β : Nat} {M : gM} (h : bI β M) (hβ : β ≤ 590) (v s u : Int32) : ∃ M', bT xOAS (f_X6_move v s u M) M' ∧ bI (β + 1) M' :=
  b_ch (F := f_X6_move v s u) h (fun r w => T_move w hβ v s u) (by decide +kernel) rfl
theorem b_deliver {β : Nat} {M : gM} (h : bI β M) (hβ : β ≤ 590) (v : Int32) : ∃ M', bT xN (f_X6_deliver v M) M' ∧ bI (β + 1) M' :=
  b_ch (F := f_X6_deliver v) h (fun r w => T_deliver w hβ v) (by decide +kernel) (by unfold f_X6_deliver; simp only [Option.bind_assoc, Option.bind_some, q_l12])
theorem b_leave {β : Nat} {M : gM} (h : bI β M) (hβ : β ≤ 590) (v : Int32) : ∃ M', bT xOS (f_X6_leave v M) M' ∧ bI (β + 1) M' :=
  b_ch (F := f_X6_leave v) h (fun r w => T_leave w hβ v) (by decide +kernel) (by unfold f_X6_leave; simp only [Option.bind_assoc, Option.bind_some])
theorem b_pass {β : Nat} {M : gM} (h : bI β M) (hβ : β ≤ 590) (v : Int32) : ∃ M', bT xA (f_X6_pass v M) M' ∧ bI (β + 1) M' :=
  b_ch (F := f_X6_pass v) h (fun r w => T_pass w hβ v) (by decide +kernel) rfl
theorem b_clear {β : Nat} {M : gM} (h : bI β M) (hβ : β ≤ 590) (v s a : Int32) : ∃ M', bT xOAS (f_X6_clear v s a M) M' ∧ bI (β + 1) M' := by
  obtain ⟨M', ⟨oc, h1, ho⟩, h2⟩ := b_ch (F := fun M => (f_X6_clear v s a M).bind fun p => some (p.1.map id gb, p.2)) (X := xOAS) h (fun r w => T_clear w hβ v s a) (by decide +kernel) (by
      unfold f_X6_clear
      simp only [Option.bind_assoc]
      congr 1
      funext f
      unfold gSeq
      rw [Option.bind_assoc]
      congr 1
      funext z
      rcases z with ⟨e | v, M5⟩
      · rfl
      · simp only [Option.bind_assoc, Option.bind_some]
        rfl)
  refine ⟨M', ?_, h2⟩
  cases hc : f_X6_clear v s a M with
  | none =>
    have h1 : (f_X6_clear v s a M).bind (fun p => some (p.1.map id gb, p.2)) = some (oc, M') := h1
    rw [hc] at h1
    cases h1
  | some z =>
    have h1 : (f_X6_clear v s a M).bind (fun p => some (p.1.map id gb, p.2)) = some (oc, M') := h1
    obtain ⟨oc0, Mz⟩ := z
    rw [hc, Option.bind_some] at h1
    have e1 : oc0.map id gb = oc := congrArg Prod.fst (Option.some.inj h1)
    have e2 : Mz = M' := congrArg Prod.snd (Option.some.inj h1)
    subst e2
    refine ⟨oc0, rfl, fun e he => ho e ?_⟩
    rw [← e1, he]
    rfl
/-! the script's bits -/
theorem and_mask (c : Int32) {k : Nat} (hk : k < 31) : ∃ m, m < 2 ^ k ∧ c &&& nI (2 ^ k - 1) = nI m := by
  have h2 : 2 ^ k < 2 ^ 32 := Nat.pow_lt_pow_right (by omega) (by omega)
  refine ⟨c.toBitVec.toNat % 2 ^ k, Nat.mod_lt _ (Nat.two_pow_pos k), ?_⟩
  apply Int32.toBitVec_inj.mp
  apply BitVec.eq_of_toNat_eq
  have e : ∀ n : Nat, (nI n).toBitVec.toNat = n % 2 ^ 32 := fun n => by
    show (Int32.ofNat n).toBitVec.toNat = _
    simp
  rw [Int32.toBitVec_and, BitVec.toNat_and, e, e, Nat.mod_eq_of_lt (show 2 ^ k - 1 < 2 ^ 32 by omega), Nat.and_two_pow_sub_one_eq_mod, Nat.mod_eq_of_lt (a := _ % _) (Nat.lt_of_le_of_lt (Nat.mod_le _ _) c.toBitVec.isLt)]
theorem and3 (c : Int32) : ∃ m, m < 4 ∧ c &&& 3 = nI m := and_mask c (k := 2) (by omega)
theorem and7 (c : Int32) : ∃ m, m < 8 ∧ c &&& 7 = nI m := and_mask c (k := 3) (by omega)
theorem rem3 : ∀ m : Nat, m < 4 → nI m - nI m / 3 * 3 = nI (m % 3) := by decide +kernel
theorem remY : ∀ m : Nat, m < 8 → ∀ y : Nat, y < 16 → ¬ y = 0 → nI m - nI m / nI y * nI y = nI (m % y) := by decide +kernel
theorem bBe_is (c : Int32) : ∃ b, b < 3 ∧ bBe c = nI b := by
  obtain ⟨m, hm, e⟩ := and3 c
  exact ⟨m % 3, Nat.mod_lt _ (by omega), by unfold bBe; rw [e, rem3 m hm]⟩
theorem le0_nI {n : Nat} (h : n < 2 ^ 31) : nI n ≤ 0 ↔ n = 0 := by
  constructor
  · intro q
    have := (nI_leI (b := 0) h (by omega)).mp q
    omega
  · intro q
    subst q
    decide
theorem b_step {β : Nat} {M : gM} (h : bI β M) (hβ : β ≤ 580) (c : Int32) : ∃ M', bStep c M M' ∧ bI (β + 8) M' := by
  obtain ⟨M0, s0, i0⟩ := b_stow h (by omega) (bBe c) (bSt c) (1 + ((sr c 4) &&& 7)) ((sr c 7) &&& 3)
  obtain ⟨M1, s1, i1⟩ := b_stow i0 (by omega) (bBe c) ((sr c 9) &&& 3) (1 + ((sr c 4) &&& 15)) ((sr c 8) &&& 3)
  have k2 : ∃ M2, bClear c M1 M2 ∧ bI (β + 3) M2 := by
    by_cases q : (sr c 11) &&& 1 = 0
    · obtain ⟨b, hb, eb⟩ := bBe_is c
      obtain ⟨s, hs, es⟩ := and3 (sr c 2)
      obtain ⟨r, g, w, ch, t⟩ := id i1
      have im := e_isMoored g w hb
      by_cases hm : r (7 + b) = nI 1
      · rw [decide_eq_true hm] at im
        have sh := e_stackHeight g w hb hs hm
        have h5 := (w.h (p := b * 4 + s) (by omega)).2
        by_cases h0 : hN r (b * 4 + s) = 0
        · exact ⟨M1, Or.inr ⟨q, Or.inr ⟨by rw [eb]; exact im, _, by rw [eb, show bSt c = nI s from es]; exact sh, Or.inl ⟨(le0_nI (by omega)).mpr h0, rfl⟩⟩⟩, i1.up (by omega)⟩
        · have top := e_topOf g w hb hs hm h0
          obtain ⟨hf, -, -⟩ := cell_full (r := r) (p := b * 4 + s) (l := hN r (b * 4 + s) - 1) (by omega) h5
          obtain ⟨-, -, a, ha⟩ := e_weightOf g w (cell_mem (q := 5 * (b * 4 + s) + (hN r (b * 4 + s) - 1)) (by omega) hf)
          have fin : ∀ a, bAns c M1 a → ∃ M2, bClear c M1 M2 ∧ bI (β + 3) M2 := fun a hba => by
            obtain ⟨M2, c2, i2⟩ := b_clear i1 (by omega) (bBe c) (bSt c) a
            exact ⟨M2, Or.inr ⟨q, Or.inr ⟨by rw [eb]; exact im, _, by rw [eb, show bSt c = nI s from es]; exact sh, Or.inr ⟨fun z => h0 ((le0_nI (by omega)).mp z), a, hba, c2⟩⟩⟩, i2⟩
          by_cases q2 : (sr c 12) &&& 3 = 0
          · exact fin _ (Or.inl ⟨q2, rfl⟩)
          · exact fin a (Or.inr ⟨q2, _, by rw [eb, show bSt c = nI s from es]; exact top, ha⟩)
      · rw [decide_eq_false hm] at im
        exact ⟨M1, Or.inr ⟨q, Or.inl ⟨by rw [eb]; exact im, rfl⟩⟩, i1.up (by omega)⟩
    · exact ⟨M1, Or.inl ⟨q, rfl⟩, i1.up (by omega)⟩
  obtain ⟨M2, c2, i2⟩ := k2
  have k3 : ∃ M3, bMove c M2 M3 ∧ bI (β + 4) M3 := by
    by_cases q : (sr c 17) &&& 3 = 0
    · obtain ⟨M3, c3, i3⟩ := b_move i2 (by omega) (bBe c) (bSt c) ((sr c 19) &&& 3)
      exact ⟨M3, Or.inr ⟨q, c3⟩, i3⟩
    · exact ⟨M2, Or.inl ⟨q, rfl⟩, i2.up (by omega)⟩
  obtain ⟨M3, c3, i3⟩ := k3
  have k4 : ∃ M4, bDel c M3 M4 ∧ bI (β + 5) M4 := by
    by_cases q : (sr c 17) &&& 3 = 1
    · obtain ⟨r, g, w, ch, t⟩ := id i3
      have yc := e_yardCount g w
      have hy := w.y
      rw [hy.1] at yc
      by_cases h0 : yN r = 0
      · exact ⟨M3, Or.inr ⟨q, _, yc, Or.inl ⟨(le0_nI (by omega)).mpr h0, rfl⟩⟩, i3.up (by omega)⟩
      · obtain ⟨m, hm, em⟩ := and7 (sr c 19)
        have e := e_yardAt g w (l := m % yN r) (Nat.mod_lt _ (by omega))
        obtain ⟨M4, c4, i4⟩ := b_deliver i3 (by omega) (r (214 + m % yN r))
        exact ⟨M4, Or.inr ⟨q, _, yc, Or.inr ⟨fun z => h0 ((le0_nI (by omega)).mp z), _, by rw [em, remY m hm _ (by omega) h0]; exact e, c4⟩⟩, i4⟩
    · exact ⟨M3, Or.inl ⟨q, rfl⟩, i3.up (by omega)⟩
  obtain ⟨M4, c4, i4⟩ := k4
  have k5 : ∃ M5, bPass c M4 M5 ∧ bI (β + 6) M5 := by
    by_cases q : (sr c 17) &&& 3 = 2
    · obtain ⟨M5, c5, i5⟩ := b_pass i4 (by omega) (1 + ((sr c 19) &&& 7))
      exact ⟨M5, Or.inr ⟨q, c5⟩, i5⟩
    · exact ⟨M4, Or.inl ⟨q, rfl⟩, i4.up (by omega)⟩
  obtain ⟨M5, c5, i5⟩ := k5
  have k6 : ∃ M6, bLeave c M5 M6 ∧ bI (β + 7) M6 := by
    by_cases q : (sr c 22) &&& 3 = 0
    · obtain ⟨M6, c6, i6⟩ := b_leave i5 (by omega) (bB2 c)
      exact ⟨M6, Or.inr ⟨q, c6⟩, i6⟩
    · exact ⟨M5, Or.inl ⟨q, rfl⟩, i5.up (by omega)⟩
  obtain ⟨M6, c6, i6⟩ := k6
  have k7 : ∃ M7, bMoor c M6 M7 ∧ bI (β + 8) M7 := by
    by_cases q : (sr c 22) &&& 3 = 1
    · obtain ⟨r, g, w, ch, t⟩ := id i6
      obtain ⟨M7, c7, i7⟩ := b_moor i6 (by omega) (bB2 c) (1 + ((sr c 26) &&& 7)) (r 0 + ((sr c 5) &&& 15))
      exact ⟨M7, Or.inr ⟨q, _, e_hour g, c7⟩, i7⟩
    · exact ⟨M6, Or.inl ⟨q, rfl⟩, i6.up (by omega)⟩
  obtain ⟨M7, c7, i7⟩ := k7
  exact ⟨M7, ⟨M1, M2, M3, M4, M5, M6, ⟨M0, s0, s1⟩, c2, c3, c4, c5, c6, c7⟩, i7⟩
theorem b_loop (Ln : Nat) (xs : Nat → Int32) : ∀ n k β M, bI β M → β + 8 * n ≤ 580 → ∃ M', bLoop Ln xs n k M M' ∧ bI (β + 8 * n) M' := by
  intro n
  induction n with
  | zero => intro k β M h _; exact ⟨M, rfl, h⟩
  | succ n ih =>
    intro k β M h hβ
    obtain ⟨M1, c1, i1⟩ := b_step h (by omega) (pAt Ln xs k)
    obtain ⟨M2, c2, i2⟩ := ih (k + 1) (β + 8) M1 i1 (by omega)
    exact ⟨M2, ⟨M1, c1, c2⟩, i2.up (by omega)⟩
theorem b_ships (z : Int32) : ∀ n k β M, bI β M → β + n ≤ 580 → ∃ M', bShips z n k M M' ∧ bI (β + n) M' := by
  intro n
  induction n with
  | zero => intro k β M h _; exact ⟨M, rfl, h⟩
  | succ n ih =>
    intro k β M h hβ
    obtain ⟨M1, c1, i1⟩ := b_moor h (by omega) (nI k) (1 + (((sr z (2 + 4 * nI k)) &&& 15) - ((sr z (2 + 4 * nI k)) &&& 15) / 9 * 9)) (3 + ((sr z (3 + 5 * nI k)) &&& 31))
    obtain ⟨M2, c2, i2⟩ := ih (k + 1) (β + 1) M1 i1 (by omega)
    exact ⟨M2, ⟨M1, c1, c2⟩, i2.up (by omega)⟩
theorem wM0_bI : bI 0 wM0 := by
  obtain ⟨t, ht, tie, x⟩ := wM0_inv
  have t0 : t = 0 := by omega
  subst t0
  obtain ⟨g, w, s, n, y, hn8, hx8, hn, h4, hx, hh⟩ := tie
  exact ⟨_, g, w, ⟨n, y, hn8, hx8, Nat.zero_le _, hn, hx, fun i q hq => by cases hq⟩, x.1⟩
theorem b_num (z : Int32) : bNum z ≤ 3 := by
  obtain ⟨m, hm, e⟩ := and_mask z (k := 1) (by omega)
  have e : z &&& 1 = nI m := e
  unfold bNum
  rw [e, nI_clamp (by omega)]
  omega
/-- the terminal that build leaves -/
theorem b_all (Ln : Nat) (xs : Nat → Int32) : ∃ MB, pBuild Ln xs wM0 MB ∧ bI 100 MB := by
  have hn := b_num (pAt Ln xs 0)
  obtain ⟨M1, c1, i1⟩ := b_ships (pAt Ln xs 0) (bNum (pAt Ln xs 0)) 0 0 wM0 wM0_bI (by omega)
  obtain ⟨M2, c2, i2⟩ := b_loop Ln xs 12 1 _ M1 i1 (by omega)
  exact ⟨M2, ⟨M1, c1, c2⟩, i2.up (by omega)⟩
