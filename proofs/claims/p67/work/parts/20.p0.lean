/-! Numbers: ints that are small naturals; loops over them; lists. -/
theorem q_l0 : (0 : Int32) = nI 0 := by decide
theorem q_l1 : (1 : Int32) = nI 1 := by decide
theorem q_l2 : (2 : Int32) = nI 2 := by decide
theorem q_l3 : (3 : Int32) = nI 3 := by decide
theorem q_l4 : (4 : Int32) = nI 4 := by decide
theorem q_l5 : (5 : Int32) = nI 5 := by decide
theorem q_l6 : (6 : Int32) = nI 6 := by decide
theorem q_l7 : (7 : Int32) = nI 7 := by decide
theorem q_l8 : (8 : Int32) = nI 8 := by decide
theorem q_l9 : (9 : Int32) = nI 9 := by decide
theorem q_l10 : (10 : Int32) = nI 10 := by decide
theorem q_l11 : (11 : Int32) = nI 11 := by decide
theorem q_l12 : (12 : Int32) = nI 12 := by decide
theorem q_l13 : (13 : Int32) = nI 13 := by decide
theorem q_l14 : (14 : Int32) = nI 14 := by decide
theorem q_l15 : (15 : Int32) = nI 15 := by decide
theorem q_l16 : (16 : Int32) = nI 16 := by decide
theorem q_l19 : (19 : Int32) = nI 19 := by decide
theorem q_l20 : (20 : Int32) = nI 20 := by decide
theorem q_l22 : (22 : Int32) = nI 22 := by decide
theorem q_l24 : (24 : Int32) = nI 24 := by decide
theorem q_l30 : (30 : Int32) = nI 30 := by decide
theorem q_l32 : (32 : Int32) = nI 32 := by decide
theorem q_l34 : (34 : Int32) = nI 34 := by decide
theorem q_l36 : (36 : Int32) = nI 36 := by decide
theorem q_l45 : (45 : Int32) = nI 45 := by decide
theorem q_l47 : (47 : Int32) = nI 47 := by decide
theorem q_l48 : (48 : Int32) = nI 48 := by decide
theorem q_l57 : (57 : Int32) = nI 57 := by decide
theorem q_l58 : (58 : Int32) = nI 58 := by decide
theorem q_l59 : (59 : Int32) = nI 59 := by decide
theorem q_l60 : (60 : Int32) = nI 60 := by decide
theorem q_l61 : (61 : Int32) = nI 61 := by decide
theorem q_l66 : (66 : Int32) = nI 66 := by decide
theorem q_l75 : (75 : Int32) = nI 75 := by decide
theorem q_l76 : (76 : Int32) = nI 76 := by decide
theorem q_l94 : (94 : Int32) = nI 94 := by decide
theorem q_l97 : (97 : Int32) = nI 97 := by decide
theorem q_l99 : (99 : Int32) = nI 99 := by decide
theorem q_l100 : (100 : Int32) = nI 100 := by decide
theorem q_l101 : (101 : Int32) = nI 101 := by decide
theorem q_l104 : (104 : Int32) = nI 104 := by decide
theorem q_l105 : (105 : Int32) = nI 105 := by decide
theorem q_l108 : (108 : Int32) = nI 108 := by decide
theorem q_l109 : (109 : Int32) = nI 109 := by decide
theorem q_l111 : (111 : Int32) = nI 111 := by decide
theorem q_l114 : (114 : Int32) = nI 114 := by decide
theorem q_l115 : (115 : Int32) = nI 115 := by decide
theorem q_l116 : (116 : Int32) = nI 116 := by decide
theorem q_l117 : (117 : Int32) = nI 117 := by decide
theorem q_l118 : (118 : Int32) = nI 118 := by decide
theorem q_l119 : (119 : Int32) = nI 119 := by decide
theorem q_l120 : (120 : Int32) = nI 120 := by decide
theorem q_l126 : (126 : Int32) = nI 126 := by decide
theorem q_l132 : (132 : Int32) = nI 132 := by decide
theorem q_l133 : (133 : Int32) = nI 133 := by decide
theorem q_l135 : (135 : Int32) = nI 135 := by decide
theorem q_l136 : (136 : Int32) = nI 136 := by decide
theorem q_l138 : (138 : Int32) = nI 138 := by decide
theorem q_l146 : (146 : Int32) = nI 146 := by decide
theorem q_l147 : (147 : Int32) = nI 147 := by decide
theorem q_l148 : (148 : Int32) = nI 148 := by decide
theorem q_l149 : (149 : Int32) = nI 149 := by decide
theorem q_l150 : (150 : Int32) = nI 150 := by decide
theorem q_l151 : (151 : Int32) = nI 151 := by decide
theorem q_l152 : (152 : Int32) = nI 152 := by decide
theorem q_l153 : (153 : Int32) = nI 153 := by decide
theorem q_l154 : (154 : Int32) = nI 154 := by decide
theorem q_l155 : (155 : Int32) = nI 155 := by decide
theorem q_l156 : (156 : Int32) = nI 156 := by decide
theorem q_l157 : (157 : Int32) = nI 157 := by decide
theorem q_l158 : (158 : Int32) = nI 158 := by decide
theorem q_l214 : (214 : Int32) = nI 214 := by decide
theorem q_l229 : (229 : Int32) = nI 229 := by decide
theorem q_l244 : (244 : Int32) = nI 244 := by decide
theorem q_l259 : (259 : Int32) = nI 259 := by decide
theorem q_l300 : (300 : Int32) = nI 300 := by decide
theorem q_l999 : (999 : Int32) = nI 999 := by decide
theorem q_l1813 : (1813 : Int32) = nI 1813 := by decide
theorem q_l2072 : (2072 : Int32) = nI 2072 := by decide
theorem q_l10000 : (10000 : Int32) = nI 10000 := by decide
theorem q_l65536 : (65536 : Int32) = nI 65536 := by decide
theorem q_l1000000000 : (1000000000 : Int32) = nI 1000000000 := by decide
theorem q_nd {a : Nat} (h : a < 2 ^ 31) : (nI a).toInt = (a : Int) := nI_toInt h
theorem q_ig {α : Type} {a n : Nat} {x y : α} (h : a < n) (hn : n < 2 ^ 31) {_ : Decidable (gin (nI a) n)} : (if gin (nI a) n then x else y) = x := if_pos ⟨by rw [nI_toInt (by omega)]; omega, by rw [nI_toInt (by omega)]; omega⟩
theorem q_ni {α : Type} {a n : Nat} {x y : α} (h : n ≤ a) (ha : a < 2 ^ 31) {_ : Decidable (gin (nI a) n)} : (if gin (nI a) n then x else y) = y := if_neg (fun q => by have h2 := q.2; rw [nI_toInt ha] at h2; omega)
theorem q_le {α : Type} {a b : Nat} {x y : α} (h : a ≤ b) (hb : b < 2 ^ 31) {_ : Decidable (nI a ≤ nI b)} : (if nI a ≤ nI b then x else y) = x := if_pos (nI_le h hb)
theorem q_nle {α : Type} {a b : Nat} {x y : α} (h : b < a) (ha : a < 2 ^ 31) {_ : Decidable (nI a ≤ nI b)} : (if nI a ≤ nI b then x else y) = y := if_neg (nI_ge h ha)
theorem q_lt {α : Type} {a b : Nat} {x y : α} (h : a < b) (hb : b < 2 ^ 31) {_ : Decidable (nI a < nI b)} : (if nI a < nI b then x else y) = x := if_pos (nI_lt h hb)
theorem q_nlt {α : Type} {a b : Nat} {x y : α} (h : b ≤ a) (ha : a < 2 ^ 31) {_ : Decidable (nI a < nI b)} : (if nI a < nI b then x else y) = y := if_neg (nI_nlt h ha)
theorem q_eq {α : Type} {a b : Nat} {x y : α} (h : a = b) {_ : Decidable (nI a = nI b)} : (if nI a = nI b then x else y) = x := if_pos (by rw [h])
theorem q_eqr {α : Type} {a : Int32} {x y : α} {_ : Decidable (a = a)} : (if a = a then x else y) = x := if_pos rfl
theorem q_ne {α : Type} {a b : Nat} {x y : α} (h : a ≠ b) (ha : a < 2 ^ 31) (hb : b < 2 ^ 31) {_ : Decidable (nI a = nI b)} : (if nI a = nI b then x else y) = y := if_neg (fun q => h ((nI_eq ha hb).mp q))
theorem q_gbt0 : ¬ gb true = nI 0 := by decide
theorem q_gbf0 : gb false = nI 0 := by decide
theorem q_m1lt0 : -nI 1 < nI 0 := by decide
theorem q_gbt {α : Type} {x y : α} {_ : Decidable (gb true = nI 0)} : (if gb true = nI 0 then x else y) = y := if_neg q_gbt0
theorem q_gbf {α : Type} {x y : α} {_ : Decidable (gb false = nI 0)} : (if gb false = nI 0 then x else y) = x := if_pos q_gbf0
theorem q_gbd {α : Type} {b : Bool} {x y : α} {_ : Decidable (gb b = nI 0)} : (if gb b = nI 0 then x else y) = (if b = true then y else x) := by
  cases b
  · rw [q_gbf]; simp
  · rw [q_gbt]; simp
theorem q_m1lt {α : Type} {x y : α} {_ : Decidable (-nI 1 < nI 0)} : (if -nI 1 < nI 0 then x else y) = x := if_pos q_m1lt0
theorem q_m1ge {α : Type} {b : Nat} {x y : α} (hb : b < 2 ^ 31) {_ : Decidable (nI b ≤ -nI 1)} : (if nI b ≤ -nI 1 then x else y) = y := if_neg (fun q => by
  have h1 := Int32.le_iff_toInt_le.mp q
  rw [nI_toInt hb, show (-nI 1).toInt = -1 from by decide] at h1
  omega)
theorem q_m1ne {α : Type} {a : Nat} {x y : α} (ha : a < 2 ^ 31) {_ : Decidable (nI a = -nI 1)} : (if nI a = -nI 1 then x else y) = y := if_neg (fun q => by
  have h1 := congrArg Int32.toInt q
  rw [nI_toInt ha, show (-nI 1).toInt = -1 from by decide] at h1
  omega)
theorem q_m1eq {α : Type} {x y : α} {_ : Decidable (-nI 1 = -nI 1)} : (if -nI 1 = -nI 1 then x else y) = x := if_pos rfl
theorem q_m1e {α : Type} {a : Nat} {x y : α} (ha : a < 2 ^ 31) {_ : Decidable (-nI 1 = nI a)} : (if -nI 1 = nI a then x else y) = y := if_neg (fun q => by
  have h1 := congrArg Int32.toInt q
  rw [nI_toInt ha, show (-nI 1).toInt = -1 from by decide] at h1
  omega)
theorem q_sub {a b : Nat} (h : b ≤ a) : nI a - nI b = nI (a - b) := pk_sub h
theorem q_m1 {a : Nat} (h : 1 ≤ a) : nI a + -nI 1 = nI (a - 1) := by
  obtain ⟨c, rfl⟩ : ∃ c, a = c + 1 := ⟨a - 1, by omega⟩
  exact pk_m1 c
theorem q_div {a d : Nat} (ha : a < 2 ^ 31) (h0 : 0 < d) (hd : d < 2 ^ 31) : nI a / nI d = nI (a / d) := pk_div ha h0 hd
theorem q_rem {a d : Nat} (ha : a < 2 ^ 31) (h0 : 0 < d) (hd : d < 2 ^ 31) : nI a - nI (a / d) * nI d = nI (a % d) := by rw [← pk_div ha h0 hd]; exact pk_rem ha h0 hd
theorem q_modN (a d : Nat) : a - a / d * d = a % d := by rw [Nat.mul_comm]; exact (Nat.mod_eq_sub a d).symm
/-- an int that is no index below n -/
theorem q_gn {α : Type} {v : Int32} {n : Nat} {x y : α} (h : ¬ gin v n) (hn : n < 2 ^ 31) {_ : Decidable (v < nI 0)} {_ : Decidable (nI n ≤ v)} : (if v < nI 0 then x else if nI n ≤ v then x else y) = x := by
  by_cases h0 : v < nI 0
  · rw [if_pos h0]
  · rw [if_neg h0, if_pos]
    apply Int32.le_iff_toInt_le.mpr
    rw [nI_toInt hn]
    have h1 : ¬ v.toInt < (nI 0).toInt := fun q => h0 (Int32.lt_iff_toInt_lt.mpr q)
    rw [nI_toInt (by omega)] at h1
    by_cases h2 : v.toInt < n
    · exact absurd ⟨by omega, h2⟩ h
    · omega
theorem q_cases (v : Int32) (n : Nat) : (∃ a, a < n ∧ v = nI a) ∨ ¬ gin v n := by
  by_cases h : gin v n
  · exact Or.inl (gin_nI h)
  · exact Or.inr h
theorem q_seqr {α β : Type} {v : α} {M : gM} {k : α → gM → Option ((String ⊕ β) × gM)} : gSeq (some (.inr v, M)) k = k v M := rfl
theorem q_seql {α β : Type} {e : String} {M : gM} {k : α → gM → Option ((String ⊕ β) × gM)} : gSeq (some (.inl e, M)) k = some (.inl e, M) := rfl
/-- an int between two small naturals, or not -/
theorem q_in3 (v : Int32) (a b : Nat) (hab : a ≤ b) (hb : b < 2 ^ 31) : (∃ q, a ≤ q ∧ q ≤ b ∧ v = nI q) ∨ (v < nI a ∨ nI b < v) := by
  by_cases h1 : v < nI a
  · exact Or.inr (Or.inl h1)
  · by_cases h2 : nI b < v
    · exact Or.inr (Or.inr h2)
    · have e1 : ¬ v.toInt < (nI a).toInt := fun q => h1 (Int32.lt_iff_toInt_lt.mpr q)
      have e2 : ¬ (nI b).toInt < v.toInt := fun q => h2 (Int32.lt_iff_toInt_lt.mpr q)
      rw [nI_toInt (by omega)] at e1
      rw [nI_toInt hb] at e2
      obtain ⟨q, hq, rfl⟩ : ∃ q, q < b + 1 ∧ v = nI q := gin_nI (v := v) (n := b + 1) ⟨by omega, by omega⟩
      rw [nI_toInt (by omega)] at e1 e2
      exact Or.inl ⟨q, by omega, by omega, rfl⟩
theorem q_gsgs (M : gM) (a k : Nat) (v u : Int32) : gs (gs M a k v) a k u = gs M a k u := by
  funext b j
  rw [gs_ap, gs_ap, gs_ap]
  split <;> rfl
theorem q_s01 : nI 0 - nI 1 = -nI 1 := by decide
theorem q_n0le {α : Type} {a : Nat} {x y : α} (ha : a < 2 ^ 31) {_ : Decidable (nI 0 ≤ nI a)} : (if nI 0 ≤ nI a then x else y) = x := if_pos (nI_le (Nat.zero_le _) ha)
theorem q_sneg {α : Type} {a b : Nat} {x y : α} (h : a ≤ b) (hb : b < 2 ^ 30) {_ : Decidable (nI 0 < nI a - nI b)} : (if nI 0 < nI a - nI b then x else y) = y := if_neg (fun q => by
  have h1 := Int32.lt_iff_toInt_lt.mp q
  rw [pk_sub_toInt (by omega) hb, nI_toInt (by omega)] at h1
  omega)
theorem q_spos {α : Type} {a b : Nat} {x y : α} (h : b < a) (ha : a < 2 ^ 30) {_ : Decidable (nI 0 < nI a - nI b)} : (if nI 0 < nI a - nI b then x else y) = x := if_pos (by
  apply Int32.lt_iff_toInt_lt.mpr
  rw [pk_sub_toInt ha (by omega), nI_toInt (by omega)]
  omega)
theorem q_sz {α : Type} {a b : Nat} {x y : α} (h : a ≠ b) (ha : a < 2 ^ 30) (hb : b < 2 ^ 30) {_ : Decidable (nI a - nI b = nI 0)} : (if nI a - nI b = nI 0 then x else y) = y := if_neg (fun q => by
  have h1 := congrArg Int32.toInt q
  rw [pk_sub_toInt ha hb, nI_toInt (by omega)] at h1
  omega)
/-- a loop that looks for the first, where there is one -/
theorem lp_findE {β : Type} (F : Nat → Int32 → Option β) (P : Nat → Bool) (res : Nat → β) (c : Nat)
    (h1 : ∀ n k, k < c → F (n + 1) (nI k) = if P k = true then some (res k) else F n (nI (k + 1))) (hex : ∃ j, j < c ∧ P j = true) (hc : c < 3000) :
    ∃ j, j < c ∧ P j = true ∧ (∀ i, i < j → P i = false) ∧ F gF (nI 0) = some (res j) := by
  have key : ∀ d n k, k + d = c → d < n → (∀ i, i < k → P i = false) → ∃ j, j < c ∧ P j = true ∧ (∀ i, i < j → P i = false) ∧ F n (nI k) = some (res j) := by
    intro d
    induction d with
    | zero =>
      intro n k hk hn hb
      obtain ⟨j, hj, hp⟩ := hex
      rw [hb j (by omega)] at hp
      cases hp
    | succ d ih =>
      intro n k hk hn hb
      obtain ⟨m, rfl⟩ : ∃ m, n = m + 1 := ⟨n - 1, by omega⟩
      cases hp : P k with
      | true => exact ⟨k, by omega, hp, hb, by rw [h1 m k (by omega), if_pos hp]⟩
      | false =>
        rw [h1 m k (by omega), if_neg (by rw [hp]; exact Bool.false_ne_true)]
        exact ih m (k + 1) (by omega) (by omega) (fun i hi => by
          by_cases e : i = k
          · rw [e]; exact hp
          · exact hb i (by omega))
  exact key c gF 0 (by omega) (by unfold gF; omega) (fun i hi => by omega)
/-! loops -/
theorem lp_fold {α β : Type} (F : Nat → Int32 → α → Option β) (fin : α → β) (step : Nat → α → α) (I : Nat → α → Prop) (c : Nat)
    (h1 : ∀ n k a, k < c → I k a → F (n + 1) (nI k) a = F n (nI (k + 1)) (step k a) ∧ I (k + 1) (step k a)) (h2 : ∀ n a, I c a → F (n + 1) (nI c) a = some (fin a)) :
    ∀ d n k a, k + d = c → d < n → I k a → ∃ b, I c b ∧ b = (List.range' k d).foldl (fun a i => step i a) a ∧ F n (nI k) a = some (fin b) := by
  intro d
  induction d with
  | zero =>
    intro n k a hk hn hI
    obtain ⟨m, rfl⟩ : ∃ m, n = m + 1 := ⟨n - 1, by omega⟩
    have hk : k = c := by omega
    subst hk
    exact ⟨a, hI, rfl, h2 m a hI⟩
  | succ d ih =>
    intro n k a hk hn hI
    obtain ⟨m, rfl⟩ : ∃ m, n = m + 1 := ⟨n - 1, by omega⟩
    obtain ⟨e, hI2⟩ := h1 m k a (by omega) hI
    obtain ⟨b, hb1, hb2, hb3⟩ := ih m (k + 1) (step k a) (by omega) (by omega) hI2
    exact ⟨b, hb1, by rw [hb2, List.range'_succ, List.foldl_cons], by rw [e]; exact hb3⟩
/-- a loop that counts -/
theorem lp_count (F : Nat → Int32 → Int32 → Option Int32) (P : Nat → Bool) (c : Nat)
    (h1 : ∀ n k a, k < c → a ≤ k → F (n + 1) (nI k) (nI a) = F n (nI (k + 1)) (nI (a + if P k then 1 else 0))) (h2 : ∀ n a, a ≤ c → F (n + 1) (nI c) (nI a) = some (nI a)) (hc : c < 3000) :
    F gF (nI 0) (nI 0) = some (nI ((List.range c).countP P)) := by
  have key : ∀ d n k a, k + d = c → d < n → a ≤ k → F n (nI k) (nI a) = some (nI (a + (List.range' k d).countP P)) := by
    intro d
    induction d with
    | zero =>
      intro n k a hk hn ha
      obtain ⟨m, rfl⟩ : ∃ m, n = m + 1 := ⟨n - 1, by omega⟩
      have hk : k = c := by omega
      subst hk
      rw [h2 m a ha]
      simp
    | succ d ih =>
      intro n k a hk hn ha
      obtain ⟨m, rfl⟩ : ∃ m, n = m + 1 := ⟨n - 1, by omega⟩
      rw [h1 m k a (by omega) ha, ih m (k + 1) _ (by omega) (by omega) (by split <;> omega), List.range'_succ, List.countP_cons, Nat.add_assoc, Nat.add_comm (if P k = true then 1 else 0)]
  have h := key c gF 0 0 (by omega) (by unfold gF; omega) (Nat.le_refl _)
  rw [h, Nat.zero_add, List.range_eq_range']
/-- a loop that adds -/
theorem lp_sum (F : Nat → Int32 → Int32 → Option Int32) (f : Nat → Int32) (c : Nat)
    (h1 : ∀ n k a, k < c → F (n + 1) (nI k) a = F n (nI (k + 1)) (a + f k)) (h2 : ∀ n a, F (n + 1) (nI c) a = some a) (hc : c < 3000) (a0 : Int32) :
    F gF (nI 0) a0 = some ((List.range c).foldl (fun a i => a + f i) a0) := by
  obtain ⟨b, -, hb, h⟩ := lp_fold F (fun a => a) (fun k a => a + f k) (fun _ _ => True) c (fun n k a hk _ => ⟨h1 n k a hk, trivial⟩) (fun n a _ => h2 n a) c gF 0 a0 (by omega) (by unfold gF; omega) trivial
  rw [h, hb, List.range_eq_range']
/-- a loop that looks for the first -/
theorem lp_find {β : Type} (F : Nat → Int32 → Option β) (P : Nat → Bool) (res : Nat → β) (no : β) (c : Nat)
    (h1 : ∀ n k, k < c → F (n + 1) (nI k) = if P k = true then some (res k) else F n (nI (k + 1))) (h2 : ∀ n, F (n + 1) (nI c) = some no) (hc : c < 3000) :
    (∃ j, j < c ∧ P j = true ∧ (∀ i, i < j → P i = false) ∧ F gF (nI 0) = some (res j)) ∨ ((∀ i, i < c → P i = false) ∧ F gF (nI 0) = some no) := by
  have key : ∀ d n k, k + d = c → d < n → (∀ i, i < k → P i = false) → (∃ j, j < c ∧ P j = true ∧ (∀ i, i < j → P i = false) ∧ F n (nI k) = some (res j)) ∨ ((∀ i, i < c → P i = false) ∧ F n (nI k) = some no) := by
    intro d
    induction d with
    | zero =>
      intro n k hk hn hb
      obtain ⟨m, rfl⟩ : ∃ m, n = m + 1 := ⟨n - 1, by omega⟩
      have hk : k = c := by omega
      subst hk
      exact Or.inr ⟨hb, h2 m⟩
    | succ d ih =>
      intro n k hk hn hb
      obtain ⟨m, rfl⟩ : ∃ m, n = m + 1 := ⟨n - 1, by omega⟩
      cases hp : P k with
      | true => exact Or.inl ⟨k, by omega, hp, hb, by rw [h1 m k (by omega), if_pos hp]⟩
      | false =>
        rw [h1 m k (by omega), if_neg (by rw [hp]; exact Bool.false_ne_true)]
        exact ih m (k + 1) (by omega) (by omega) (fun i hi => by
          by_cases e : i = k
          · rw [e]; exact hp
          · exact hb i (by omega))
  exact key c gF 0 (by omega) (by unfold gF; omega) (fun i hi => by omega)
/-- a loop that asks whether all hold -/
theorem lp_all (F : Nat → Int32 → Option Bool) (P : Nat → Bool) (c : Nat)
    (h1 : ∀ n k, k < c → F (n + 1) (nI k) = if P k = true then F n (nI (k + 1)) else some false) (h2 : ∀ n, F (n + 1) (nI c) = some true) (hc : c < 3000) :
    F gF (nI 0) = some ((List.range c).all P) := by
  rcases lp_find F (fun k => !P k) (fun _ => false) true c (fun n k hk => by rw [h1 n k hk]; cases P k <;> rfl) h2 hc with ⟨j, hj, hp, -, h⟩ | ⟨hp, h⟩
  · rw [h]
    congr 1
    symm
    rw [List.all_eq_false]
    exact ⟨j, List.mem_range.mpr hj, by simpa using hp⟩
  · rw [h]
    congr 1
    symm
    rw [List.all_eq_true]
    exact fun i hi => by simpa using hp i (List.mem_range.mp hi)
/-! lists -/
theorem q_permIns {α : Type} [DecidableEq α] {L : List α} {P Q : α → Bool} {x : α} (hn : L.Nodup) (hx : x ∈ L) (hP : P x = false) (hQ : ∀ y ∈ L, Q y = (P y || decide (y = x))) : (L.filter Q).Perm (x :: L.filter P) := by
  induction L with
  | nil => cases hx
  | cons a L ih =>
    have hna := (List.nodup_cons.mp hn)
    rcases List.mem_cons.mp hx with rfl | hx
    · have h1 : Q x = true := by rw [hQ _ List.mem_cons_self]; simp
      have h2 : L.filter Q = L.filter P := List.filter_congr (fun y hy => by
        rw [hQ y (List.mem_cons_of_mem _ hy)]
        have : y ≠ x := fun e => hna.1 (e ▸ hy)
        simp [this])
      rw [List.filter_cons_of_pos h1, List.filter_cons_of_neg (by simp [hP]), h2]
    · have hax : a ≠ x := fun e => hna.1 (e ▸ hx)
      have h1 : Q a = P a := by rw [hQ a List.mem_cons_self]; simp [hax]
      have ih' := ih hna.2 hx (fun y hy => hQ y (List.mem_cons_of_mem _ hy))
      cases hpa : P a with
      | true =>
        rw [List.filter_cons_of_pos (h1.trans hpa), List.filter_cons_of_pos hpa]
        exact (ih'.cons a).trans (List.Perm.swap x a _)
      | false =>
        rw [List.filter_cons_of_neg (by rw [h1, hpa]; exact Bool.false_ne_true), List.filter_cons_of_neg (by rw [hpa]; exact Bool.false_ne_true)]
        exact ih'
theorem q_permSet {α : Type} (L : List α) (j : Nat) (x : α) (h : j < L.length) : (L.set j x).Perm (x :: L.eraseIdx j) := by
  induction L generalizing j with
  | nil => simp at h
  | cons a L ih =>
    cases j with
    | zero => simp
    | succ j =>
      simp only [List.set_cons_succ, List.eraseIdx_cons_succ]
      exact ((ih j (by simpa using h)).cons a).trans (List.Perm.swap x a _)
theorem q_permGet {α : Type} (L : List α) (j : Nat) (x : α) (h : L[j]? = some x) : L.Perm (x :: L.eraseIdx j) := by
  induction L generalizing j with
  | nil => simp at h
  | cons a L ih =>
    cases j with
    | zero =>
      simp at h
      subst h
      simp
    | succ j =>
      simp only [List.eraseIdx_cons_succ]
      exact ((ih j (by simpa using h)).cons a).trans (List.Perm.swap x a _)
