/-! z: every weight, every key; laid by wip/p67/gen/z0.py. -/
theorem zok_1 (k : Nat) (hk : k < 64) : zOK 1 k (nI ((7 * k + 1) % 10)) wM0 = true := by
  obtain ⟨j, hj⟩ : ∃ j, j = k / 8 := ⟨_, rfl⟩
  obtain ⟨i, hi⟩ : ∃ i, i = k % 8 := ⟨_, rfl⟩
  have h8 : j < 8 := by omega
  have h9 : i < 8 := by omega
  have e : k = 8 * j + i := by omega
  subst e
  clear hj hi hk
  match j, h8 with
  | 0, _ => exact zok_1_0 i h9
  | 1, _ => exact zok_1_1 i h9
  | 2, _ => exact zok_1_2 i h9
  | 3, _ => exact zok_1_3 i h9
  | 4, _ => exact zok_1_4 i h9
  | 5, _ => exact zok_1_5 i h9
  | 6, _ => exact zok_1_6 i h9
  | 7, _ => exact zok_1_7 i h9
theorem zok_2 (k : Nat) (hk : k < 64) : zOK 2 k (nI ((7 * k + 2) % 10)) wM0 = true := by
  obtain ⟨j, hj⟩ : ∃ j, j = k / 8 := ⟨_, rfl⟩
  obtain ⟨i, hi⟩ : ∃ i, i = k % 8 := ⟨_, rfl⟩
  have h8 : j < 8 := by omega
  have h9 : i < 8 := by omega
  have e : k = 8 * j + i := by omega
  subst e
  clear hj hi hk
  match j, h8 with
  | 0, _ => exact zok_2_0 i h9
  | 1, _ => exact zok_2_1 i h9
  | 2, _ => exact zok_2_2 i h9
  | 3, _ => exact zok_2_3 i h9
  | 4, _ => exact zok_2_4 i h9
  | 5, _ => exact zok_2_5 i h9
  | 6, _ => exact zok_2_6 i h9
  | 7, _ => exact zok_2_7 i h9
theorem zok_3 (k : Nat) (hk : k < 64) : zOK 3 k (nI ((7 * k + 3) % 10)) wM0 = true := by
  obtain ⟨j, hj⟩ : ∃ j, j = k / 8 := ⟨_, rfl⟩
  obtain ⟨i, hi⟩ : ∃ i, i = k % 8 := ⟨_, rfl⟩
  have h8 : j < 8 := by omega
  have h9 : i < 8 := by omega
  have e : k = 8 * j + i := by omega
  subst e
  clear hj hi hk
  match j, h8 with
  | 0, _ => exact zok_3_0 i h9
  | 1, _ => exact zok_3_1 i h9
  | 2, _ => exact zok_3_2 i h9
  | 3, _ => exact zok_3_3 i h9
  | 4, _ => exact zok_3_4 i h9
  | 5, _ => exact zok_3_5 i h9
  | 6, _ => exact zok_3_6 i h9
  | 7, _ => exact zok_3_7 i h9
theorem zok_4 (k : Nat) (hk : k < 64) : zOK 4 k (nI ((7 * k + 4) % 10)) wM0 = true := by
  obtain ⟨j, hj⟩ : ∃ j, j = k / 8 := ⟨_, rfl⟩
  obtain ⟨i, hi⟩ : ∃ i, i = k % 8 := ⟨_, rfl⟩
  have h8 : j < 8 := by omega
  have h9 : i < 8 := by omega
  have e : k = 8 * j + i := by omega
  subst e
  clear hj hi hk
  match j, h8 with
  | 0, _ => exact zok_4_0 i h9
  | 1, _ => exact zok_4_1 i h9
  | 2, _ => exact zok_4_2 i h9
  | 3, _ => exact zok_4_3 i h9
  | 4, _ => exact zok_4_4 i h9
  | 5, _ => exact zok_4_5 i h9
  | 6, _ => exact zok_4_6 i h9
  | 7, _ => exact zok_4_7 i h9
theorem zok_5 (k : Nat) (hk : k < 64) : zOK 5 k (nI ((7 * k + 5) % 10)) wM0 = true := by
  obtain ⟨j, hj⟩ : ∃ j, j = k / 8 := ⟨_, rfl⟩
  obtain ⟨i, hi⟩ : ∃ i, i = k % 8 := ⟨_, rfl⟩
  have h8 : j < 8 := by omega
  have h9 : i < 8 := by omega
  have e : k = 8 * j + i := by omega
  subst e
  clear hj hi hk
  match j, h8 with
  | 0, _ => exact zok_5_0 i h9
  | 1, _ => exact zok_5_1 i h9
  | 2, _ => exact zok_5_2 i h9
  | 3, _ => exact zok_5_3 i h9
  | 4, _ => exact zok_5_4 i h9
  | 5, _ => exact zok_5_5 i h9
  | 6, _ => exact zok_5_6 i h9
  | 7, _ => exact zok_5_7 i h9
theorem zok_6 (k : Nat) (hk : k < 64) : zOK 6 k (nI ((7 * k + 6) % 10)) wM0 = true := by
  obtain ⟨j, hj⟩ : ∃ j, j = k / 8 := ⟨_, rfl⟩
  obtain ⟨i, hi⟩ : ∃ i, i = k % 8 := ⟨_, rfl⟩
  have h8 : j < 8 := by omega
  have h9 : i < 8 := by omega
  have e : k = 8 * j + i := by omega
  subst e
  clear hj hi hk
  match j, h8 with
  | 0, _ => exact zok_6_0 i h9
  | 1, _ => exact zok_6_1 i h9
  | 2, _ => exact zok_6_2 i h9
  | 3, _ => exact zok_6_3 i h9
  | 4, _ => exact zok_6_4 i h9
  | 5, _ => exact zok_6_5 i h9
  | 6, _ => exact zok_6_6 i h9
  | 7, _ => exact zok_6_7 i h9
theorem zok_7 (k : Nat) (hk : k < 64) : zOK 7 k (nI ((7 * k + 7) % 10)) wM0 = true := by
  obtain ⟨j, hj⟩ : ∃ j, j = k / 8 := ⟨_, rfl⟩
  obtain ⟨i, hi⟩ : ∃ i, i = k % 8 := ⟨_, rfl⟩
  have h8 : j < 8 := by omega
  have h9 : i < 8 := by omega
  have e : k = 8 * j + i := by omega
  subst e
  clear hj hi hk
  match j, h8 with
  | 0, _ => exact zok_7_0 i h9
  | 1, _ => exact zok_7_1 i h9
  | 2, _ => exact zok_7_2 i h9
  | 3, _ => exact zok_7_3 i h9
  | 4, _ => exact zok_7_4 i h9
  | 5, _ => exact zok_7_5 i h9
  | 6, _ => exact zok_7_6 i h9
  | 7, _ => exact zok_7_7 i h9
theorem zok_8 (k : Nat) (hk : k < 64) : zOK 8 k (nI ((7 * k + 8) % 10)) wM0 = true := by
  obtain ⟨j, hj⟩ : ∃ j, j = k / 8 := ⟨_, rfl⟩
  obtain ⟨i, hi⟩ : ∃ i, i = k % 8 := ⟨_, rfl⟩
  have h8 : j < 8 := by omega
  have h9 : i < 8 := by omega
  have e : k = 8 * j + i := by omega
  subst e
  clear hj hi hk
  match j, h8 with
  | 0, _ => exact zok_8_0 i h9
  | 1, _ => exact zok_8_1 i h9
  | 2, _ => exact zok_8_2 i h9
  | 3, _ => exact zok_8_3 i h9
  | 4, _ => exact zok_8_4 i h9
  | 5, _ => exact zok_8_5 i h9
  | 6, _ => exact zok_8_6 i h9
  | 7, _ => exact zok_8_7 i h9
theorem zok (w k : Nat) (h1 : 1 ≤ w) (h2 : w ≤ 8) (hk : k < 64) : zOK w k (nI ((7 * k + w) % 10)) wM0 = true := by
  match w, h1, h2 with
  | 1, _, _ => exact zok_1 k hk
  | 2, _, _ => exact zok_2 k hk
  | 3, _, _ => exact zok_3 k hk
  | 4, _, _ => exact zok_4 k hk
  | 5, _, _ => exact zok_5 k hk
  | 6, _, _ => exact zok_6 k hk
  | 7, _, _ => exact zok_7 k hk
  | 8, _, _ => exact zok_8 k hk
