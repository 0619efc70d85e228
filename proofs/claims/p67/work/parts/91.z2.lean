/-! z: the weight 2; laid by wip/p67/gen/z0.py. -/
set_option maxRecDepth 1000000 in
theorem zok_2_0 : ∀ i : Nat, i < 8 → zOK 2 (0 + i) (nI ((7 * (0 + i) + 2) % 10)) wM0 = true := by decide +kernel
set_option maxRecDepth 1000000 in
theorem zok_2_1 : ∀ i : Nat, i < 8 → zOK 2 (8 + i) (nI ((7 * (8 + i) + 2) % 10)) wM0 = true := by decide +kernel
set_option maxRecDepth 1000000 in
theorem zok_2_2 : ∀ i : Nat, i < 8 → zOK 2 (16 + i) (nI ((7 * (16 + i) + 2) % 10)) wM0 = true := by decide +kernel
set_option maxRecDepth 1000000 in
theorem zok_2_3 : ∀ i : Nat, i < 8 → zOK 2 (24 + i) (nI ((7 * (24 + i) + 2) % 10)) wM0 = true := by decide +kernel
set_option maxRecDepth 1000000 in
theorem zok_2_4 : ∀ i : Nat, i < 8 → zOK 2 (32 + i) (nI ((7 * (32 + i) + 2) % 10)) wM0 = true := by decide +kernel
set_option maxRecDepth 1000000 in
theorem zok_2_5 : ∀ i : Nat, i < 8 → zOK 2 (40 + i) (nI ((7 * (40 + i) + 2) % 10)) wM0 = true := by decide +kernel
set_option maxRecDepth 1000000 in
theorem zok_2_6 : ∀ i : Nat, i < 8 → zOK 2 (48 + i) (nI ((7 * (48 + i) + 2) % 10)) wM0 = true := by decide +kernel
set_option maxRecDepth 1000000 in
theorem zok_2_7 : ∀ i : Nat, i < 8 → zOK 2 (56 + i) (nI ((7 * (56 + i) + 2) % 10)) wM0 = true := by decide +kernel
