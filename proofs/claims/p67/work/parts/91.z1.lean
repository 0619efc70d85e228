/-! z: the weight 1; laid by wip/p67/gen/z0.py. -/
set_option maxRecDepth 1000000 in
theorem zok_1_0 : ∀ i : Nat, i < 8 → zOK 1 (0 + i) (nI ((7 * (0 + i) + 1) % 10)) wM0 = true := by decide +kernel
set_option maxRecDepth 1000000 in
theorem zok_1_1 : ∀ i : Nat, i < 8 → zOK 1 (8 + i) (nI ((7 * (8 + i) + 1) % 10)) wM0 = true := by decide +kernel
set_option maxRecDepth 1000000 in
theorem zok_1_2 : ∀ i : Nat, i < 8 → zOK 1 (16 + i) (nI ((7 * (16 + i) + 1) % 10)) wM0 = true := by decide +kernel
set_option maxRecDepth 1000000 in
theorem zok_1_3 : ∀ i : Nat, i < 8 → zOK 1 (24 + i) (nI ((7 * (24 + i) + 1) % 10)) wM0 = true := by decide +kernel
set_option maxRecDepth 1000000 in
theorem zok_1_4 : ∀ i : Nat, i < 8 → zOK 1 (32 + i) (nI ((7 * (32 + i) + 1) % 10)) wM0 = true := by decide +kernel
set_option maxRecDepth 1000000 in
theorem zok_1_5 : ∀ i : Nat, i < 8 → zOK 1 (40 + i) (nI ((7 * (40 + i) + 1) % 10)) wM0 = true := by decide +kernel
set_option maxRecDepth 1000000 in
theorem zok_1_6 : ∀ i : Nat, i < 8 → zOK 1 (48 + i) (nI ((7 * (48 + i) + 1) % 10)) wM0 = true := by decide +kernel
set_option maxRecDepth 1000000 in
theorem zok_1_7 : ∀ i : Nat, i < 8 → zOK 1 (56 + i) (nI ((7 * (56 + i) + 1) % 10)) wM0 = true := by decide +kernel
