/-! z: the weight 8; laid by wip/p67/gen/z0.py. -/
set_option maxRecDepth 1000000 in
theorem zok_8_0 : ∀ i : Nat, i < 8 → zOK 8 (0 + i) (nI ((7 * (0 + i) + 8) % 10)) wM0 = true := by decide +kernel
set_option maxRecDepth 1000000 in
theorem zok_8_1 : ∀ i : Nat, i < 8 → zOK 8 (8 + i) (nI ((7 * (8 + i) + 8) % 10)) wM0 = true := by decide +kernel
set_option maxRecDepth 1000000 in
theorem zok_8_2 : ∀ i : Nat, i < 8 → zOK 8 (16 + i) (nI ((7 * (16 + i) + 8) % 10)) wM0 = true := by decide +kernel
set_option maxRecDepth 1000000 in
theorem zok_8_3 : ∀ i : Nat, i < 8 → zOK 8 (24 + i) (nI ((7 * (24 + i) + 8) % 10)) wM0 = true := by decide +kernel
set_option maxRecDepth 1000000 in
theorem zok_8_4 : ∀ i : Nat, i < 8 → zOK 8 (32 + i) (nI ((7 * (32 + i) + 8) % 10)) wM0 = true := by decide +kernel
set_option maxRecDepth 1000000 in
theorem zok_8_5 : ∀ i : Nat, i < 8 → zOK 8 (40 + i) (nI ((7 * (40 + i) + 8) % 10)) wM0 = true := by decide +kernel
set_option maxRecDepth 1000000 in
theorem zok_8_6 : ∀ i : Nat, i < 8 → zOK 8 (48 + i) (nI ((7 * (48 + i) + 8) % 10)) wM0 = true := by decide +kernel
set_option maxRecDepth 1000000 in
theorem zok_8_7 : ∀ i : Nat, i < 8 → zOK 8 (56 + i) (nI ((7 * (56 + i) + 8) % 10)) wM0 = true := by decide +kernel
