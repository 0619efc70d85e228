/-! z: the weight 5; laid by wip/p67/gen/z0.py. -/
set_option maxRecDepth 1000000 in
theorem zok_5_0 : ∀ i : Nat, i < 8 → zOK 5 (0 + i) (nI ((7 * (0 + i) + 5) % 10)) wM0 = true := by decide +kernel
set_option maxRecDepth 1000000 in
theorem zok_5_1 : ∀ i : Nat, i < 8 → zOK 5 (8 + i) (nI ((7 * (8 + i) + 5) % 10)) wM0 = true := by decide +kernel
set_option maxRecDepth 1000000 in
theorem zok_5_2 : ∀ i : Nat, i < 8 → zOK 5 (16 + i) (nI ((7 * (16 + i) + 5) % 10)) wM0 = true := by decide +kernel
set_option maxRecDepth 1000000 in
theorem zok_5_3 : ∀ i : Nat, i < 8 → zOK 5 (24 + i) (nI ((7 * (24 + i) + 5) % 10)) wM0 = true := by decide +kernel
set_option maxRecDepth 1000000 in
theorem zok_5_4 : ∀ i : Nat, i < 8 → zOK 5 (32 + i) (nI ((7 * (32 + i) + 5) % 10)) wM0 = true := by decide +kernel
set_option maxRecDepth 1000000 in
theorem zok_5_5 : ∀ i : Nat, i < 8 → zOK 5 (40 + i) (nI ((7 * (40 + i) + 5) % 10)) wM0 = true := by decide +kernel
set_option maxRecDepth 1000000 in
theorem zok_5_6 : ∀ i : Nat, i < 8 → zOK 5 (48 + i) (nI ((7 * (48 + i) + 5) % 10)) wM0 = true := by decide +kernel
set_option maxRecDepth 1000000 in
theorem zok_5_7 : ∀ i : Nat, i < 8 → zOK 5 (56 + i) (nI ((7 * (56 + i) + 5) % 10)) wM0 = true := by decide +kernel
