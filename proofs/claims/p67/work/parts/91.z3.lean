/-! z: the weight 3; laid by wip/p67/gen/z0.py. -/
set_option maxRecDepth 1000000 in
theorem zok_3_0 : ∀ i : Nat, i < 8 → zOK 3 (0 + i) (nI ((7 * (0 + i) + 3) % 10)) wM0 = true := by decide +kernel
set_option maxRecDepth 1000000 in
theorem zok_3_1 : ∀ i : Nat, i < 8 → zOK 3 (8 + i) (nI ((7 * (8 + i) + 3) % 10)) wM0 = true := by decide +kernel
set_option maxRecDepth 1000000 in
theorem zok_3_2 : ∀ i : Nat, i < 8 → zOK 3 (16 + i) (nI ((7 * (16 + i) + 3) % 10)) wM0 = true := by decide +kernel
set_option maxRecDepth 1000000 in
theorem zok_3_3 : ∀ i : Nat, i < 8 → zOK 3 (24 + i) (nI ((7 * (24 + i) + 3) % 10)) wM0 = true := by decide +kernel
set_option maxRecDepth 1000000 in
theorem zok_3_4 : ∀ i : Nat, i < 8 → zOK 3 (32 + i) (nI ((7 * (32 + i) + 3) % 10)) wM0 = true := by decide +kernel
set_option maxRecDepth 1000000 in
theorem zok_3_5 : ∀ i : Nat, i < 8 → zOK 3 (40 + i) (nI ((7 * (40 + i) + 3) % 10)) wM0 = true := by decide +kernel
set_option maxRecDepth 1000000 in
theorem zok_3_6 : ∀ i : Nat, i < 8 → zOK 3 (48 + i) (nI ((7 * (48 + i) + 3) % 10)) wM0 = true := by decide +kernel
set_option maxRecDepth 1000000 in
theorem zok_3_7 : ∀ i : Nat, i < 8 → zOK 3 (56 + i) (nI ((7 * (56 + i) + 3) % 10)) wM0 = true := by decide +kernel
