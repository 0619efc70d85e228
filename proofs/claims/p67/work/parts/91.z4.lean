/-! z: the weight 4; laid by wip/p67/gen/z0.py. -/
set_option maxRecDepth 1000000 in
theorem zok_4_0 : ∀ i : Nat, i < 8 → zOK 4 (0 + i) (nI ((7 * (0 + i) + 4) % 10)) wM0 = true := by decide +kernel
set_option maxRecDepth 1000000 in
theorem zok_4_1 : ∀ i : Nat, i < 8 → zOK 4 (8 + i) (nI ((7 * (8 + i) + 4) % 10)) wM0 = true := by decide +kernel
set_option maxRecDepth 1000000 in
theorem zok_4_2 : ∀ i : Nat, i < 8 → zOK 4 (16 + i) (nI ((7 * (16 + i) + 4) % 10)) wM0 = true := by decide +kernel
set_option maxRecDepth 1000000 in
theorem zok_4_3 : ∀ i : Nat, i < 8 → zOK 4 (24 + i) (nI ((7 * (24 + i) + 4) % 10)) wM0 = true := by decide +kernel
set_option maxRecDepth 1000000 in
theorem zok_4_4 : ∀ i : Nat, i < 8 → zOK 4 (32 + i) (nI ((7 * (32 + i) + 4) % 10)) wM0 = true := by decide +kernel
set_option maxRecDepth 1000000 in
theorem zok_4_5 : ∀ i : Nat, i < 8 → zOK 4 (40 + i) (nI ((7 * (40 + i) + 4) % 10)) wM0 = true := by decide +kernel
set_option maxRecDepth 1000000 in
theorem zok_4_6 : ∀ i : Nat, i < 8 → zOK 4 (48 + i) (nI ((7 * (48 + i) + 4) % 10)) wM0 = true := by decide +kernel
set_option maxRecDepth 1000000 in
theorem zok_4_7 : ∀ i : Nat, i < 8 → zOK 4 (56 + i) (nI ((7 * (56 + i) + 4) % 10)) wM0 = true := by decide +kernel
