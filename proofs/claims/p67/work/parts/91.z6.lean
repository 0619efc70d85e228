/-! z: the weight 6; laid by wip/p67/gen/z0.py. -/
set_option maxRecDepth 1000000 in
theorem zok_6_0 : ∀ i : Nat, i < 8 → zOK 6 (0 + i) (nI ((7 * (0 + i) + 6) % 10)) wM0 = true := by decide +kernel
set_option maxRecDepth 1000000 in
theorem zok_6_1 : ∀ i : Nat, i < 8 → zOK 6 (8 + i) (nI ((7 * (8 + i) + 6) % 10)) wM0 = true := by decide +kernel
set_option maxRecDepth 1000000 in
theorem zok_6_2 : ∀ i : Nat, i < 8 → zOK 6 (16 + i) (nI ((7 * (16 + i) + 6) % 10)) wM0 = true := by decide +kernel
set_option maxRecDepth 1000000 in
theorem zok_6_3 : ∀ i : Nat, i < 8 → zOK 6 (24 + i) (nI ((7 * (24 + i) + 6) % 10)) wM0 = true := by decide +kernel
set_option maxRecDepth 1000000 in
theorem zok_6_4 : ∀ i : Nat, i < 8 → zOK 6 (32 + i) (nI ((7 * (32 + i) + 6) % 10)) wM0 = true := by decide +kernel
set_option maxRecDepth 1000000 in
theorem zok_6_5 : ∀ i : Nat, i < 8 → zOK 6 (40 + i) (nI ((7 * (40 + i) + 6) % 10)) wM0 = true := by decide +kernel
set_option maxRecDepth 1000000 in
theorem zok_6_6 : ∀ i : Nat, i < 8 → zOK 6 (48 + i) (nI ((7 * (48 + i) + 6) % 10)) wM0 = true := by decide +kernel
set_option maxRecDepth 1000000 in
theorem zok_6_7 : ∀ i : Nat, i < 8 → zOK 6 (56 + i) (nI ((7 * (56 + i) + 6) % 10)) wM0 = true := by decide +kernel
