/-! z: the weight 7; laid by wip/p67/gen/z0.py. -/
set_option maxRecDepth 1000000 in
theorem zok_7_0 : ∀ i : Nat, i < 8 → zOK 7 (0 + i) (nI ((7 * (0 + i) + 7) % 10)) wM0 = true := by decide +kernel
set_option maxRecDepth 1000000 in
theorem zok_7_1 : ∀ i : Nat, i < 8 → zOK 7 (8 + i) (nI ((7 * (8 + i) + 7) % 10)) wM0 = true := by decide +kernel
set_option maxRecDepth 1000000 in
theorem zok_7_2 : ∀ i : Nat, i < 8 → zOK 7 (16 + i) (nI ((7 * (16 + i) + 7) % 10)) wM0 = true := by decide +kernel
set_option maxRecDepth 1000000 in
theorem zok_7_3 : ∀ i : Nat, i < 8 → zOK 7 (24 + i) (nI ((7 * (24 + i) + 7) % 10)) wM0 = true := by decide +kernel
set_option maxRecDepth 1000000 in
theorem zok_7_4 : ∀ i : Nat, i < 8 → zOK 7 (32 + i) (nI ((7 * (32 + i) + 7) % 10)) wM0 = true := by decide +kernel
set_option maxRecDepth 1000000 in
theorem zok_7_5 : ∀ i : Nat, i < 8 → zOK 7 (40 + i) (nI ((7 * (40 + i) + 7) % 10)) wM0 = true := by decide +kernel
set_option maxRecDepth 1000000 in
theorem zok_7_6 : ∀ i : Nat, i < 8 → zOK 7 (48 + i) (nI ((7 * (48 + i) + 7) % 10)) wM0 = true := by decide +kernel
set_option maxRecDepth 1000000 in
theorem zok_7_7 : ∀ i : Nat, i < 8 → zOK 7 (56 + i) (nI ((7 * (56 + i) + 7) % 10)) wM0 = true := by decide +kernel
