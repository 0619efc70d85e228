/-! Before the first call. -/
theorem gInv_0 {M : gM} (h : ∀ a k, ¬ (a = 132 ∧ (k = 8 ∨ k = 9)) → ¬ (a = 150 ∧ (k = 9 ∨ k = 10)) → M a k = nI 0) (h1 : M 132 8 = -nI 1) (h2 : M 132 9 = -nI 1) (h3 : M 150 9 = -nI 1) (h4 : M 150 10 = -nI 1) : gInv 0 M := by
  have z : ∀ k, M 151 k = nI 0 := fun k => h 151 k (by omega) (by omega)
  have hN0 : ∀ p, hN (M 151) p = 0 := fun p => by unfold hN; rw [z]; rfl
  have yN0 : yN (M 151) = 0 := by unfold yN; rw [z]; rfl
  have nx0 : nxN (M 151) = 0 := by unfold nxN; rw [z]; rfl
  have sh0 : tShip (M 151) = [] := by
    unfold tShip
    have : (List.range 60).filter (fullB (M 151)) = [] := List.filter_eq_nil_iff.mpr (fun c _ => by
      unfold fullB
      rw [hN0]
      simp)
    rw [this]
    rfl
  have al0 : tAll (M 151) = [] := by
    unfold tAll tYard
    rw [sh0, yN0]
    rfl
  have w : gRow 0 (M 151) := by
    refine ⟨⟨0, z 0, by omega⟩, ⟨by rw [nx0]; exact z 1, by omega⟩, fun p hp => ⟨by rw [hN0]; exact z _, by rw [hN0]; omega⟩, ⟨by rw [yN0]; exact z 6, by omega⟩, fun b hb => Or.inl (z _), fun b hb => ⟨0, 0, z _, by omega, z _, by omega⟩, fun t ht => ?_, 0, z 4, ?_⟩
    · rw [al0] at ht
      cases ht
    · rw [nx0, al0]
      rfl
  have c : ∀ a k, a < 132 → M a k = nI 0 := fun a k ha => h a k (by omega) (by omega)
  have g : gSim M 0 (M 151) := by
    refine ⟨⟨by rw [c _ _ (by omega), z], by rw [c _ _ (by omega), z], by rw [c _ _ (by omega), z], by rw [c _ _ (by omega), z], by rw [c _ _ (by omega), z], by rw [c _ _ (by omega), z]⟩, fun b hb => Or.inl ⟨z _, c _ _ (by omega)⟩, fun b hb => ⟨by rw [c _ _ (by omega), z], by rw [c _ _ (by omega), z]⟩, 0, c _ _ (by omega), by omega, ?_, ?_⟩
    · rw [al0]
      exact List.Perm.refl _
    · exact List.Pairwise.nil
  refine ⟨0, Nat.le_refl _, ⟨g, w, Or.inl ⟨h 132 3 (by omega) (by omega), h 150 6 (by omega) (by omega)⟩, 0, 0, by omega, by omega, h 133 2 (by omega) (by omega), h 150 4 (by omega) (by omega), h 133 1 (by omega) (by omega), fun i hi => absurd hi (Nat.not_lt_zero _)⟩, h 146 1 (by omega) (by omega), h 150 8 (by omega) (by omega), by omega, fun i hi => absurd hi (Nat.not_lt_zero _), ⟨by rw [h1, h3], Or.inl h1⟩, ⟨by rw [h2, h4], Or.inl h2⟩, 0, by omega, h 148 1 (by omega) (by omega), h 150 12 (by omega) (by omega), fun i hi => absurd hi (Nat.not_lt_zero _)⟩
