/-! The law's walk: z is made; laid by wip/p67/gen/w2.py. -/
theorem rem10 : ∀ k : Nat, k < 64 → ∀ w : Nat, w < 9 → nI ((7 * k + w) % 10) = 7 * nI k + nI w - (7 * nI k + nI w) / 10 * 10 := by decide +kernel
section LN
variable {p : Program} {l : Launch} {e : Env} {s : State} {m : MethodId} {args : Array Value} {below : List Frame} {meth : Method} {c : Code} {H : Heap} {locs : List Loc} {Q : State → Prop} {D : va_G} {cid : Nat → ClassId} {J : jA} {Ex Ey Ez : gE} {adK adV : Nat → Nat} {ls : Array Slot} {r : Nat → Int32} {β b : Nat}
set_option maxRecDepth 100000 in
set_option maxHeartbeats 8000000 in
theorem law_n {Mx My : gM} {L : Nat} {xs : Nat → Int32} (hst : l.stackTraces = false) (hC : lC p s m args c cL_law 10 RL D cid J) (hLd : ldcR adK s) (hEx : lE s D cid Ex) (hSx : Ex.2.2.2.2.2 = lss) (hKx : Ex.2.2.2.1 = adK) (hEy : lE s D cid Ey) (hwB : wB D cid adK adV lss (A0 s) s s.heap) (hX : va_X b L xs s s.heap) (hbl : b < s.heap.size) (hL : L < 2 ^ 31) (hI : jI D s (A0 s) (gwl Ex Mx () ++ (gwl Ey My () ++ ([]))) H locs) (hl : lv_has ls 10 [(4, .int (stV r)), (3, .int (r 7 + r 8 + r 9)), (2, .ref (Ey.2.1 132)), (1, .ref (Ex.2.1 132)), (0, .ref b)])
    (kk : ∀ (Ez : gE) (w k : Nat), 1 ≤ w → w ≤ 8 → k < 64 → lE s D cid Ez → Ez.2.2.2.2.2 = lss → Ez.2.2.2.1 = adK → ∀ (H : Heap) (locs : List Loc) (ls : Array Slot), jI D s (A0 s) (gwl Ex Mx () ++ (gwl Ey My () ++ (gwl Ez wM0 () ++ ([])))) H locs → lv_has ls 10 [(9, .ref (Ez.2.1 132)), (8, .int (nI ((7 * k + w) % 10))), (7, .int (nI k)), (6, .int (nI w)), (4, .int (stV r)), (3, .int (r 7 + r 8 + r 9)), (1, .ref (Ex.2.1 132))] → W p l e room_1 s m args below meth c H locs 26000 170000 Q (F0 m 356 ls [])) :
    W p l e room_1 s m args below meth c H locs 22000 150000 Q (F0 m 308 ls []) := by
  have hx := hC.1.1.1
  have hb := hC.1.1.2.1
  have hown := hC.1.1.2.2.2.1
  have hts := hC.1.1.2.2.2.2.1
  obtain ⟨c9, hc9⟩ : ∃ z, z = pAt L xs 13 := ⟨_, rfl⟩
  obtain ⟨mw, mw8, hmw⟩ := and7 c9
  obtain ⟨k, hk, hkk⟩ := and_mask (sr c9 3) (k := 6) (by omega)
  obtain ⟨w, hw⟩ : ∃ w, w = mw + 1 := ⟨_, rfl⟩
  have hw9 : w < 9 := by omega
  refine lv_aload_n hx hb dL_law_308 rfl (lv_at hl 4 rfl) ?_
  refine lv_bipush (v := 13) hx hb dL_law_309 (by decide) ?_
  refine g_top (v := nI 13) (by decide) ?_
  refine l_at (rest := []) hC hX hbl hL (show 13 < 2 ^ 31 by decide) hI w1075 ⟨Nat.le_of_ble_eq_true rfl, Nat.le_of_ble_eq_true rfl⟩ hl.1 (Nat.le_of_ble_eq_true rfl) dL_law_311 ⟨Nat.le_of_ble_eq_true rfl, Nat.le_of_ble_eq_true rfl⟩ (fun H locs hI => ?_)
  rw [← hc9]
  refine lv_istore (lv' := [(5, .int c9), (4, .int (stV r)), (3, .int (r 7 + r 8 + r 9)), (2, .ref (Ey.2.1 132)), (1, .ref (Ex.2.1 132)), (0, .ref b)]) hx hb dL_law_314 hl (by decide) rfl (fun ls hl => ?_)
  refine lv_iconst (v := 1) hx hb dL_law_316 (by decide) ?_
  refine lv_iload hx hb dL_law_317 (lv_at hl 0 rfl) ?_
  refine lv_bipush (v := 7) hx hb dL_law_319 (by decide) ?_
  refine lv_iand hx hb dL_law_321 ?_
  refine lv_iadd hx hb dL_law_322 ?_
  refine g_top (v := nI w) (by rw [show c9 &&& 7 = nI mw from hmw, show (1 : Int32) = nI 1 from rfl, nI_add, hw, Nat.add_comm]) ?_
  refine lv_istore (lv' := [(6, .int (nI w)), (5, .int c9), (4, .int (stV r)), (3, .int (r 7 + r 8 + r 9)), (2, .ref (Ey.2.1 132)), (1, .ref (Ex.2.1 132)), (0, .ref b)]) hx hb dL_law_323 hl (by decide) rfl (fun ls hl => ?_)
  refine lv_iload hx hb dL_law_325 (lv_at hl 1 rfl) ?_
  refine lv_iconst (v := 3) hx hb dL_law_327 (by decide) ?_
  refine lv_ishr hx hb dL_law_328 ?_
  refine lv_bipush (v := 63) hx hb dL_law_329 (by decide) ?_
  refine lv_iand hx hb dL_law_331 ?_
  refine g_top (v := nI k) (hkk.symm) ?_
  refine lv_istore (lv' := [(7, .int (nI k)), (6, .int (nI w)), (5, .int c9), (4, .int (stV r)), (3, .int (r 7 + r 8 + r 9)), (2, .ref (Ey.2.1 132)), (1, .ref (Ex.2.1 132)), (0, .ref b)]) hx hb dL_law_332 hl (by decide) rfl (fun ls hl => ?_)
  refine lv_bipush (v := 7) hx hb dL_law_334 (by decide) ?_
  refine lv_iload hx hb dL_law_336 (lv_at hl 0 rfl) ?_
  refine lv_imul hx hb dL_law_338 ?_
  refine lv_iload hx hb dL_law_339 (lv_at hl 1 rfl) ?_
  refine lv_iadd hx hb dL_law_341 ?_
  refine lv_bipush (v := 10) hx hb dL_law_342 (by decide) ?_
  refine lv_irem hx hb dL_law_344 (by decide) ?_
  refine g_top (v := nI ((7 * k + w) % 10)) (rem10 k (by omega) w hw9) ?_
  refine lv_istore (lv' := [(8, .int (nI ((7 * k + w) % 10))), (7, .int (nI k)), (6, .int (nI w)), (5, .int c9), (4, .int (stV r)), (3, .int (r 7 + r 8 + r 9)), (2, .ref (Ey.2.1 132)), (1, .ref (Ex.2.1 132)), (0, .ref b)]) hx hb dL_law_345 hl (by decide) rfl (fun ls hl => ?_)
  refine i_newW hC.1.1 ⟨hI.1, hI.2.1, hI.2.2⟩ (fun _ h => h) (I_X6 l D cid) rfl uX6 tyX6 tyX6_ok w34 w35 w1 (fun j hj => by revert j; decide) ⟨w38, w1, ⟨by decide, by decide⟩, by decide +kernel⟩ w37 rfl (Or.inr w36) ⟨rfl, rfl⟩ ⟨Nat.le_of_ble_eq_true rfl, Nat.le_of_ble_eq_true rfl⟩ hl.1 (Nat.le_of_ble_eq_true rfl) ⟨Nat.le_of_ble_eq_true rfl, Nat.le_of_ble_eq_true rfl⟩ dL_law_347 dL_law_350 dL_law_351 (fun q u H locs hp0 hI => ?_)
  obtain ⟨u1, u2, u3, u4, u5, u6, u7, h⟩ := u
  replace hp0 : h = q := hp0
  subst hp0
  obtain ⟨adz, a132, hEz0, hIz⟩ := l_asm (X := (gwl Ex Mx () ++ (gwl Ey My () ++ ([])))) (adK := adK) (adV := adV) (ss := lss) (u1 := u1) (u2 := u2) (u3 := u3) (u6 := u6) (u7 := u7) (u4 := u4) (u5 := u5) (h := h) hwB hI
  obtain ⟨Ez, hEz9⟩ : ∃ E, E = wE D cid adK adV lss adz := ⟨_, rfl⟩
  rw [← hEz9] at hEz0 hIz
  have hSz : Ez.2.2.2.2.2 = lss := by rw [hEz9]
  have hKz : Ez.2.2.2.1 = adK := by rw [hEz9]
  have e132 : h = Ez.2.1 132 := by rw [hEz9]; exact a132
  rw [e132]
  replace hI : jI D s (A0 s) (gwl Ex Mx () ++ (gwl Ey My () ++ (gwl Ez wM0 () ++ ([])))) H locs := jI_perm (List.Perm.of_eq (by simp)) hIz
  refine lv_astore (lv' := [(9, .ref (Ez.2.1 132)), (8, .int (nI ((7 * k + w) % 10))), (7, .int (nI k)), (6, .int (nI w)), (5, .int c9), (4, .int (stV r)), (3, .int (r 7 + r 8 + r 9)), (2, .ref (Ey.2.1 132)), (1, .ref (Ex.2.1 132)), (0, .ref b)]) hx hb dL_law_354 hl (by decide) rfl (fun ls hl => ?_)
  refine W.widen (show _ ≤ 26000 by exact Nat.le_of_ble_eq_true rfl) (show _ ≤ 170000 by exact Nat.le_of_ble_eq_true rfl) ?_
  refine kk Ez w k (by omega) (by omega) (by omega) hEz0 hSz hKz H locs ls hI (lv_sub hl [0, 1, 2, 3, 5, 6, 8] ?_)
  rfl
end LN
