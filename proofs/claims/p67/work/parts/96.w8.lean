/-! The law's walk: z's text is built and typed; laid by wip/p67/gen/w2.py. -/
theorem pm_dyn {α : Type} {a b c : List α} {q v w r : α} : ((a ++ (b ++ (c ++ ([])))) ++ [q, v, w, r]).Perm (c ++ (w :: r :: (a ++ (b ++ [q, v])))) := by
  have e : (a ++ (b ++ (c ++ ([])))) ++ [q, v, w, r] = a ++ (b ++ (c ++ [q, v, w, r])) := by simp
  rw [e]
  refine pm3.trans (List.Perm.append_left c ?_)
  have e2 : a ++ (b ++ [q, v, w, r]) = (a ++ (b ++ [q, v])) ++ [w, r] := by simp
  rw [e2]
  exact List.perm_append_comm
theorem l_rcv {D : va_G} {tys : List (ClassId × FieldType)} {s : State} {A : Nat → Prop} {X t : va_W} {q ci : Nat} {fs : List Value} {H : Heap} {locs : List Loc} {z : vw_C} (hK : va_K D vwCl tys s) (hI : jI D s A (X ++ (q, .inr (ci, fs)) :: t) H locs) (hc : vwCl[ci]? = some z) : ∃ cell : Cell, H[q]? = some cell ∧ cell.vm.isStatics = false ∧ s.vm.findClass z.1 = some cell.cls :=
  va_recv hK hI.1 hc (q0 := X.length) (by rw [List.getElem?_append_right (Nat.le_refl _), Nat.sub_self]; rfl)
theorem seven_app {a b : List Int32} (ha : seven a) (hb : seven b) : seven (a ++ b) := fun x hx => (List.mem_append.mp hx).elim (ha x) (hb x)
theorem seven_of {a : List Int32} (h : a.all (fun b => decide (b.toNatClampNeg < 128 ∧ b = nI b.toNatClampNeg)) = true) : seven a := fun b hb => ⟨_, of_decide_eq_true (List.all_eq_true.mp h b hb)⟩
theorem zA_7 : seven zA := seven_of (by decide +kernel)
theorem zB_7 : seven zB := seven_of (by decide +kernel)
theorem zC_7 : seven zC := seven_of (by decide +kernel)
theorem zT_7 {w k : Nat} (hw : w < 100) (hk : k < 100) : seven (zT w k) := seven_app (seven_app (seven_app (seven_app (seven_app (seven_app (seven_app zA_7 (dig_seven hw)) zB_7) (dig_seven hk)) zC_7) (dig_seven hw)) zB_7) (dig_seven hk)
theorem sbH_0 : sbH [] 16 (fun _ => 0) := ⟨Nat.zero_le _, fun i hi => absurd hi (Nat.not_lt_zero _), fun i => ⟨0, by decide, rfl⟩⟩
section LT
variable {p : Program} {l : Launch} {e : Env} {s : State} {m : MethodId} {args : Array Value} {below : List Frame} {meth : Method} {c : Code} {H : Heap} {locs : List Loc} {Q : State → Prop} {D : va_G} {cid : Nat → ClassId} {J : jA} {Ex Ey Ez : gE} {adK adV : Nat → Nat} {ls : Array Slot} {r : Nat → Int32} {β b : Nat}
set_option maxRecDepth 100000 in
set_option maxHeartbeats 8000000 in
theorem law_t {Mx My Mz : gM} {w k : Nat} (hw : w ≤ 8) (hk : k < 64) (hst : l.stackTraces = false) (hC : lC p s m args c cL_law 10 RL D cid J) (hLd : ldcR adK s) (hEx : lE s D cid Ex) (hSx : Ex.2.2.2.2.2 = lss) (hKx : Ex.2.2.2.1 = adK) (hEy : lE s D cid Ey) (hEz : lE s D cid Ez) (hSz : Ez.2.2.2.2.2 = lss) (hKz : Ez.2.2.2.1 = adK) (hJs : J.2.2.2.2.2.2 = sJ adK adV) (hz : zR1 w k (nI ((7 * k + w) % 10)) Mz = true) (hI : jI D s (A0 s) (gwl Ex Mx () ++ (gwl Ey My () ++ (gwl Ez Mz () ++ ([])))) H locs) (hl : lv_has ls 10 [(9, .ref (Ez.2.1 132)), (8, .int (nI ((7 * k + w) % 10))), (7, .int (nI k)), (6, .int (nI w)), (4, .int (stV r)), (3, .int (r 7 + r 8 + r 9)), (1, .ref (Ex.2.1 132))])
    (kk : ∀ (Mz : gM), zR1b w k (nI ((7 * k + w) % 10)) Mz = true → ∀ (H : Heap) (locs : List Loc) (ls : Array Slot), jI D s (A0 s) (gwl Ex Mx () ++ (gwl Ey My () ++ (gwl Ez Mz () ++ ([])))) H locs → lv_has ls 10 [(9, .ref (Ez.2.1 132)), (8, .int (nI ((7 * k + w) % 10))), (7, .int (nI k)), (6, .int (nI w)), (4, .int (stV r)), (3, .int (r 7 + r 8 + r 9)), (1, .ref (Ex.2.1 132))] → W p l e room_1 s m args below meth c H locs 30000 190000 Q (F0 m 515 ls [])) :
    W p l e room_1 s m args below meth c H locs 27000 180000 Q (F0 m 457 ls []) := by
  have hx := hC.1.1.1
  have hb := hC.1.1.2.1
  have hown := hC.1.1.2.2.2.1
  have hts := hC.1.1.2.2.2.2.1
  unfold zR1 at hz
  obtain ⟨Z1, e1, hz⟩ := zp_i hz
  have hK := hC.1.1.2.2.2.2.2.1
  have lA : zA.length = 19 := rfl
  have lB : zB.length = 1 := rfl
  have lC : zC.length = 23 := rfl
  have dw : dLen w = 1 := if_pos (by omega)
  have dk : 1 ≤ dLen k ∧ dLen k ≤ 2 := by unfold dLen; split <;> omega
  obtain ⟨XX, hXX⟩ : ∃ XX, XX = (gwl Ex Mx () ++ (gwl Ey My () ++ (gwl Ez Mz () ++ ([])))) := ⟨_, rfl⟩
  rw [← hXX] at hI
  refine lv_aload hx hb dL_law_457 (lv_at hl 0 rfl) ?_
  refine va_new (ci := 1) (fs := [.null, .int 0, .int 0, .int 0]) hx hb hts uJ4' tyJ4 tyJ4_ok hown (hts _ w1372) (hts _ w1373) (hts _ w32) hK hI.1 hI.2.1 hI.2.2 (fun _ h => h) rfl (fun j hj => by revert j; decide) (Nat.le_of_ble_eq_true rfl) (Nat.le_of_ble_eq_true rfl) dL_law_459 (fun q H hP hD hS => ?_)
  have hI : jI D s (A0 s) (XX ++ [(q, .inr (1, [.null, .int 0, .int 0, .int 0]))]) H locs := ⟨hP, hD, hS⟩
  refine lv_dup hx hb dL_law_462 rfl ?_
  refine j_callI (rest := [.ref q, .ref (Ez.2.1 132)]) XX hC.1 hI (J_sbNew l D cid J) (fun _ h => absurd h List.not_mem_nil) Z_J4_init_da8c8 rfl ZI_J4_init_da8c8 w1374 ⟨rfl, rfl⟩ ⟨Nat.le_of_ble_eq_true rfl, Nat.le_of_ble_eq_true rfl⟩ rfl hl.1 rfl (Nat.le_of_ble_eq_true rfl) dL_law_463 ⟨Nat.le_of_ble_eq_true rfl, Nat.le_of_ble_eq_true rfl⟩ (fun rv u H locs hp hI hk1 => ?_)
  obtain rfl := hp
  replace hI : jI D s (A0 s) (XX ++ [(q, .inr (1, [.ref u, .int 0, .int 0, .int (nI ([] : List Int32).length)])), (u, .inl (cid 3, 16, .inl (fun _ => 0)))]) H locs := hI
  have n0 : ([] : List Int32).length = 0 := rfl
  have hT0 := sbH_0
  refine va_ldcS hx hb hown (hLd (250, "moor 1 7 2;stow 12 ", 14) (by decide +kernel)) dL_law_466 ?_
  refine j_callV (As := [.ref (adK (7 + 14))]) (rest := [.ref (Ez.2.1 132)]) XX hC.1 hI (J_appendS l D cid J (g := (adK (7 + 14), (adV (7 + 14), zA))) (cap := 16) (T := ([] : List Int32)) (by rw [hJs]; exact List.mem_map.mpr ⟨14, List.mem_range.mpr (by omega), rfl⟩) zA_7 (show ([] : List Int32).length + zA.length ≤ _ by rw [n0]; omega) (by omega) hT0) (fun _ h => absurd h List.not_mem_nil) Z_J4_append_15ec4 ZV_J4_append_15ec4 w1402 (l_rcv hK hI rfl) ⟨rfl, rfl⟩ ⟨Nat.le_of_ble_eq_true rfl, Nat.le_of_ble_eq_true rfl⟩ rfl hl.1 rfl (Nat.le_of_ble_eq_true rfl) dL_law_468 ⟨Nat.le_of_ble_eq_true rfl, Nat.le_of_ble_eq_true rfl⟩ (fun rv u H locs hp hI hk1 => ?_)
  obtain ⟨rfl, hT1⟩ := hp
  obtain ⟨v1, a1⟩ := u
  have h9 : jI D s (A0 s) (XX ++ [(q, .inr (1, [.ref v1, .int 0, .int 0, .int (nI (([] : List Int32).length + zA.length))])), (v1, .inl (cid 3, (sbC (([] : List Int32).length + zA.length) 16), .inl a1))]) H locs := hI
  have n1 : (([] : List Int32) ++ zA).length = 0 + zA.length := by rw [List.length_append, n0]
  have ec : sbC (([] : List Int32).length + zA.length) 16 = 34 := by rw [n0]; exact if_neg (by omega)
  rw [ec] at h9
  replace hT1 : sbH (([] : List Int32) ++ zA) 34 a1 := by have h8 := hT1; rw [show (v1, a1).2 = a1 from rfl] at h8; first | exact ec ▸ h8 | (rw [← ec]; exact h8)
  clear hI
  have hI : jI D s (A0 s) (XX ++ [(q, .inr (1, [.ref v1, .int 0, .int 0, .int (nI (([] : List Int32) ++ zA).length)])), (v1, .inl (cid 3, 34, .inl a1))]) H locs := by rw [show (([] : List Int32) ++ zA).length = ([] : List Int32).length + zA.length by rw [List.length_append]]; exact h9
  clear h9 ec
  refine lv_iload hx hb dL_law_471 (lv_at hl 3 rfl) ?_
  refine j_callV (As := [.int (nI w)]) (rest := [.ref (Ez.2.1 132)]) XX hC.1 hI (J_appendI l D cid J (x := w) (cap := 34) (T := (([] : List Int32) ++ zA)) (by omega) (show (([] : List Int32) ++ zA).length + dLen w ≤ _ by rw [n1]; omega) (by omega) hT1) (fun _ h => absurd h List.not_mem_nil) Z_J4_append_bf812 ZV_J4_append_bf812 w1488 (l_rcv hK hI rfl) ⟨rfl, rfl⟩ ⟨Nat.le_of_ble_eq_true rfl, Nat.le_of_ble_eq_true rfl⟩ rfl hl.1 rfl (Nat.le_of_ble_eq_true rfl) dL_law_473 ⟨Nat.le_of_ble_eq_true rfl, Nat.le_of_ble_eq_true rfl⟩ (fun rv u H locs hp hI hk1 => ?_)
  obtain ⟨rfl, hT2⟩ := hp
  obtain ⟨v2, a2⟩ := u
  have h9 : jI D s (A0 s) (XX ++ [(q, .inr (1, [.ref v2, .int 0, .int 0, .int (nI ((([] : List Int32) ++ zA).length + dLen w))])), (v2, .inl (cid 3, (sbC ((([] : List Int32) ++ zA).length + dLen w) 34), .inl a2))]) H locs := hI
  have n2 : ((([] : List Int32) ++ zA) ++ dig w).length = 0 + zA.length + dLen w := by rw [List.length_append, n1, dig_len]
  have ec : sbC ((([] : List Int32) ++ zA).length + dLen w) 34 = 34 := by rw [n1]; exact if_pos (by omega)
  rw [ec] at h9
  replace hT2 : sbH ((([] : List Int32) ++ zA) ++ dig w) 34 a2 := by have h8 := hT2; rw [show (v2, a2).2 = a2 from rfl] at h8; first | exact ec ▸ h8 | (rw [← ec]; exact h8)
  clear hI
  have hI : jI D s (A0 s) (XX ++ [(q, .inr (1, [.ref v2, .int 0, .int 0, .int (nI ((([] : List Int32) ++ zA) ++ dig w).length)])), (v2, .inl (cid 3, 34, .inl a2))]) H locs := by rw [show ((([] : List Int32) ++ zA) ++ dig w).length = (([] : List Int32) ++ zA).length + dLen w by rw [List.length_append, dig_len]]; exact h9
  clear h9 ec
  refine l_ldcwS hx hb hown (hLd (258, "/", 15) (by decide +kernel)) dL_law_476 ?_
  refine j_callV (As := [.ref (adK (7 + 15))]) (rest := [.ref (Ez.2.1 132)]) XX hC.1 hI (J_appendS l D cid J (g := (adK (7 + 15), (adV (7 + 15), zB))) (cap := 34) (T := ((([] : List Int32) ++ zA) ++ dig w)) (by rw [hJs]; exact List.mem_map.mpr ⟨15, List.mem_range.mpr (by omega), rfl⟩) zB_7 (show ((([] : List Int32) ++ zA) ++ dig w).length + zB.length ≤ _ by rw [n2]; omega) (by omega) hT2) (fun _ h => absurd h List.not_mem_nil) Z_J4_append_15ec4 ZV_J4_append_15ec4 w1402 (l_rcv hK hI rfl) ⟨rfl, rfl⟩ ⟨Nat.le_of_ble_eq_true rfl, Nat.le_of_ble_eq_true rfl⟩ rfl hl.1 rfl (Nat.le_of_ble_eq_true rfl) dL_law_479 ⟨Nat.le_of_ble_eq_true rfl, Nat.le_of_ble_eq_true rfl⟩ (fun rv u H locs hp hI hk1 => ?_)
  obtain ⟨rfl, hT3⟩ := hp
  obtain ⟨v3, a3⟩ := u
  have h9 : jI D s (A0 s) (XX ++ [(q, .inr (1, [.ref v3, .int 0, .int 0, .int (nI (((([] : List Int32) ++ zA) ++ dig w).length + zB.length))])), (v3, .inl (cid 3, (sbC (((([] : List Int32) ++ zA) ++ dig w).length + zB.length) 34), .inl a3))]) H locs := hI
  have n3 : (((([] : List Int32) ++ zA) ++ dig w) ++ zB).length = 0 + zA.length + dLen w + zB.length := by rw [List.length_append, n2]
  have ec : sbC (((([] : List Int32) ++ zA) ++ dig w).length + zB.length) 34 = 34 := by rw [n2]; exact if_pos (by omega)
  rw [ec] at h9
  replace hT3 : sbH (((([] : List Int32) ++ zA) ++ dig w) ++ zB) 34 a3 := by have h8 := hT3; rw [show (v3, a3).2 = a3 from rfl] at h8; first | exact ec ▸ h8 | (rw [← ec]; exact h8)
  clear hI
  have hI : jI D s (A0 s) (XX ++ [(q, .inr (1, [.ref v3, .int 0, .int 0, .int (nI (((([] : List Int32) ++ zA) ++ dig w) ++ zB).length)])), (v3, .inl (cid 3, 34, .inl a3))]) H locs := by rw [show (((([] : List Int32) ++ zA) ++ dig w) ++ zB).length = ((([] : List Int32) ++ zA) ++ dig w).length + zB.length by rw [List.length_append]]; exact h9
  clear h9 ec
  refine lv_iload hx hb dL_law_482 (lv_at hl 2 rfl) ?_
  refine j_callV (As := [.int (nI k)]) (rest := [.ref (Ez.2.1 132)]) XX hC.1 hI (J_appendI l D cid J (x := k) (cap := 34) (T := (((([] : List Int32) ++ zA) ++ dig w) ++ zB)) (by omega) (show (((([] : List Int32) ++ zA) ++ dig w) ++ zB).length + dLen k ≤ _ by rw [n3]; omega) (by omega) hT3) (fun _ h => absurd h List.not_mem_nil) Z_J4_append_bf812 ZV_J4_append_bf812 w1488 (l_rcv hK hI rfl) ⟨rfl, rfl⟩ ⟨Nat.le_of_ble_eq_true rfl, Nat.le_of_ble_eq_true rfl⟩ rfl hl.1 rfl (Nat.le_of_ble_eq_true rfl) dL_law_484 ⟨Nat.le_of_ble_eq_true rfl, Nat.le_of_ble_eq_true rfl⟩ (fun rv u H locs hp hI hk1 => ?_)
  obtain ⟨rfl, hT4⟩ := hp
  obtain ⟨v4, a4⟩ := u
  have h9 : jI D s (A0 s) (XX ++ [(q, .inr (1, [.ref v4, .int 0, .int 0, .int (nI ((((([] : List Int32) ++ zA) ++ dig w) ++ zB).length + dLen k))])), (v4, .inl (cid 3, (sbC ((((([] : List Int32) ++ zA) ++ dig w) ++ zB).length + dLen k) 34), .inl a4))]) H locs := hI
  have n4 : ((((([] : List Int32) ++ zA) ++ dig w) ++ zB) ++ dig k).length = 0 + zA.length + dLen w + zB.length + dLen k := by rw [List.length_append, n3, dig_len]
  have ec : sbC ((((([] : List Int32) ++ zA) ++ dig w) ++ zB).length + dLen k) 34 = 34 := by rw [n3]; exact if_pos (by omega)
  rw [ec] at h9
  replace hT4 : sbH ((((([] : List Int32) ++ zA) ++ dig w) ++ zB) ++ dig k) 34 a4 := by have h8 := hT4; rw [show (v4, a4).2 = a4 from rfl] at h8; first | exact ec ▸ h8 | (rw [← ec]; exact h8)
  clear hI
  have hI : jI D s (A0 s) (XX ++ [(q, .inr (1, [.ref v4, .int 0, .int 0, .int (nI ((((([] : List Int32) ++ zA) ++ dig w) ++ zB) ++ dig k).length)])), (v4, .inl (cid 3, 34, .inl a4))]) H locs := by rw [show ((((([] : List Int32) ++ zA) ++ dig w) ++ zB) ++ dig k).length = (((([] : List Int32) ++ zA) ++ dig w) ++ zB).length + dLen k by rw [List.length_append, dig_len]]; exact h9
  clear h9 ec
  refine l_ldcwS hx hb hown (hLd (260, ";stow 12 20/50;stow 10 ", 16) (by decide +kernel)) dL_law_487 ?_
  refine j_callV (As := [.ref (adK (7 + 16))]) (rest := [.ref (Ez.2.1 132)]) XX hC.1 hI (J_appendS l D cid J (g := (adK (7 + 16), (adV (7 + 16), zC))) (cap := 34) (T := ((((([] : List Int32) ++ zA) ++ dig w) ++ zB) ++ dig k)) (by rw [hJs]; exact List.mem_map.mpr ⟨16, List.mem_range.mpr (by omega), rfl⟩) zC_7 (show ((((([] : List Int32) ++ zA) ++ dig w) ++ zB) ++ dig k).length + zC.length ≤ _ by rw [n4]; omega) (by omega) hT4) (fun _ h => absurd h List.not_mem_nil) Z_J4_append_15ec4 ZV_J4_append_15ec4 w1402 (l_rcv hK hI rfl) ⟨rfl, rfl⟩ ⟨Nat.le_of_ble_eq_true rfl, Nat.le_of_ble_eq_true rfl⟩ rfl hl.1 rfl (Nat.le_of_ble_eq_true rfl) dL_law_490 ⟨Nat.le_of_ble_eq_true rfl, Nat.le_of_ble_eq_true rfl⟩ (fun rv u H locs hp hI hk1 => ?_)
  obtain ⟨rfl, hT5⟩ := hp
  obtain ⟨v5, a5⟩ := u
  have h9 : jI D s (A0 s) (XX ++ [(q, .inr (1, [.ref v5, .int 0, .int 0, .int (nI (((((([] : List Int32) ++ zA) ++ dig w) ++ zB) ++ dig k).length + zC.length))])), (v5, .inl (cid 3, (sbC (((((([] : List Int32) ++ zA) ++ dig w) ++ zB) ++ dig k).length + zC.length) 34), .inl a5))]) H locs := hI
  have n5 : (((((([] : List Int32) ++ zA) ++ dig w) ++ zB) ++ dig k) ++ zC).length = 0 + zA.length + dLen w + zB.length + dLen k + zC.length := by rw [List.length_append, n4]
  have ec : sbC (((((([] : List Int32) ++ zA) ++ dig w) ++ zB) ++ dig k).length + zC.length) 34 = 70 := by rw [n4]; exact if_neg (by omega)
  rw [ec] at h9
  replace hT5 : sbH (((((([] : List Int32) ++ zA) ++ dig w) ++ zB) ++ dig k) ++ zC) 70 a5 := by have h8 := hT5; rw [show (v5, a5).2 = a5 from rfl] at h8; first | exact ec ▸ h8 | (rw [← ec]; exact h8)
  clear hI
  have hI : jI D s (A0 s) (XX ++ [(q, .inr (1, [.ref v5, .int 0, .int 0, .int (nI (((((([] : List Int32) ++ zA) ++ dig w) ++ zB) ++ dig k) ++ zC).length)])), (v5, .inl (cid 3, 70, .inl a5))]) H locs := by rw [show (((((([] : List Int32) ++ zA) ++ dig w) ++ zB) ++ dig k) ++ zC).length = ((((([] : List Int32) ++ zA) ++ dig w) ++ zB) ++ dig k).length + zC.length by rw [List.length_append]]; exact h9
  clear h9 ec
  refine lv_iload hx hb dL_law_493 (lv_at hl 3 rfl) ?_
  refine j_callV (As := [.int (nI w)]) (rest := [.ref (Ez.2.1 132)]) XX hC.1 hI (J_appendI l D cid J (x := w) (cap := 70) (T := (((((([] : List Int32) ++ zA) ++ dig w) ++ zB) ++ dig k) ++ zC)) (by omega) (show (((((([] : List Int32) ++ zA) ++ dig w) ++ zB) ++ dig k) ++ zC).length + dLen w ≤ _ by rw [n5]; omega) (by omega) hT5) (fun _ h => absurd h List.not_mem_nil) Z_J4_append_bf812 ZV_J4_append_bf812 w1488 (l_rcv hK hI rfl) ⟨rfl, rfl⟩ ⟨Nat.le_of_ble_eq_true rfl, Nat.le_of_ble_eq_true rfl⟩ rfl hl.1 rfl (Nat.le_of_ble_eq_true rfl) dL_law_495 ⟨Nat.le_of_ble_eq_true rfl, Nat.le_of_ble_eq_true rfl⟩ (fun rv u H locs hp hI hk1 => ?_)
  obtain ⟨rfl, hT6⟩ := hp
  obtain ⟨v6, a6⟩ := u
  have h9 : jI D s (A0 s) (XX ++ [(q, .inr (1, [.ref v6, .int 0, .int 0, .int (nI ((((((([] : List Int32) ++ zA) ++ dig w) ++ zB) ++ dig k) ++ zC).length + dLen w))])), (v6, .inl (cid 3, (sbC ((((((([] : List Int32) ++ zA) ++ dig w) ++ zB) ++ dig k) ++ zC).length + dLen w) 70), .inl a6))]) H locs := hI
  have n6 : ((((((([] : List Int32) ++ zA) ++ dig w) ++ zB) ++ dig k) ++ zC) ++ dig w).length = 0 + zA.length + dLen w + zB.length + dLen k + zC.length + dLen w := by rw [List.length_append, n5, dig_len]
  have ec : sbC ((((((([] : List Int32) ++ zA) ++ dig w) ++ zB) ++ dig k) ++ zC).length + dLen w) 70 = 70 := by rw [n5]; exact if_pos (by omega)
  rw [ec] at h9
  replace hT6 : sbH ((((((([] : List Int32) ++ zA) ++ dig w) ++ zB) ++ dig k) ++ zC) ++ dig w) 70 a6 := by have h8 := hT6; rw [show (v6, a6).2 = a6 from rfl] at h8; first | exact ec ▸ h8 | (rw [← ec]; exact h8)
  clear hI
  have hI : jI D s (A0 s) (XX ++ [(q, .inr (1, [.ref v6, .int 0, .int 0, .int (nI ((((((([] : List Int32) ++ zA) ++ dig w) ++ zB) ++ dig k) ++ zC) ++ dig w).length)])), (v6, .inl (cid 3, 70, .inl a6))]) H locs := by rw [show ((((((([] : List Int32) ++ zA) ++ dig w) ++ zB) ++ dig k) ++ zC) ++ dig w).length = (((((([] : List Int32) ++ zA) ++ dig w) ++ zB) ++ dig k) ++ zC).length + dLen w by rw [List.length_append, dig_len]]; exact h9
  clear h9 ec
  refine l_ldcwS hx hb hown (hLd (258, "/", 15) (by decide +kernel)) dL_law_498 ?_
  refine j_callV (As := [.ref (adK (7 + 15))]) (rest := [.ref (Ez.2.1 132)]) XX hC.1 hI (J_appendS l D cid J (g := (adK (7 + 15), (adV (7 + 15), zB))) (cap := 70) (T := ((((((([] : List Int32) ++ zA) ++ dig w) ++ zB) ++ dig k) ++ zC) ++ dig w)) (by rw [hJs]; exact List.mem_map.mpr ⟨15, List.mem_range.mpr (by omega), rfl⟩) zB_7 (show ((((((([] : List Int32) ++ zA) ++ dig w) ++ zB) ++ dig k) ++ zC) ++ dig w).length + zB.length ≤ _ by rw [n6]; omega) (by omega) hT6) (fun _ h => absurd h List.not_mem_nil) Z_J4_append_15ec4 ZV_J4_append_15ec4 w1402 (l_rcv hK hI rfl) ⟨rfl, rfl⟩ ⟨Nat.le_of_ble_eq_true rfl, Nat.le_of_ble_eq_true rfl⟩ rfl hl.1 rfl (Nat.le_of_ble_eq_true rfl) dL_law_501 ⟨Nat.le_of_ble_eq_true rfl, Nat.le_of_ble_eq_true rfl⟩ (fun rv u H locs hp hI hk1 => ?_)
  obtain ⟨rfl, hT7⟩ := hp
  obtain ⟨v7, a7⟩ := u
  have h9 : jI D s (A0 s) (XX ++ [(q, .inr (1, [.ref v7, .int 0, .int 0, .int (nI (((((((([] : List Int32) ++ zA) ++ dig w) ++ zB) ++ dig k) ++ zC) ++ dig w).length + zB.length))])), (v7, .inl (cid 3, (sbC (((((((([] : List Int32) ++ zA) ++ dig w) ++ zB) ++ dig k) ++ zC) ++ dig w).length + zB.length) 70), .inl a7))]) H locs := hI
  have n7 : (((((((([] : List Int32) ++ zA) ++ dig w) ++ zB) ++ dig k) ++ zC) ++ dig w) ++ zB).length = 0 + zA.length + dLen w + zB.length + dLen k + zC.length + dLen w + zB.length := by rw [List.length_append, n6]
  have ec : sbC (((((((([] : List Int32) ++ zA) ++ dig w) ++ zB) ++ dig k) ++ zC) ++ dig w).length + zB.length) 70 = 70 := by rw [n6]; exact if_pos (by omega)
  rw [ec] at h9
  replace hT7 : sbH (((((((([] : List Int32) ++ zA) ++ dig w) ++ zB) ++ dig k) ++ zC) ++ dig w) ++ zB) 70 a7 := by have h8 := hT7; rw [show (v7, a7).2 = a7 from rfl] at h8; first | exact ec ▸ h8 | (rw [← ec]; exact h8)
  clear hI
  have hI : jI D s (A0 s) (XX ++ [(q, .inr (1, [.ref v7, .int 0, .int 0, .int (nI (((((((([] : List Int32) ++ zA) ++ dig w) ++ zB) ++ dig k) ++ zC) ++ dig w) ++ zB).length)])), (v7, .inl (cid 3, 70, .inl a7))]) H locs := by rw [show (((((((([] : List Int32) ++ zA) ++ dig w) ++ zB) ++ dig k) ++ zC) ++ dig w) ++ zB).length = ((((((([] : List Int32) ++ zA) ++ dig w) ++ zB) ++ dig k) ++ zC) ++ dig w).length + zB.length by rw [List.length_append]]; exact h9
  clear h9 ec
  refine lv_iload hx hb dL_law_504 (lv_at hl 2 rfl) ?_
  refine j_callV (As := [.int (nI k)]) (rest := [.ref (Ez.2.1 132)]) XX hC.1 hI (J_appendI l D cid J (x := k) (cap := 70) (T := (((((((([] : List Int32) ++ zA) ++ dig w) ++ zB) ++ dig k) ++ zC) ++ dig w) ++ zB)) (by omega) (show (((((((([] : List Int32) ++ zA) ++ dig w) ++ zB) ++ dig k) ++ zC) ++ dig w) ++ zB).length + dLen k ≤ _ by rw [n7]; omega) (by omega) hT7) (fun _ h => absurd h List.not_mem_nil) Z_J4_append_bf812 ZV_J4_append_bf812 w1488 (l_rcv hK hI rfl) ⟨rfl, rfl⟩ ⟨Nat.le_of_ble_eq_true rfl, Nat.le_of_ble_eq_true rfl⟩ rfl hl.1 rfl (Nat.le_of_ble_eq_true rfl) dL_law_506 ⟨Nat.le_of_ble_eq_true rfl, Nat.le_of_ble_eq_true rfl⟩ (fun rv u H locs hp hI hk1 => ?_)
  obtain ⟨rfl, hT8⟩ := hp
  obtain ⟨v8, a8⟩ := u
  have h9 : jI D s (A0 s) (XX ++ [(q, .inr (1, [.ref v8, .int 0, .int 0, .int (nI ((((((((([] : List Int32) ++ zA) ++ dig w) ++ zB) ++ dig k) ++ zC) ++ dig w) ++ zB).length + dLen k))])), (v8, .inl (cid 3, (sbC ((((((((([] : List Int32) ++ zA) ++ dig w) ++ zB) ++ dig k) ++ zC) ++ dig w) ++ zB).length + dLen k) 70), .inl a8))]) H locs := hI
  have n8 : ((((((((([] : List Int32) ++ zA) ++ dig w) ++ zB) ++ dig k) ++ zC) ++ dig w) ++ zB) ++ dig k).length = 0 + zA.length + dLen w + zB.length + dLen k + zC.length + dLen w + zB.length + dLen k := by rw [List.length_append, n7, dig_len]
  have ec : sbC ((((((((([] : List Int32) ++ zA) ++ dig w) ++ zB) ++ dig k) ++ zC) ++ dig w) ++ zB).length + dLen k) 70 = 70 := by rw [n7]; exact if_pos (by omega)
  rw [ec] at h9
  replace hT8 : sbH ((((((((([] : List Int32) ++ zA) ++ dig w) ++ zB) ++ dig k) ++ zC) ++ dig w) ++ zB) ++ dig k) 70 a8 := by have h8 := hT8; rw [show (v8, a8).2 = a8 from rfl] at h8; first | exact ec ▸ h8 | (rw [← ec]; exact h8)
  clear hI
  have hI : jI D s (A0 s) (XX ++ [(q, .inr (1, [.ref v8, .int 0, .int 0, .int (nI ((((((((([] : List Int32) ++ zA) ++ dig w) ++ zB) ++ dig k) ++ zC) ++ dig w) ++ zB) ++ dig k).length)])), (v8, .inl (cid 3, 70, .inl a8))]) H locs := by rw [show ((((((((([] : List Int32) ++ zA) ++ dig w) ++ zB) ++ dig k) ++ zC) ++ dig w) ++ zB) ++ dig k).length = (((((((([] : List Int32) ++ zA) ++ dig w) ++ zB) ++ dig k) ++ zC) ++ dig w) ++ zB).length + dLen k by rw [List.length_append, dig_len]]; exact h9
  clear h9 ec
  refine j_callV (As := []) (rest := [.ref (Ez.2.1 132)]) XX hC.1 hI (J_toString l D cid J (n := ((((((((([] : List Int32) ++ zA) ++ dig w) ++ zB) ++ dig k) ++ zC) ++ dig w) ++ zB) ++ dig k).length) (cap := 70) (T := ((((((((([] : List Int32) ++ zA) ++ dig w) ++ zB) ++ dig k) ++ zC) ++ dig w) ++ zB) ++ dig k)) (by rw [n8]; omega) (by omega) hT8) (fun _ h => absurd h List.not_mem_nil) Z_J4_toString_0e30d ZV_J4_toString_0e30d w1513 (l_rcv hK hI rfl) ⟨rfl, rfl⟩ ⟨Nat.le_of_ble_eq_true rfl, Nat.le_of_ble_eq_true rfl⟩ rfl hl.1 rfl (Nat.le_of_ble_eq_true rfl) dL_law_509 ⟨Nat.le_of_ble_eq_true rfl, Nat.le_of_ble_eq_true rfl⟩ (fun rv u H locs hp hI hk1 => ?_)
  obtain rfl := hp
  obtain ⟨ws, wr⟩ := u
  replace hI : jI D s (A0 s) (XX ++ [(q, .inr (1, [.ref v8, .int 0, .int 0, .int (nI ((((((((([] : List Int32) ++ zA) ++ dig w) ++ zB) ++ dig k) ++ zC) ++ dig w) ++ zB) ++ dig k).length)])), (v8, .inl (cid 3, 70, .inl a8)), (ws, .inr (0, [.ref wr, .int 0, .int 0, .int 0])), (wr, .inl (cid 3, ((((((((([] : List Int32) ++ zA) ++ dig w) ++ zB) ++ dig k) ++ zC) ++ dig w) ++ zB) ++ dig k).length, .inl (va_cpy a8 (fun _ => 0) 0 0 ((((((((([] : List Int32) ++ zA) ++ dig w) ++ zB) ++ dig k) ++ zC) ++ dig w) ++ zB) ++ dig k).length)))]) H locs := hI
  rw [hXX] at hI
  have eT : ((((((((([] : List Int32) ++ zA) ++ dig w) ++ zB) ++ dig k) ++ zC) ++ dig w) ++ zB) ++ dig k) = zT w k := rfl
  have n9 : (zT w k).length ≤ 60 := by rw [← eT, n8]; omega
  refine l_putDyn (bs := zT w k) (w := ws) (v := wr) (n := ((((((((([] : List Int32) ++ zA) ++ dig w) ++ zB) ++ dig k) ++ zC) ++ dig w) ++ zB) ++ dig k).length) (f := (va_cpy a8 (fun _ => 0) 0 0 ((((((((([] : List Int32) ++ zA) ++ dig w) ++ zB) ++ dig k) ++ zC) ++ dig w) ++ zB) ++ dig k).length)) (X' := (gwl Ex Mx () ++ (gwl Ey My () ++ (gwl Ez Z1 () ++ ([])))) ++ [(q, .inr (1, [.ref v8, .int 0, .int 0, .int (nI ((((((((([] : List Int32) ++ zA) ++ dig w) ++ zB) ++ dig k) ++ zC) ++ dig w) ++ zB) ++ dig k).length)])), (v8, .inl (cid 3, 70, .inl a8)), (ws, .inr (0, [.ref wr, .int 0, .int 0, .int 0])), (wr, .inl (cid 3, ((((((((([] : List Int32) ++ zA) ++ dig w) ++ zB) ++ dig k) ++ zC) ++ dig w) ++ zB) ++ dig k).length, .inl (va_cpy a8 (fun _ => 0) 0 0 ((((((((([] : List Int32) ++ zA) ++ dig w) ++ zB) ++ dig k) ++ zC) ++ dig w) ++ zB) ++ dig k).length)))]) hst hC hEz hI pm_dyn (by rw [eT]) (fun j hj => ?_) (zT_7 (by omega) (by omega)) n9 e1 pm_dyn.symm w1078 ⟨Nat.le_of_ble_eq_true rfl, Nat.le_of_ble_eq_true rfl⟩ hl.1 (Nat.le_of_ble_eq_true rfl) dL_law_512 ⟨Nat.le_of_ble_eq_true rfl, Nat.le_of_ble_eq_true rfl⟩ (fun H locs hI => ?_)
  · rw [cpy_in hj, hT8.2.1 j hj]
    rfl
  replace hI : jI D s (A0 s) (gwl Ex Mx () ++ (gwl Ey My () ++ (gwl Ez Z1 () ++ ([])))) H locs := jI_left hI
  refine W.widen (show _ ≤ 30000 by exact Nat.le_of_ble_eq_true rfl) (show _ ≤ 190000 by exact Nat.le_of_ble_eq_true rfl) ?_
  exact kk Z1 (show zR1b w k (nI ((7 * k + w) % 10)) Z1 = true from hz) H locs ls hI hl
end LT
