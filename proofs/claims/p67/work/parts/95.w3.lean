/-! The law's walk over z; laid by wip/p67/gen/w1.py. -/
section LZ
variable {p : Program} {l : Launch} {e : Env} {s : State} {m : MethodId} {args : Array Value} {below : List Frame} {meth : Method} {c : Code} {H : Heap} {locs : List Loc} {Q : State → Prop} {D : va_G} {cid : Nat → ClassId} {J : jA} {Ex Ey Ez : gE} {adK adV : Nat → Nat} {ls : Array Slot} {r : Nat → Int32} {β b : Nat}
set_option maxRecDepth 100000 in
set_option maxHeartbeats 8000000 in
theorem law_z1 {Mx My Mz : gM} {w k : Nat} (hw : w ≤ 8) (hk : k < 64) (hst : l.stackTraces = false) (hC : lC p s m args c cL_law 10 RL D cid J) (hLd : ldcR adK s) (hEx : lE s D cid Ex) (hSx : Ex.2.2.2.2.2 = lss) (hKx : Ex.2.2.2.1 = adK) (hEy : lE s D cid Ey) (hEz : lE s D cid Ez) (hSz : Ez.2.2.2.2.2 = lss) (hKz : Ez.2.2.2.1 = adK) (hz : zR1b w k (nI ((7 * k + w) % 10)) Mz = true) (hI : jI D s (A0 s) (gwl Ex Mx () ++ (gwl Ey My () ++ (gwl Ez Mz () ++ ([])))) H locs) (hl : lv_has ls 10 [(9, .ref (Ez.2.1 132)), (8, .int (nI ((7 * k + w) % 10))), (7, .int (nI k)), (6, .int (nI w)), (4, .int (stV r)), (3, .int (r 7 + r 8 + r 9)), (1, .ref (Ex.2.1 132))])
    (kk : ∀ (Mz : gM), zR2 w k (nI ((7 * k + w) % 10)) Mz = true → ∀ (H : Heap) (locs : List Loc) (ls : Array Slot), jI D s (A0 s) (gwl Ex Mx () ++ (gwl Ey My () ++ (gwl Ez Mz () ++ ([])))) H locs → lv_has ls 10 [(9, .ref (Ez.2.1 132)), (8, .int (nI ((7 * k + w) % 10))), (7, .int (nI k)), (6, .int (nI w)), (4, .int (stV r)), (3, .int (r 7 + r 8 + r 9)), (1, .ref (Ex.2.1 132))] → W p l e room_1 s m args below meth c H locs 31000 200000 Q (F0 m 707 ls [])) :
    W p l e room_1 s m args below meth c H locs 30000 190000 Q (F0 m 515 ls []) := by
  have hx := hC.1.1.1
  have hb := hC.1.1.2.1
  have hown := hC.1.1.2.2.2.1
  have hts := hC.1.1.2.2.2.2.1
  unfold zR1b at hz
  refine lv_aload hx hb dL_law_515 (lv_at hl 0 rfl) ?_
  obtain ⟨Z0, e0, hz⟩ := zc_i hz
  refine l_callX (rest := []) (v0 := (.int 4)) (X' := (gwl Ex Mx () ++ (gwl Ey My () ++ (gwl Ez Z0 () ++ ([]))))) hC hEz hI pm3 pm3.symm (C_X6_run l hst Ez () e0) Y_X6_run V_X6_run w890 rfl ⟨rfl, rfl⟩ ⟨Nat.le_of_ble_eq_true rfl, Nat.le_of_ble_eq_true rfl⟩ rfl hl.1 rfl (Nat.le_of_ble_eq_true rfl) dL_law_517 ⟨Nat.le_of_ble_eq_true rfl, Nat.le_of_ble_eq_true rfl⟩ (fun H locs (hI : jI D s (A0 s) (gwl Ex Mx () ++ (gwl Ey My () ++ (gwl Ez Z0 () ++ ([])))) H locs) => ?_)
  refine lv_iconst (v := 4) hx hb dL_law_520 (by decide) ?_
  refine lv_icmp_ne (tgt := 705) hx hb dL_law_521 rfl (fun h => absurd rfl h) (fun _ => ?_)
  refine lv_aload hx hb dL_law_524 (lv_at hl 0 rfl) ?_
  refine lv_iconst (v := 1) hx hb dL_law_526 (by decide) ?_
  obtain ⟨Z1, e1, hz⟩ := zc_i hz
  refine l_callX (rest := []) (v0 := (.int 3)) (X' := (gwl Ex Mx () ++ (gwl Ey My () ++ (gwl Ez Z1 () ++ ([]))))) hC hEz hI pm3 pm3.symm (C_X6_containersOn l hst Ez () e1) Y_X6_containersOn V_X6_containersOn w641 rfl ⟨rfl, rfl⟩ ⟨Nat.le_of_ble_eq_true rfl, Nat.le_of_ble_eq_true rfl⟩ rfl hl.1 rfl (Nat.le_of_ble_eq_true rfl) dL_law_527 ⟨Nat.le_of_ble_eq_true rfl, Nat.le_of_ble_eq_true rfl⟩ (fun H locs (hI : jI D s (A0 s) (gwl Ex Mx () ++ (gwl Ey My () ++ (gwl Ez Z1 () ++ ([])))) H locs) => ?_)
  refine lv_iconst (v := 3) hx hb dL_law_530 (by decide) ?_
  refine lv_icmp_ne (tgt := 705) hx hb dL_law_531 rfl (fun h => absurd rfl h) (fun _ => ?_)
  refine lv_aload hx hb dL_law_534 (lv_at hl 0 rfl) ?_
  refine lv_iconst (v := 1) hx hb dL_law_536 (by decide) ?_
  refine lv_iconst (v := 2) hx hb dL_law_537 (by decide) ?_
  obtain ⟨Z2, e2, hz⟩ := zc_i hz
  refine l_callX (rest := []) (v0 := (.int 1)) (X' := (gwl Ex Mx () ++ (gwl Ey My () ++ (gwl Ez Z2 () ++ ([]))))) hC hEz hI pm3 pm3.symm (C_X6_topOf l hst Ez () e2) Y_X6_topOf V_X6_topOf w626 rfl ⟨rfl, rfl⟩ ⟨Nat.le_of_ble_eq_true rfl, Nat.le_of_ble_eq_true rfl⟩ rfl hl.1 rfl (Nat.le_of_ble_eq_true rfl) dL_law_538 ⟨Nat.le_of_ble_eq_true rfl, Nat.le_of_ble_eq_true rfl⟩ (fun H locs (hI : jI D s (A0 s) (gwl Ex Mx () ++ (gwl Ey My () ++ (gwl Ez Z2 () ++ ([])))) H locs) => ?_)
  refine lv_iconst (v := 1) hx hb dL_law_541 (by decide) ?_
  refine lv_icmp_ne (tgt := 705) hx hb dL_law_542 rfl (fun h => absurd rfl h) (fun _ => ?_)
  refine lv_aload hx hb dL_law_545 (lv_at hl 0 rfl) ?_
  refine lv_iconst (v := 0) hx hb dL_law_547 (by decide) ?_
  obtain ⟨Z3, e3, hz⟩ := zc_i hz
  refine l_callX (rest := []) (v0 := (.int (nI ((7 * k + w) % 10)))) (X' := (gwl Ex Mx () ++ (gwl Ey My () ++ (gwl Ez Z3 () ++ ([]))))) hC hEz hI pm3 pm3.symm (C_X6_answerOf l hst Ez () e3) Y_X6_answerOf V_X6_answerOf w671 rfl ⟨rfl, rfl⟩ ⟨Nat.le_of_ble_eq_true rfl, Nat.le_of_ble_eq_true rfl⟩ rfl hl.1 rfl (Nat.le_of_ble_eq_true rfl) dL_law_548 ⟨Nat.le_of_ble_eq_true rfl, Nat.le_of_ble_eq_true rfl⟩ (fun H locs (hI : jI D s (A0 s) (gwl Ex Mx () ++ (gwl Ey My () ++ (gwl Ez Z3 () ++ ([])))) H locs) => ?_)
  refine lv_iload hx hb dL_law_551 (lv_at hl 1 rfl) ?_
  refine lv_icmp_ne (tgt := 705) hx hb dL_law_553 rfl (fun h => absurd rfl h) (fun _ => ?_)
  refine lv_aload hx hb dL_law_556 (lv_at hl 0 rfl) ?_
  refine lv_iconst (v := 0) hx hb dL_law_558 (by decide) ?_
  obtain ⟨Z4, e4, hz⟩ := zc_i hz
  refine l_callX (rest := []) (v0 := (.int 1)) (X' := (gwl Ex Mx () ++ (gwl Ey My () ++ (gwl Ez Z4 () ++ ([]))))) hC hEz hI pm3 pm3.symm (C_X6_movesToReach l hst Ez () e4) Y_X6_movesToReach V_X6_movesToReach w677 rfl ⟨rfl, rfl⟩ ⟨Nat.le_of_ble_eq_true rfl, Nat.le_of_ble_eq_true rfl⟩ rfl hl.1 rfl (Nat.le_of_ble_eq_true rfl) dL_law_559 ⟨Nat.le_of_ble_eq_true rfl, Nat.le_of_ble_eq_true rfl⟩ (fun H locs (hI : jI D s (A0 s) (gwl Ex Mx () ++ (gwl Ey My () ++ (gwl Ez Z4 () ++ ([])))) H locs) => ?_)
  refine lv_iconst (v := 1) hx hb dL_law_562 (by decide) ?_
  refine lv_icmp_ne (tgt := 705) hx hb dL_law_563 rfl (fun h => absurd rfl h) (fun _ => ?_)
  refine lv_aload hx hb dL_law_566 (lv_at hl 0 rfl) ?_
  refine lv_iconst (v := 0) hx hb dL_law_568 (by decide) ?_
  obtain ⟨Z5, e5, hz⟩ := zc_i hz
  refine l_callX (rest := []) (v0 := (.int 1)) (X' := (gwl Ex Mx () ++ (gwl Ey My () ++ (gwl Ez Z5 () ++ ([]))))) hC hEz hI pm3 pm3.symm (C_X6_movesToReachByCopy l hst Ez () e5) Y_X6_movesToReachByCopy V_X6_movesToReachByCopy w689 rfl ⟨rfl, rfl⟩ ⟨Nat.le_of_ble_eq_true rfl, Nat.le_of_ble_eq_true rfl⟩ rfl hl.1 rfl (Nat.le_of_ble_eq_true rfl) dL_law_569 ⟨Nat.le_of_ble_eq_true rfl, Nat.le_of_ble_eq_true rfl⟩ (fun H locs (hI : jI D s (A0 s) (gwl Ex Mx () ++ (gwl Ey My () ++ (gwl Ez Z5 () ++ ([])))) H locs) => ?_)
  refine lv_iconst (v := 1) hx hb dL_law_572 (by decide) ?_
  refine lv_icmp_ne (tgt := 705) hx hb dL_law_573 rfl (fun h => absurd rfl h) (fun _ => ?_)
  refine lv_aload hx hb dL_law_576 (lv_at hl 0 rfl) ?_
  refine lv_iconst (v := 0) hx hb dL_law_578 (by decide) ?_
  obtain ⟨Z6, e6, hz⟩ := zc_i hz
  refine l_callX (rest := []) (v0 := (.int 1)) (X' := (gwl Ex Mx () ++ (gwl Ey My () ++ (gwl Ez Z6 () ++ ([]))))) hC hEz hI pm3 pm3.symm (C_X6_heaviestAbove l hst Ez () e6) Y_X6_heaviestAbove V_X6_heaviestAbove w702 rfl ⟨rfl, rfl⟩ ⟨Nat.le_of_ble_eq_true rfl, Nat.le_of_ble_eq_true rfl⟩ rfl hl.1 rfl (Nat.le_of_ble_eq_true rfl) dL_law_579 ⟨Nat.le_of_ble_eq_true rfl, Nat.le_of_ble_eq_true rfl⟩ (fun H locs (hI : jI D s (A0 s) (gwl Ex Mx () ++ (gwl Ey My () ++ (gwl Ez Z6 () ++ ([])))) H locs) => ?_)
  refine lv_iconst (v := 1) hx hb dL_law_582 (by decide) ?_
  refine lv_icmp_ne (tgt := 705) hx hb dL_law_583 rfl (fun h => absurd rfl h) (fun _ => ?_)
  refine lv_aload hx hb dL_law_586 (lv_at hl 0 rfl) ?_
  refine lv_iconst (v := 1) hx hb dL_law_588 (by decide) ?_
  refine lv_iconst (v := 2) hx hb dL_law_589 (by decide) ?_
  obtain ⟨Z7, e7, hz⟩ := zc_i hz
  refine l_callX (rest := []) (v0 := (.int 1)) (X' := (gwl Ex Mx () ++ (gwl Ey My () ++ (gwl Ez Z7 () ++ ([]))))) hC hEz hI pm3 pm3.symm (C_X6_heavyOverLight l hst Ez () e7) Y_X6_heavyOverLight V_X6_heavyOverLight w730 rfl ⟨rfl, rfl⟩ ⟨Nat.le_of_ble_eq_true rfl, Nat.le_of_ble_eq_true rfl⟩ rfl hl.1 rfl (Nat.le_of_ble_eq_true rfl) dL_law_590 ⟨Nat.le_of_ble_eq_true rfl, Nat.le_of_ble_eq_true rfl⟩ (fun H locs (hI : jI D s (A0 s) (gwl Ex Mx () ++ (gwl Ey My () ++ (gwl Ez Z7 () ++ ([])))) H locs) => ?_)
  refine lv_iconst (v := 1) hx hb dL_law_593 (by decide) ?_
  refine lv_icmp_ne (tgt := 705) hx hb dL_law_594 rfl (fun h => absurd rfl h) (fun _ => ?_)
  refine lv_aload hx hb dL_law_597 (lv_at hl 0 rfl) ?_
  replace hz := zass hz
  obtain ⟨e8, hz⟩ := zq_i hz
  refine l_call0 (rest := []) (v0 := (.int 1)) (X' := (gwl Ex Mx () ++ (gwl Ey My () ++ (gwl Ez Z7 () ++ ([]))))) hC hEz hI pm3 pm3.symm (C_X6_keyTwins l Ez () e8) Y_X6_keyTwins V_X6_keyTwins w750 rfl ⟨rfl, rfl⟩ ⟨Nat.le_of_ble_eq_true rfl, Nat.le_of_ble_eq_true rfl⟩ rfl hl.1 rfl (Nat.le_of_ble_eq_true rfl) dL_law_599 ⟨Nat.le_of_ble_eq_true rfl, Nat.le_of_ble_eq_true rfl⟩ (fun H locs (hI : jI D s (A0 s) (gwl Ex Mx () ++ (gwl Ey My () ++ (gwl Ez Z7 () ++ ([])))) H locs) => ?_)
  refine lv_iconst (v := 1) hx hb dL_law_602 (by decide) ?_
  refine lv_icmp_ne (tgt := 705) hx hb dL_law_603 rfl (fun h => absurd rfl h) (fun _ => ?_)
  refine lv_aload hx hb dL_law_606 (lv_at hl 0 rfl) ?_
  obtain ⟨e9, hz⟩ := zq_i hz
  refine l_call0 (rest := []) (v0 := (.int 1)) (X' := (gwl Ex Mx () ++ (gwl Ey My () ++ (gwl Ez Z7 () ++ ([]))))) hC hEz hI pm3 pm3.symm (C_X6_keyTwinsByGroups l Ez () e9) Y_X6_keyTwinsByGroups V_X6_keyTwinsByGroups w762 rfl ⟨rfl, rfl⟩ ⟨Nat.le_of_ble_eq_true rfl, Nat.le_of_ble_eq_true rfl⟩ rfl hl.1 rfl (Nat.le_of_ble_eq_true rfl) dL_law_608 ⟨Nat.le_of_ble_eq_true rfl, Nat.le_of_ble_eq_true rfl⟩ (fun H locs (hI : jI D s (A0 s) (gwl Ex Mx () ++ (gwl Ey My () ++ (gwl Ez Z7 () ++ ([])))) H locs) => ?_)
  refine lv_iconst (v := 1) hx hb dL_law_611 (by decide) ?_
  refine lv_icmp_ne (tgt := 705) hx hb dL_law_612 rfl (fun h => absurd rfl h) (fun _ => ?_)
  refine lv_aload hx hb dL_law_615 (lv_at hl 0 rfl) ?_
  refine lv_iconst (v := 1) hx hb dL_law_617 (by decide) ?_
  obtain ⟨Z10, e10, hz⟩ := zc_i hz
  refine l_callX (rest := []) (v0 := (.int (2 * nI w + 20))) (X' := (gwl Ex Mx () ++ (gwl Ey My () ++ (gwl Ez Z10 () ++ ([]))))) hC hEz hI pm3 pm3.symm (C_X6_weightOn l hst Ez () e10) Y_X6_weightOn V_X6_weightOn w646 rfl ⟨rfl, rfl⟩ ⟨Nat.le_of_ble_eq_true rfl, Nat.le_of_ble_eq_true rfl⟩ rfl hl.1 rfl (Nat.le_of_ble_eq_true rfl) dL_law_618 ⟨Nat.le_of_ble_eq_true rfl, Nat.le_of_ble_eq_true rfl⟩ (fun H locs (hI : jI D s (A0 s) (gwl Ex Mx () ++ (gwl Ey My () ++ (gwl Ez Z10 () ++ ([])))) H locs) => ?_)
  refine lv_iconst (v := 2) hx hb dL_law_621 (by decide) ?_
  refine lv_iload hx hb dL_law_622 (lv_at hl 3 rfl) ?_
  refine lv_imul hx hb dL_law_624 ?_
  refine lv_bipush (v := 20) hx hb dL_law_625 (by decide) ?_
  refine lv_iadd hx hb dL_law_627 ?_
  refine lv_icmp_ne (tgt := 705) hx hb dL_law_628 rfl (fun h => absurd rfl h) (fun _ => ?_)
  refine lv_aload hx hb dL_law_631 (lv_at hl 0 rfl) ?_
  refine lv_iconst (v := 1) hx hb dL_law_633 (by decide) ?_
  obtain ⟨Z11, e11, hz⟩ := zc_i hz
  refine l_callX (rest := []) (v0 := (.int (2 * nI w + 20))) (X' := (gwl Ex Mx () ++ (gwl Ey My () ++ (gwl Ez Z11 () ++ ([]))))) hC hEz hI pm3 pm3.symm (C_X6_weightOnByContainers l hst Ez () e11) Y_X6_weightOnByContainers V_X6_weightOnByContainers w654 rfl ⟨rfl, rfl⟩ ⟨Nat.le_of_ble_eq_true rfl, Nat.le_of_ble_eq_true rfl⟩ rfl hl.1 rfl (Nat.le_of_ble_eq_true rfl) dL_law_634 ⟨Nat.le_of_ble_eq_true rfl, Nat.le_of_ble_eq_true rfl⟩ (fun H locs (hI : jI D s (A0 s) (gwl Ex Mx () ++ (gwl Ey My () ++ (gwl Ez Z11 () ++ ([])))) H locs) => ?_)
  refine lv_iconst (v := 2) hx hb dL_law_637 (by decide) ?_
  refine lv_iload hx hb dL_law_638 (lv_at hl 3 rfl) ?_
  refine lv_imul hx hb dL_law_640 ?_
  refine lv_bipush (v := 20) hx hb dL_law_641 (by decide) ?_
  refine lv_iadd hx hb dL_law_643 ?_
  refine lv_icmp_ne (tgt := 705) hx hb dL_law_644 rfl (fun h => absurd rfl h) (fun _ => ?_)
  refine lv_aload hx hb dL_law_647 (lv_at hl 0 rfl) ?_
  refine lv_iconst (v := 0) hx hb dL_law_649 (by decide) ?_
  obtain ⟨Z12, e12, hz⟩ := zc_i hz
  refine l_callX (rest := []) (v0 := (.int 1)) (X' := (gwl Ex Mx () ++ (gwl Ey My () ++ (gwl Ez Z12 () ++ ([]))))) hC hEz hI pm3 pm3.symm (C_X6_containerByWeight l hst Ez () e12) Y_X6_containerByWeight V_X6_containerByWeight w710 rfl ⟨rfl, rfl⟩ ⟨Nat.le_of_ble_eq_true rfl, Nat.le_of_ble_eq_true rfl⟩ rfl hl.1 rfl (Nat.le_of_ble_eq_true rfl) dL_law_650 ⟨Nat.le_of_ble_eq_true rfl, Nat.le_of_ble_eq_true rfl⟩ (fun H locs (hI : jI D s (A0 s) (gwl Ex Mx () ++ (gwl Ey My () ++ (gwl Ez Z12 () ++ ([])))) H locs) => ?_)
  refine lv_iconst (v := 1) hx hb dL_law_653 (by decide) ?_
  refine lv_icmp_ne (tgt := 705) hx hb dL_law_654 rfl (fun h => absurd rfl h) (fun _ => ?_)
  refine lv_aload hx hb dL_law_657 (lv_at hl 0 rfl) ?_
  refine lv_iconst (v := 1) hx hb dL_law_659 (by decide) ?_
  obtain ⟨Z13, e13, hz⟩ := zc_i hz
  refine l_callX (rest := []) (v0 := (.int 0)) (X' := (gwl Ex Mx () ++ (gwl Ey My () ++ (gwl Ez Z13 () ++ ([]))))) hC hEz hI pm3 pm3.symm (C_X6_containerByWeight l hst Ez () e13) Y_X6_containerByWeight V_X6_containerByWeight w710 rfl ⟨rfl, rfl⟩ ⟨Nat.le_of_ble_eq_true rfl, Nat.le_of_ble_eq_true rfl⟩ rfl hl.1 rfl (Nat.le_of_ble_eq_true rfl) dL_law_660 ⟨Nat.le_of_ble_eq_true rfl, Nat.le_of_ble_eq_true rfl⟩ (fun H locs (hI : jI D s (A0 s) (gwl Ex Mx () ++ (gwl Ey My () ++ (gwl Ez Z13 () ++ ([])))) H locs) => ?_)
  refine lv_if_ne (tgt := 705) hx hb dL_law_663 rfl (fun h => absurd rfl h) (fun _ => ?_)
  refine lv_aload hx hb dL_law_666 (lv_at hl 0 rfl) ?_
  refine lv_iconst (v := 1) hx hb dL_law_668 (by decide) ?_
  obtain ⟨Z14, e14, hz⟩ := zc_i hz
  refine l_callX (rest := []) (v0 := (.int 1)) (X' := (gwl Ex Mx () ++ (gwl Ey My () ++ (gwl Ez Z14 () ++ ([]))))) hC hEz hI pm3 pm3.symm (C_X6_emptiestStack l hst Ez () e14) Y_X6_emptiestStack V_X6_emptiestStack w722 rfl ⟨rfl, rfl⟩ ⟨Nat.le_of_ble_eq_true rfl, Nat.le_of_ble_eq_true rfl⟩ rfl hl.1 rfl (Nat.le_of_ble_eq_true rfl) dL_law_669 ⟨Nat.le_of_ble_eq_true rfl, Nat.le_of_ble_eq_true rfl⟩ (fun H locs (hI : jI D s (A0 s) (gwl Ex Mx () ++ (gwl Ey My () ++ (gwl Ez Z14 () ++ ([])))) H locs) => ?_)
  refine lv_iconst (v := 1) hx hb dL_law_672 (by decide) ?_
  refine lv_icmp_ne (tgt := 705) hx hb dL_law_673 rfl (fun h => absurd rfl h) (fun _ => ?_)
  refine lv_aload hx hb dL_law_676 (lv_at hl 0 rfl) ?_
  refine lv_iconst (v := 1) hx hb dL_law_678 (by decide) ?_
  obtain ⟨Z15, e15, hz⟩ := zc_i hz
  refine l_callX (rest := []) (v0 := (.int 3)) (X' := (gwl Ex Mx () ++ (gwl Ey My () ++ (gwl Ez Z15 () ++ ([]))))) hC hEz hI pm3 pm3.symm (C_X6_hoursUntilFloating l hst Ez () e15) Y_X6_hoursUntilFloating V_X6_hoursUntilFloating w580 rfl ⟨rfl, rfl⟩ ⟨Nat.le_of_ble_eq_true rfl, Nat.le_of_ble_eq_true rfl⟩ rfl hl.1 rfl (Nat.le_of_ble_eq_true rfl) dL_law_679 ⟨Nat.le_of_ble_eq_true rfl, Nat.le_of_ble_eq_true rfl⟩ (fun H locs (hI : jI D s (A0 s) (gwl Ex Mx () ++ (gwl Ey My () ++ (gwl Ez Z15 () ++ ([])))) H locs) => ?_)
  refine lv_iconst (v := 3) hx hb dL_law_682 (by decide) ?_
  refine lv_icmp_ne (tgt := 705) hx hb dL_law_683 rfl (fun h => absurd rfl h) (fun _ => ?_)
  refine lv_aload hx hb dL_law_686 (lv_at hl 0 rfl) ?_
  refine lv_iconst (v := 1) hx hb dL_law_688 (by decide) ?_
  obtain ⟨Z16, e16, hz⟩ := zc_i hz
  refine l_callX (rest := []) (v0 := (.int 3)) (X' := (gwl Ex Mx () ++ (gwl Ey My () ++ (gwl Ez Z16 () ++ ([]))))) hC hEz hI pm3 pm3.symm (C_X6_hoursUntilFloatingByTide l hst Ez () e16) Y_X6_hoursUntilFloatingByTide V_X6_hoursUntilFloatingByTide w588 rfl ⟨rfl, rfl⟩ ⟨Nat.le_of_ble_eq_true rfl, Nat.le_of_ble_eq_true rfl⟩ rfl hl.1 rfl (Nat.le_of_ble_eq_true rfl) dL_law_689 ⟨Nat.le_of_ble_eq_true rfl, Nat.le_of_ble_eq_true rfl⟩ (fun H locs (hI : jI D s (A0 s) (gwl Ex Mx () ++ (gwl Ey My () ++ (gwl Ez Z16 () ++ ([])))) H locs) => ?_)
  refine lv_iconst (v := 3) hx hb dL_law_692 (by decide) ?_
  refine lv_icmp_ne (tgt := 705) hx hb dL_law_693 rfl (fun h => absurd rfl h) (fun _ => ?_)
  refine lv_aload hx hb dL_law_696 (lv_at hl 0 rfl) ?_
  refine lv_iconst (v := 1) hx hb dL_law_698 (by decide) ?_
  obtain ⟨Z17, e17, hz⟩ := zc_i hz
  refine l_callX (rest := []) (v0 := (.int (gb false))) (X' := (gwl Ex Mx () ++ (gwl Ey My () ++ (gwl Ez Z17 () ++ ([]))))) hC hEz hI pm3 pm3.symm (C_X6_floats l hst Ez () e17) Y_X6_floats V_X6_floats w571 rfl ⟨rfl, rfl⟩ ⟨Nat.le_of_ble_eq_true rfl, Nat.le_of_ble_eq_true rfl⟩ rfl hl.1 rfl (Nat.le_of_ble_eq_true rfl) dL_law_699 ⟨Nat.le_of_ble_eq_true rfl, Nat.le_of_ble_eq_true rfl⟩ (fun H locs (hI : jI D s (A0 s) (gwl Ex Mx () ++ (gwl Ey My () ++ (gwl Ez Z17 () ++ ([])))) H locs) => ?_)
  refine lv_if_eq (tgt := 707) hx hb dL_law_702 rfl (fun _ => ?_) (fun h => absurd rfl h)
  refine W.widen (show _ ≤ 31000 by exact Nat.le_of_ble_eq_true rfl) (show _ ≤ 200000 by exact Nat.le_of_ble_eq_true rfl) ?_
  exact kk Z17 (show zR2 w k (nI ((7 * k + w) % 10)) Z17 = true from hz) H locs ls hI hl
end LZ
