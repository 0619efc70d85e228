/-! The law's cases: the script's numbers, the ends of the comparisons. -/
/-- what holds all through the law's run -/
def gLw (p : Program) (l : Launch) (s : State) (m : MethodId) (args : Array Value) (c : Code) (E : gE) (b0 L : Nat) (xs : Nat → Int32) : Prop :=
  gC p s m args c cL_law 9 RL E ∧ gNc s ∧ l.stackTraces = false ∧ va_X b0 L xs s s.heap ∧ b0 < s.heap.size ∧ ¬ gA E b0 ∧ L ≤ 2560
abbrev gLv (E : gE) (b0 i : Nat) : List (Nat × Value) := [(0, .ref b0), (1, .ref (E.2.1 132)), (2, .ref (E.2.1 150)), (3, .ref (E.2.1 159)), (4, .ref (E.2.1 160)), (5, .int (nI i))]
section GTAIL
variable {p : Program} {l : Launch} {e : Env} {s : State} {m : MethodId} {args : Array Value} {below : List Frame} {meth : Method} {c : Code} {H : Heap} {locs : List Loc} {cells slots : Nat} {Q : State → Prop}
variable {E : gE} {M : gM} {x : gX} {pc b0 L i : Nat} {xs : Nat → Int32} {ls : Array Slot} {rest : List Value}
theorem g_arg (K : gLw p l s m args c E b0 L xs) (hI : gI E s M x H locs) {j : Nat} {n : Int} (hj : i + j < L) (hn : Int32.ofInt n = nI j) (h0 : ls[0]? = some (.val (.ref b0))) (h5 : ls[5]? = some (.val (.int (nI i))))
    (d0 : decode cL_law pc = .ok (.aload_n 0, 1)) (d1 : decode cL_law (pc + 1) = .ok (.iload 5, 2)) (d3 : decode cL_law (pc + 3) = .ok (.iconst n, 1)) (d4 : decode cL_law (pc + 4) = .ok (.iadd, 1)) (d5 : decode cL_law (pc + 5) = .ok (.iaload, 1))
    (kk : W p l e room_1 s m args below meth c H locs cells slots Q (F0 m (pc + 6) ls (.int (xs (i + j)) :: rest))) : W p l e room_1 s m args below meth c H locs cells slots Q (F0 m pc ls rest) := by
  obtain ⟨⟨hx, hb, -⟩, -, -, hX, hbl, hbA, hL⟩ := K
  refine lv_aload_n hx hb d0 rfl h0 ?_
  refine lv_iload hx hb d1 h5 ?_
  refine lv_iconst (v := nI j) hx hb d3 hn ?_
  refine lv_iadd hx hb d4 ?_
  rw [nI_add]
  refine va_sld hx hb hX hbl hbA hI.2 (vp_in_nI hj (by omega)) d5 ?_
  rw [nI_clamp (by omega)]
  exact kk
theorem g_thrown (K : gLw p l s m args c E b0 L xs) (hI : gI E s M x H locs) {z : Int32} (hz : M 150 13 = z) (hls : ls.size = 9) (h2 : ls[2]? = some (.val (.ref (E.2.1 150)))) (h6 : ls[6]? = some (.val (.int z))) (hcs : cells ≤ 603072 ∧ slots ≤ 7186538)
    (d0 : decode cL_law pc = .ok (.aload_n 2, 1)) (d1 : decode cL_law (pc + 1) = .ok (.invokevirtual 184, 3)) (d4 : decode cL_law (pc + 4) = .ok (.iload 6, 2)) (d6 : decode cL_law (pc + 6) = .ok (.if_icmp .eq 5, 3)) (d11 : decode cL_law (pc + 11) = .ok (.iload 6, 2))
    (kk : ∀ H1 locs1, gI E s M x H1 locs1 → W p l e room_1 s m args below meth c H1 locs1 cells slots Q (F0 m (pc + 13) ls [.int z])) : W p l e room_1 s m args below meth c H locs cells slots Q (F0 m pc ls []) := by
  obtain ⟨hC, -, hst, -⟩ := K
  have hx := hC.1
  have hb := hC.2.1
  refine lv_aload_n hx hb d0 rfl h2 ?_
  refine g_callVi (r := z) hC hI (C_X7_thrown l E x (congrArg some hz)) Y_X7_thrown V_X7_thrown w1376 (rcv_X7 hC hI) ⟨rfl, rfl⟩ ⟨Nat.le_of_ble_eq_true rfl, Nat.le_of_ble_eq_true rfl⟩ rfl hls rfl (Nat.le_of_ble_eq_true rfl) d1 hcs (fun H1 locs1 hI => ?_)
  refine lv_iload hx hb d4 h6 ?_
  refine lv_icmp_eq (tgt := pc + 11) hx hb d6 (by omega) (fun _ => ?_) (fun h => absurd rfl h)
  exact lv_iload hx hb d11 h6 (kk H1 locs1 hI)
theorem g_tail_i (K : gLw p l s m args c E b0 L xs) (hI : gI E s M x H locs) {z b : Int32} (hz : M 150 13 = z) (hv : z = 0 → x.1 0 = b.toInt64) (hl : lv_has ls 9 ((7, .int b) :: (6, .int z) :: gLv E b0 i)) (hcs : cells ≤ 603072 ∧ slots ≤ 7186538) {off : Int} (ho : ((pc + 28 : Nat) : Int) + off = 3393)
    (d0 : decode cL_law pc = .ok (.aload_n 2, 1)) (d1 : decode cL_law (pc + 1) = .ok (.invokevirtual 184, 3)) (d4 : decode cL_law (pc + 4) = .ok (.iload 6, 2)) (d6 : decode cL_law (pc + 6) = .ok (.if_icmp .eq 5, 3)) (d11 : decode cL_law (pc + 11) = .ok (.iload 6, 2)) (d13 : decode cL_law (pc + 13) = .ok (.ifCond .ne 15, 3))
    (d16 : decode cL_law (pc + 16) = .ok (.aload_n 3, 1)) (d17 : decode cL_law (pc + 17) = .ok (.iconst 0, 1)) (d18 : decode cL_law (pc + 18) = .ok (.laload, 1)) (d19 : decode cL_law (pc + 19) = .ok (.iload 7, 2)) (d21 : decode cL_law (pc + 21) = .ok (.i2l, 1)) (d22 : decode cL_law (pc + 22) = .ok (.lcmp, 1)) (d23 : decode cL_law (pc + 23) = .ok (.ifCond .eq 5, 3)) (d28 : decode cL_law (pc + 28) = .ok (.goto off, 3))
    (kk : ∀ H1 locs1, gI E s M x H1 locs1 → W p l e room_1 s m args below meth c H1 locs1 cells slots Q (F0 m 3393 ls [])) : W p l e room_1 s m args below meth c H locs cells slots Q (F0 m pc ls []) := by
  refine g_thrown K hI hz hl.1 (lv_at hl 4 rfl) (lv_at hl 1 rfl) hcs d0 d1 d4 d6 d11 (fun H1 locs1 hI => ?_)
  have hC := K.1
  have hx := hC.1
  have hb := hC.2.1
  refine lv_if_ne (tgt := pc + 28) hx hb d13 (by omega) (fun h => ?_) (fun h => ?_)
  · exact lv_goto (tgt := 3393) hx hb d28 ho (kk H1 locs1 hI)
  · refine lv_aload_n hx hb d16 rfl (lv_at hl 5 rfl) ?_
    refine lv_iconst (v := 0) hx hb d17 (by decide) ?_
    refine g_laldX hC hI d18 ?_
    refine lv_iload hx hb d19 (lv_at hl 0 rfl) ?_
    refine lv_i2l (v := b.toInt64) hx hb d21 rfl ?_
    refine W.lcmp hx hb d22 ?_
    rw [hv h, gcmp_self]
    refine lv_if_eq (tgt := pc + 28) hx hb d23 (by omega) (fun _ => ?_) (fun h => absurd rfl h)
    exact lv_goto (tgt := 3393) hx hb d28 ho (kk H1 locs1 hI)
theorem g_tail_b (K : gLw p l s m args c E b0 L xs) (hI : gI E s M x H locs) {z : Int32} {b : Bool} (hz : M 150 13 = z) (hv : z = 0 → x.1 0 = if b then 1 else 0) (hl : lv_has ls 9 ((7, .int (gb b)) :: (6, .int z) :: gLv E b0 i)) (hcs : cells ≤ 603072 ∧ slots ≤ 7186538) {off : Int} (ho : ((pc + 35 : Nat) : Int) + off = 3393)
    (d0 : decode cL_law pc = .ok (.aload_n 2, 1)) (d1 : decode cL_law (pc + 1) = .ok (.invokevirtual 184, 3)) (d4 : decode cL_law (pc + 4) = .ok (.iload 6, 2)) (d6 : decode cL_law (pc + 6) = .ok (.if_icmp .eq 5, 3)) (d11 : decode cL_law (pc + 11) = .ok (.iload 6, 2)) (d13 : decode cL_law (pc + 13) = .ok (.ifCond .ne 22, 3))
    (d16 : decode cL_law (pc + 16) = .ok (.aload_n 3, 1)) (d17 : decode cL_law (pc + 17) = .ok (.iconst 0, 1)) (d18 : decode cL_law (pc + 18) = .ok (.laload, 1)) (d19 : decode cL_law (pc + 19) = .ok (.iload 7, 2)) (d21 : decode cL_law (pc + 21) = .ok (.ifCond .eq 7, 3)) (d24 : decode cL_law (pc + 24) = .ok (.lconst 1, 1)) (d25 : decode cL_law (pc + 25) = .ok (.goto 4, 3)) (d28 : decode cL_law (pc + 28) = .ok (.lconst 0, 1)) (d29 : decode cL_law (pc + 29) = .ok (.lcmp, 1)) (d30 : decode cL_law (pc + 30) = .ok (.ifCond .eq 5, 3)) (d35 : decode cL_law (pc + 35) = .ok (.goto off, 3))
    (kk : ∀ H1 locs1, gI E s M x H1 locs1 → W p l e room_1 s m args below meth c H1 locs1 cells slots Q (F0 m 3393 ls [])) : W p l e room_1 s m args below meth c H locs cells slots Q (F0 m pc ls []) := by
  refine g_thrown K hI hz hl.1 (lv_at hl 4 rfl) (lv_at hl 1 rfl) hcs d0 d1 d4 d6 d11 (fun H1 locs1 hI => ?_)
  have hC := K.1
  have hx := hC.1
  have hb := hC.2.1
  refine lv_if_ne (tgt := pc + 35) hx hb d13 (by omega) (fun h => ?_) (fun h => ?_)
  · exact lv_goto (tgt := 3393) hx hb d35 ho (kk H1 locs1 hI)
  · refine lv_aload_n hx hb d16 rfl (lv_at hl 5 rfl) ?_
    refine lv_iconst (v := 0) hx hb d17 (by decide) ?_
    refine g_laldX hC hI d18 ?_
    refine lv_iload hx hb d19 (lv_at hl 0 rfl) ?_
    rw [hv h]
    cases b
    · refine lv_if_eq (tgt := pc + 28) hx hb d21 (by omega) (fun _ => ?_) (fun h => absurd rfl h)
      refine lv_lconst (v := 0) hx hb d28 rfl ?_
      refine W.lcmp hx hb d29 ?_
      refine lv_if_eq (tgt := pc + 35) hx hb d30 (by omega) (fun _ => ?_) (fun h => absurd (gcmp_self _) h)
      exact lv_goto (tgt := 3393) hx hb d35 ho (kk H1 locs1 hI)
    · refine lv_if_eq (tgt := pc + 28) hx hb d21 (by omega) (fun h => absurd h (by decide)) (fun _ => ?_)
      refine lv_lconst (v := 1) hx hb d24 rfl ?_
      refine lv_goto (tgt := pc + 29) hx hb d25 (by omega) ?_
      refine W.lcmp hx hb d29 ?_
      refine lv_if_eq (tgt := pc + 35) hx hb d30 (by omega) (fun _ => ?_) (fun h => absurd (gcmp_self _) h)
      exact lv_goto (tgt := 3393) hx hb d35 ho (kk H1 locs1 hI)
theorem g_tail_d (K : gLw p l s m args c E b0 L xs) (hI : gI E s M x H locs) {z : Int32} {b : UInt64} (hz : M 150 13 = z) (hv : z = 0 → x.2 0 = b ∧ vf_n64 b) (hl : lv_has ls 9 ((7, .double b) :: (6, .int z) :: gLv E b0 i)) (hcs : cells ≤ 603072 ∧ slots ≤ 7186538) {off : Int} (ho : ((pc + 48 : Nat) : Int) + off = 3393)
    (d0 : decode cL_law pc = .ok (.aload_n 2, 1)) (d1 : decode cL_law (pc + 1) = .ok (.invokevirtual 184, 3)) (d4 : decode cL_law (pc + 4) = .ok (.iload 6, 2)) (d6 : decode cL_law (pc + 6) = .ok (.if_icmp .eq 5, 3)) (d11 : decode cL_law (pc + 11) = .ok (.iload 6, 2)) (d13 : decode cL_law (pc + 13) = .ok (.ifCond .ne 35, 3))
    (d16 : decode cL_law (pc + 16) = .ok (.aload 4, 2)) (d18 : decode cL_law (pc + 18) = .ok (.iconst 0, 1)) (d19 : decode cL_law (pc + 19) = .ok (.daload, 1)) (d20 : decode cL_law (pc + 20) = .ok (.dload 7, 2)) {op : CmpOp} (d22 : decode cL_law (pc + 22) = .ok (.dcmp op, 1)) (d23 : decode cL_law (pc + 23) = .ok (.ifCond .eq 25, 3)) (d48 : decode cL_law (pc + 48) = .ok (.goto off, 3))
    (kk : ∀ H1 locs1, gI E s M x H1 locs1 → W p l e room_1 s m args below meth c H1 locs1 cells slots Q (F0 m 3393 ls [])) : W p l e room_1 s m args below meth c H locs cells slots Q (F0 m pc ls []) := by
  refine g_thrown K hI hz hl.1 (lv_at hl 4 rfl) (lv_at hl 1 rfl) hcs d0 d1 d4 d6 d11 (fun H1 locs1 hI => ?_)
  have hC := K.1
  have hx := hC.1
  have hb := hC.2.1
  refine lv_if_ne (tgt := pc + 48) hx hb d13 (by omega) (fun h => ?_) (fun h => ?_)
  · exact lv_goto (tgt := 3393) hx hb d48 ho (kk H1 locs1 hI)
  · refine lv_aload hx hb d16 (lv_at hl 6 rfl) ?_
    refine lv_iconst (v := 0) hx hb d18 (by decide) ?_
    refine g_daldX hC hI d19 ?_
    refine lv_dload hx hb d20 (lv_at hl 0 rfl) ?_
    rw [(hv h).1]
    refine lv_dcmp hx hb d22 ?_
    rw [gdcmp (hv h).2]
    refine lv_if_eq (tgt := pc + 48) hx hb d23 (by omega) (fun _ => ?_) (fun h => absurd (by cases op <;> rfl) h)
    exact lv_goto (tgt := 3393) hx hb d48 ho (kk H1 locs1 hI)
theorem g_tail_f (K : gLw p l s m args c E b0 L xs) (hI : gI E s M x H locs) {z : Int32} {b : UInt32} (hz : M 150 13 = z) (hv : z = 0 → x.2 0 = FP.f2d b ∧ vf_n64 (FP.f2d b)) (hl : lv_has ls 9 ((7, .float b) :: (6, .int z) :: gLv E b0 i)) (hcs : cells ≤ 603072 ∧ slots ≤ 7186538) {off : Int} (ho : ((pc + 49 : Nat) : Int) + off = 3393)
    (d0 : decode cL_law pc = .ok (.aload_n 2, 1)) (d1 : decode cL_law (pc + 1) = .ok (.invokevirtual 184, 3)) (d4 : decode cL_law (pc + 4) = .ok (.iload 6, 2)) (d6 : decode cL_law (pc + 6) = .ok (.if_icmp .eq 5, 3)) (d11 : decode cL_law (pc + 11) = .ok (.iload 6, 2)) (d13 : decode cL_law (pc + 13) = .ok (.ifCond .ne 36, 3))
    (d16 : decode cL_law (pc + 16) = .ok (.aload 4, 2)) (d18 : decode cL_law (pc + 18) = .ok (.iconst 0, 1)) (d19 : decode cL_law (pc + 19) = .ok (.daload, 1)) (d20 : decode cL_law (pc + 20) = .ok (.fload 7, 2)) (d22 : decode cL_law (pc + 22) = .ok (.f2d, 1)) {op : CmpOp} (d23 : decode cL_law (pc + 23) = .ok (.dcmp op, 1)) (d24 : decode cL_law (pc + 24) = .ok (.ifCond .eq 25, 3)) (d49 : decode cL_law (pc + 49) = .ok (.goto off, 3))
    (kk : ∀ H1 locs1, gI E s M x H1 locs1 → W p l e room_1 s m args below meth c H1 locs1 cells slots Q (F0 m 3393 ls [])) : W p l e room_1 s m args below meth c H locs cells slots Q (F0 m pc ls []) := by
  refine g_thrown K hI hz hl.1 (lv_at hl 4 rfl) (lv_at hl 1 rfl) hcs d0 d1 d4 d6 d11 (fun H1 locs1 hI => ?_)
  have hC := K.1
  have hx := hC.1
  have hb := hC.2.1
  refine lv_if_ne (tgt := pc + 49) hx hb d13 (by omega) (fun h => ?_) (fun h => ?_)
  · exact lv_goto (tgt := 3393) hx hb d49 ho (kk H1 locs1 hI)
  · refine lv_aload hx hb d16 (lv_at hl 6 rfl) ?_
    refine lv_iconst (v := 0) hx hb d18 (by decide) ?_
    refine g_daldX hC hI d19 ?_
    refine lv_fload hx hb d20 (lv_at hl 0 rfl) ?_
    refine lv_f2d hx hb d22 (hv h).2 ?_
    rw [(hv h).1]
    refine lv_dcmp hx hb d23 ?_
    rw [gdcmp (hv h).2]
    refine lv_if_eq (tgt := pc + 49) hx hb d24 (by omega) (fun _ => ?_) (fun h => absurd (by cases op <;> rfl) h)
    exact lv_goto (tgt := 3393) hx hb d49 ho (kk H1 locs1 hI)
end GTAIL
