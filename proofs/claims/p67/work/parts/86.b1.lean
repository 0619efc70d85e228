/-! build: its loops, its contract; laid by wip/p67/gen/law67d.py. -/
/-- what a terminal that is to be made rests on -/
def wB (D : va_G) (cid adK adV : Nat → Nat) (ss : List (List Int32)) (A : Nat → Prop) (U : State) (H : Heap) : Prop :=
  iK D cid U ∧ (∀ q ∈ gNF, va_Nw (.fieldLinkNest q.1 q.2.1 q.2.2.1 q.2.2.2.1 q.2.2.2.2 "ContainerTerminal") U) ∧
  (vx_Zq Bundle.tN "UNASSIGNED_STACK" Bundle.steD A U H ∧ vx_Zq Bundle.tN "SUPPRESSED_SENTINEL" Bundle.listD A U H) ∧ (∀ q ∈ gTx, ∃ a, vk_R RX6 q.1 q.2 a U) ∧ (∀ (k : Nat) (q : Nat × String), gWd[k]? = some q → vk_R RX2 q.1 q.2 (adK k) U) ∧ gStr (wE D cid adK adV ss (fun _ => 0)) A U H ∧
  (∀ w ∈ gFw, va_Nw w U) ∧ va_Z "java/lang/String" "COMPACT_STRINGS" "Z" (.int 1) A U H ∧ va_Zq "jdk/internal/util/Preconditions" "SIOOBE_FORMATTER" "Ljava/util/function/BiFunction;" A U H
section WB
variable {D : va_G} {cid adK adV : Nat → Nat} {ss : List (List Int32)} {A B : Nat → Prop} {s U : State} {H H1 : Heap}
theorem wB.warm (hW : s.WarmedH U.vm) (h : wB D cid adK adV ss A s H) : wB D cid adK adV ss A U H := by
  obtain ⟨h1, h3, ⟨h5, h6⟩, h7, h8, h9, h10, h11, h12⟩ := h
  exact ⟨h1.warm hW, fun q hq => va_Nw.warmF hW (h3 q hq), ⟨vx_Zq.moved hW.alike h5, vx_Zq.moved hW.alike h6⟩,
    fun q hq => by obtain ⟨a, ha⟩ := h7 q hq; exact ⟨a, ha.warm hW⟩, fun k q hq => (h8 k q hq).warm hW, gStr.moved hW.alike h9, fun w hw => gFw_warm (gFw_ok w hw).1 (gFw_ok w hw).2 hW (h10 w hw), h11.moved hW.alike, h12.moved hW.alike⟩
theorem wB.same (hv : U.vm = s.vm) (h : wB D cid adK adV ss A s H) : wB D cid adK adV ss A U H := by
  have hA : s.vm.Alike U.vm := by rw [hv]; exact Vm.Alike.refl _
  obtain ⟨h1, h3, ⟨h5, h6⟩, h7, h8, h9, h10, h11, h12⟩ := h
  exact ⟨h1.same hv, fun q hq => va_Nw.same rfl hv.symm (h3 q hq), ⟨vx_Zq.moved hA h5, vx_Zq.moved hA h6⟩,
    fun q hq => by obtain ⟨a, ha⟩ := h7 q hq; exact ⟨a, ha.same hv⟩, fun k q hq => (h8 k q hq).same hv, gStr.moved hA h9, fun w hw => va_Nw.same (gFw_ok w hw).1 hv.symm (h10 w hw), h11.moved hA, h12.moved hA⟩
theorem wB.kept (h : wB D cid adK adV ss A U H) (hq : ∀ a : Nat, a < H.size → ¬ A a → H1[a]? = H[a]?) : wB D cid adK adV ss A U H1 := by
  obtain ⟨h1, h3, ⟨h5, h6⟩, h7, h8, h9, h10, h11, h12⟩ := h
  exact ⟨h1, h3, ⟨h5.kept hq, h6.kept hq⟩, h7, h8, gStr.kept hq h9, h10, h11.kept hq, h12.kept hq⟩
theorem wB.narrow (h : wB D cid adK adV ss A U H) (hAB : ∀ q, B q → A q) : wB D cid adK adV ss B U H := by
  obtain ⟨h1, h3, ⟨h5, h6⟩, h7, h8, h9, h10, h11, h12⟩ := h
  exact ⟨h1, h3, ⟨h5.narrow hAB, h6.narrow hAB⟩, h7, h8, gStr.narrow hAB h9, h10, h11.narrow hAB, h12.narrow hAB⟩
theorem wB.gS0 {ad : Nat → Nat} (h : wB D cid adK adV ss A U H) (hi : ∀ i j, gid i → gid j → ad i = ad j → i = j) (hA : ∀ i, gid i → A (ad i)) : gS0 (wE D cid adK adV ss ad) U H := by
  have hAB : ∀ q, gA (wE D cid adK adV ss ad) q → A q := fun q hq => by
    obtain ⟨i, h1, rfl⟩ := hq
    exact hA i h1
  obtain ⟨h1, h3, ⟨h5, h6⟩, h7, h8, h9, h10, h11, h12⟩ := h.narrow hAB
  exact ⟨h1.1, hi, h3, h1.2.2, ⟨h5, h6⟩, h7, h8, h9, h10, h11, h12⟩
end WB
theorem bNum2 (z : Int32) : ∃ j : Nat, j < 2 ∧ z &&& 1 = nI j := pk_andE z 1 rfl
theorem bNum_eq (z : Int32) : 2 + (z &&& 1) = nI (bNum z) ∧ bNum z ≤ 3 := by
  obtain ⟨j, hj, e⟩ := bNum2 z
  unfold bNum
  rw [e]
  match j, hj with
  | 0, _ => exact ⟨by decide, by decide⟩
  | 1, _ => exact ⟨by decide, by decide⟩
section GBE
variable {p : Program} {l : Launch} {e : Env} {s : State} {m : MethodId} {args : Array Value} {below : List Frame} {meth : Method} {c : Code} {H : Heap} {locs : List Loc} {cells slots : Nat} {Q : State → Prop} {E : gE} {M M' : gM} {ls : Array Slot} {b : Nat} {L : Nat} {xs : Nat → Int32} {R : Room} {cc : ByteArray} {own : String} {nL pc : Nat} {rest st0 : List Value} {rv : Option Value} {mc ms : Nat}
theorem at_pre {As : List Value} {k : Nat} (hX : va_X b L xs s H) (hAs : As = [.ref b, .int (nI k)]) : PreS s H (atPc b k L xs) As := by
  subst hAs
  exact ⟨fun a U g mk h => ⟨h.1, va_X.moved (Vm.Alike.refl _) h.2⟩, fun U hU hW => ⟨rfl, va_X.moved hW.alike (by rw [hU]; exact hX)⟩⟩
theorem g_callAt {index k : Nat} (hC : gC p s m args c cc nL own E) (hI : gI E s M () H locs) (hX : va_X b L xs s s.heap) (hbl : b < s.heap.size) (hbA : ¬ gA E b) (hL : L < 2 ^ 31) (hk : k < 2 ^ 31) (hl : Cond.methodLink own index yL_at ∈ gU) (hR : 1 ≤ R.frames ∧ 21 ≤ R.locals) (hls : ls.size = nL) (hW : (rest.map fun v => v.category).sum ≤ 8) (hdg : decode cc pc = .ok (.invokestatic index, 3)) (hcs : cells ≤ R.cells ∧ slots ≤ R.slots)
    (kk : ∀ H1 locs1, gI E s M () H1 locs1 → W p l e R s m args below meth c H1 locs1 cells slots Q (F0 m (pc + 3) ls (.int (pAt L xs k) :: rest))) : W p l e R s m args below meth c H locs cells slots Q (F0 m pc ls (.int (nI k) :: .ref b :: rest)) := by
  have hXH : va_X b L xs s H := by
    obtain ⟨scr, h1, h2⟩ := hX
    exact ⟨scr, by rw [hI.2.2.1 b hbl hbA]; exact h1, h2⟩
  have cb := gXB (R := R) (rm := gRX 0 0 0 0) (mc := 0) (ms := 0) (n := 2) hC Y_L_at hl ⟨rfl, rfl⟩ ⟨hR.1, hR.2⟩
  obtain ⟨hx, hb, hml, hown, hts, hS0⟩ := hC
  have hr := va_runS (p := p) (l := l) (e := e) (R := R) (below := below) (meth := meth) (c := c) (locs := locs) (cells := cells) (slots := slots) (As := [.ref b, .int (nI k)]) (rest := rest) (g := F0 m pc ls (.int (nI k) :: .ref b :: rest)) ⟨hx, hb, hml, hown, hts⟩ (C_at l hL hk) ⟨cb, hts _ S_L_at⟩ (at_pre hXH rfl) rfl rfl hls rfl (lv_room hW) hdg hcs
  intro T hT X
  obtain ⟨v, st₀, t, T', L', e0, X', hL', e1, e2, ⟨hv, hz, hk9⟩, st⟩ := hr T hT X
  cases hv
  rw [e0] at hz hk9
  have hkeep : ∀ q : Nat, q < H.size → T'.heap[q]? = H[q]? := fun q h1 => by rw [e1, hk9 q h1 (fun h => h)]
  obtain ⟨t2, a1, b1⟩ := kk T'.heap (locs ++ L') ⟨hI.1.kept (fun k z hz => hkeep z.1 (hI.1 k z hz).lt), Nat.le_trans hI.2.1 (by rw [e1]; exact hz), fun q h1 h2 => by rw [hkeep q (Nat.lt_of_lt_of_le h1 hI.2.1)]; exact hI.2.2.1 q h1 h2, fun q hq => by
    rcases List.mem_append.mp hq with h | h
    · exact hI.2.2.2 q h
    · exact absurd (hL' q h) (fun h => h)⟩ T' rfl X'
  exact ⟨t2, st t2 a1, b1⟩
set_option maxRecDepth 100000 in
set_option maxHeartbeats 4000000 in
theorem ships_loop (hst : l.stackTraces = false) (hC : gC p s m args c cL_build 7 RL E) (hN : gNc s) {z : Int32} {M' : gM}
    (kv : ∀ (H : Heap) (locs : List Loc) (ls : Array Slot), lv_has ls 7 [(0, .ref b), (1, .ref (E.2.1 132)), (2, .int z)] → gI E s M' () H locs → W p l e (gRX 17 420 3000 20000) s m args below meth c H locs (142 + 4 * bNum z) (4739 + 24 * bNum z) Q (F0 m 65 ls [])) :
    ∀ (n k : Nat) (M : gM) (H : Heap) (locs : List Loc) (ls : Array Slot), k + n = bNum z → bShips z n k M M' → gI E s M () H locs → lv_has ls 7 [(3, .int (nI k)), (0, .ref b), (1, .ref (E.2.1 132)), (2, .int z)] → W p l e (gRX 17 420 3000 20000) s m args below meth c H locs (142 + 4 * k) (4739 + 24 * k) Q (F0 m 16 ls []) := by
  have hz := bNum_eq z
  intro n
  induction n with
  | zero =>
    intro k M H locs ls hk hp hI hl
    have ek : k = bNum z := by omega
    subst hp
    have hx := hC.1
    have hb := hC.2.1
    refine lv_iload_n hx hb dL_build_16 rfl (lv_at hl 0 rfl) ?_
    refine lv_iconst (v := 2) hx hb dL_build_17 (by decide) ?_
    refine lv_iload_n hx hb dL_build_18 rfl (lv_at hl 3 rfl) ?_
    refine lv_iconst (v := 1) hx hb dL_build_19 (by decide) ?_
    refine lv_iand hx hb dL_build_20 ?_
    refine lv_iadd hx hb dL_build_21 ?_
    refine lv_icmp_ge (tgt := 65) hx hb dL_build_22 rfl (fun _ => ?_) (fun h => absurd (show 2 + (z &&& 1) ≤ nI k by rw [hz.1, ek]; exact Int32.le_refl _) h)
    rw [ek]
    exact kv H locs ls (lv_sub hl [1, 2, 3] rfl) hI
  | succ n ih =>
    intro k M H locs ls hk hp hI hl
    obtain ⟨M1, ⟨oc, hf, hq⟩, hp1⟩ := hp
    have hx := hC.1
    have hb := hC.2.1
    refine lv_iload_n hx hb dL_build_16 rfl (lv_at hl 0 rfl) ?_
    refine lv_iconst (v := 2) hx hb dL_build_17 (by decide) ?_
    refine lv_iload_n hx hb dL_build_18 rfl (lv_at hl 3 rfl) ?_
    refine lv_iconst (v := 1) hx hb dL_build_19 (by decide) ?_
    refine lv_iand hx hb dL_build_20 ?_
    refine lv_iadd hx hb dL_build_21 ?_
    refine lv_icmp_ge (tgt := 65) hx hb dL_build_22 rfl (fun h => absurd h (show ¬ 2 + (z &&& 1) ≤ nI k by rw [hz.1]; exact nI_ge (by omega) (by omega))) (fun _ => ?_)
    refine lv_aload_n hx hb dL_build_25 rfl (lv_at hl 2 rfl) ?_
    refine lv_iconst (v := 0) hx hb dL_build_26 (by decide) ?_
    refine lv_iload_n hx hb dL_build_27 rfl (lv_at hl 0 rfl) ?_
    refine lv_iconst (v := 1) hx hb dL_build_28 (by decide) ?_
    refine lv_iload_n hx hb dL_build_29 rfl (lv_at hl 3 rfl) ?_
    refine lv_iconst (v := 2) hx hb dL_build_30 (by decide) ?_
    refine lv_iconst (v := 4) hx hb dL_build_31 (by decide) ?_
    refine lv_iload_n hx hb dL_build_32 rfl (lv_at hl 0 rfl) ?_
    refine lv_imul hx hb dL_build_33 ?_
    refine lv_iadd hx hb dL_build_34 ?_
    refine lv_ishr hx hb dL_build_35 ?_
    refine lv_bipush (v := 15) hx hb dL_build_36 (by decide) ?_
    refine lv_iand hx hb dL_build_38 ?_
    refine lv_bipush (v := 9) hx hb dL_build_39 (by decide) ?_
    refine lv_irem hx hb dL_build_41 (by decide) ?_
    refine lv_iadd hx hb dL_build_42 ?_
    refine lv_iconst (v := 3) hx hb dL_build_43 (by decide) ?_
    refine lv_iload_n hx hb dL_build_44 rfl (lv_at hl 3 rfl) ?_
    refine lv_iconst (v := 3) hx hb dL_build_45 (by decide) ?_
    refine lv_iconst (v := 5) hx hb dL_build_46 (by decide) ?_
    refine lv_iload_n hx hb dL_build_47 rfl (lv_at hl 0 rfl) ?_
    refine lv_imul hx hb dL_build_48 ?_
    refine lv_iadd hx hb dL_build_49 ?_
    refine lv_ishr hx hb dL_build_50 ?_
    refine lv_bipush (v := 31) hx hb dL_build_51 (by decide) ?_
    refine lv_iand hx hb dL_build_53 ?_
    refine lv_iadd hx hb dL_build_54 ?_
    refine g_callHW (n := 5) (rest := []) hC hN hI (A_moor l hst E hf hq) w1098 w0 S_L_act w1096 ⟨⟨by decide, by decide⟩, by decide +kernel⟩ ⟨rfl, rfl⟩ ⟨Nat.le_of_ble_eq_true rfl, Nat.le_of_ble_eq_true rfl⟩ rfl hl.1 rfl (Nat.le_of_ble_eq_true rfl) dL_build_55 ⟨show 142 + 4 * k + 4 ≤ 3000 by omega, show 4739 + 24 * k + 24 ≤ 20000 by omega⟩ (fun H locs hI => ?_)
    refine lv_pop hx hb dL_build_58 rfl ?_
    refine lv_iinc (k := 0) (v := nI (k + 1)) (lv' := [(3, .int (nI (k + 1))), (0, .ref b), (1, .ref (E.2.1 132)), (2, .int z)]) hx hb dL_build_59 hl rfl (by rw [nI_succ]; rfl) (by decide) rfl (fun ls hl => ?_)
    refine lv_goto (tgt := 16) hx hb dL_build_62 (by decide) ?_
    exact ih (k + 1) M1 H locs ls (by omega) hp1 hI hl
set_option maxRecDepth 100000 in
set_option maxHeartbeats 4000000 in
theorem build_loop (hst : l.stackTraces = false) (hC : gC p s m args c cL_build 7 RL E) (hN : gNc s) (hX : va_X b L xs s s.heap) (hbl : b < s.heap.size) (hbA : ¬ gA E b) (hL : L < 2 ^ 31) {z : Int32} {M' : gM}
    (kv : ∀ (H : Heap) (locs : List Loc) (ls : Array Slot), lv_has ls 7 [(1, .ref (E.2.1 132))] → gI E s M' () H locs → W p l e (gRX 17 420 3000 20000) s m args below meth c H locs (154 + 168 * 13) (4811 + 1008 * 13) Q (F0 m 404 ls [])) :
    ∀ (n k : Nat) (M : gM) (H : Heap) (locs : List Loc) (ls : Array Slot), k + n = 13 → bLoop L xs n k M M' → gI E s M () H locs → lv_has ls 7 [(3, .int (nI k)), (0, .ref b), (1, .ref (E.2.1 132)), (2, .int z)] → W p l e (gRX 17 420 3000 20000) s m args below meth c H locs (154 + 168 * k) (4811 + 1008 * k) Q (F0 m 67 ls []) := by
  intro n
  induction n with
  | zero =>
    intro k M H locs ls hk hp hI hl
    have ek : k = 13 := by omega
    subst ek
    subst hp
    have hx := hC.1
    have hb := hC.2.1
    refine lv_iload_n hx hb dL_build_67 rfl (lv_at hl 0 rfl) ?_
    refine lv_bipush (v := 13) hx hb dL_build_68 (by decide) ?_
    refine lv_icmp_ge (tgt := 404) hx hb dL_build_70 rfl (fun _ => ?_) (fun h => absurd (show (13 : Int32) ≤ nI 13 by decide) h)
    exact kv H locs ls (lv_sub hl [2] rfl) hI
  | succ n ih =>
    intro k M H locs ls hk hp hI hl
    obtain ⟨M7, ⟨M1, M2, M3, M4, M5, M6, r1, r2, r3, r4, r5, r6, r7⟩, hp1⟩ := hp
    have hx := hC.1
    have hb := hC.2.1
    refine lv_iload_n hx hb dL_build_67 rfl (lv_at hl 0 rfl) ?_
    refine lv_bipush (v := 13) hx hb dL_build_68 (by decide) ?_
    refine lv_icmp_ge (tgt := 404) hx hb dL_build_70 rfl (fun h => absurd h (show ¬ nI 13 ≤ nI k from nI_ge (show k < 13 by omega) (by decide))) (fun _ => ?_)
    refine lv_aload_n hx hb dL_build_73 rfl (lv_at hl 1 rfl) ?_
    refine lv_iload_n hx hb dL_build_74 rfl (lv_at hl 0 rfl) ?_
    refine g_callAt hC hI hX hbl hbA hL (show k < 2 ^ 31 by omega) w1075 ⟨Nat.le_of_ble_eq_true rfl, Nat.le_of_ble_eq_true rfl⟩ hl.1 (Nat.le_of_ble_eq_true rfl) dL_build_75 ⟨show 154 + 168 * k ≤ 3000 by omega, show 4811 + 1008 * k ≤ 20000 by omega⟩ (fun H locs hI => ?_)
    obtain ⟨c0, hc0⟩ : ∃ c0, c0 = pAt L xs k := ⟨_, rfl⟩
    rw [← hc0] at r1 r2 r3 r4 r5 r6 r7 ⊢
    refine lv_istore (lv' := [(4, .int c0), (3, .int (nI k)), (0, .ref b), (1, .ref (E.2.1 132)), (2, .int z)]) hx hb dL_build_78 hl (by decide) rfl (fun ls hl => ?_)
    refine lv_iload hx hb dL_build_80 (lv_at hl 0 rfl) ?_
    refine lv_iconst (v := 3) hx hb dL_build_82 (by decide) ?_
    refine lv_iand hx hb dL_build_83 ?_
    refine lv_iconst (v := 3) hx hb dL_build_84 (by decide) ?_
    refine lv_irem hx hb dL_build_85 (by decide) ?_
    refine g_top (v := bBe c0) rfl ?_
    refine lv_istore (lv' := [(5, .int (bBe c0)), (4, .int c0), (3, .int (nI k)), (0, .ref b), (1, .ref (E.2.1 132)), (2, .int z)]) hx hb dL_build_86 hl (by decide) rfl (fun ls hl => ?_)
    refine lv_iload hx hb dL_build_88 (lv_at hl 1 rfl) ?_
    refine lv_iconst (v := 2) hx hb dL_build_90 (by decide) ?_
    refine lv_ishr hx hb dL_build_91 ?_
    refine lv_iconst (v := 3) hx hb dL_build_92 (by decide) ?_
    refine lv_iand hx hb dL_build_93 ?_
    refine g_top (v := bSt c0) rfl ?_
    refine lv_istore (lv' := [(6, .int (bSt c0)), (5, .int (bBe c0)), (4, .int c0), (3, .int (nI k)), (0, .ref b), (1, .ref (E.2.1 132)), (2, .int z)]) hx hb dL_build_94 hl (by decide) rfl (fun ls hl => ?_)
    replace hl : lv_has ls 7 (bLv E b z (nI k) c0) := lv_sub hl [4, 5, 6, 3, 2, 1, 0] rfl
    refine bs_stow hst hC hN r1 hI hl ⟨by omega, by omega⟩ (fun H locs hI => ?_)
    refine bs_clear hst hC hN r2 hI hl ⟨by omega, by omega⟩ (fun H locs hI => ?_)
    refine bs_move hst hC hN r3 hI hl ⟨by omega, by omega⟩ (fun H locs hI => ?_)
    refine bs_del hst hC hN r4 hI hl ⟨by omega, by omega⟩ (fun H locs hI => ?_)
    refine bs_pass hst hC hN r5 hI hl ⟨by omega, by omega⟩ (fun H locs hI => ?_)
    refine bs_leave hst hC hN r6 hI hl ⟨by omega, by omega⟩ (fun H locs hI => ?_)
    refine bs_moor hst hC hN r7 hI hl ⟨by omega, by omega⟩ (fun H locs hI => ?_)
    refine lv_iinc (k := 3) (v := nI (k + 1)) (lv' := [(3, .int (nI (k + 1))), (0, .ref b), (1, .ref (E.2.1 132)), (2, .int z), (4, .int c0), (5, .int (bBe c0)), (6, .int (bSt c0))]) hx hb dL_build_398 hl rfl (by rw [nI_succ]; rfl) (by decide) rfl (fun ls hl => ?_)
    refine lv_goto (tgt := 67) hx hb dL_build_401 (by decide) ?_
    refine W.widen (show _ ≤ 154 + 168 * (k + 1) by omega) (show _ ≤ 4811 + 1008 * (k + 1) by omega) ?_
    exact ih (k + 1) M7 H locs ls (by omega) hp1 hI (lv_sub hl [0, 1, 2, 3] rfl)
end GBE
def bldPre (b L : Nat) (xs : Nat → Int32) (D : va_G) (cid adK adV : Nat → Nat) (ss : List (List Int32)) (sz : Nat) (U : State) : Prop :=
  U.heap.size = sz ∧ va_X b L xs U U.heap ∧ b < U.heap.size ∧ wB D cid adK adV ss (fun q => sz ≤ q) U U.heap ∧ gNc U
def bldQ (MB : gM) (D : va_G) (cid adK adV : Nat → Nat) (ss : List (List Int32)) : Array Value → State → Outcome → State → Prop := fun _ st oc t =>
  (∃ ad : Nat → Nat, oc = .returned (some (.ref (ad 132))) ∧ gW (wE D cid adK adV ss ad) MB () t ∧ ∀ i, gid i → st.heap.size ≤ ad i) ∧ va_F (fun _ => False) st t
set_option maxRecDepth 100000 in
set_option maxHeartbeats 4000000 in
theorem C_build (l : Launch) (hst : l.stackTraces = false) {b L : Nat} {xs : Nat → Int32} (hL : L < 2 ^ 31) (D : va_G) (cid adK adV : Nat → Nat) (ss : List (List Int32)) {MB : gM} (hp : pBuild L xs wM0 MB) (sz : Nat) :
    Met l yL_build (gWs (.code yL_build cL_build 7 (some (.object "ContainerTerminal")))) (gRX 17 420 3000 20000) (va_Pc [.ref b] (bldPre b L xs D cid adK adV ss sz)) (bldQ MB D cid adK adV ss) 2338 17915 (fun q => sz ≤ q) := by
  refine Met.ofW (cc := cL_build) (maxL := 7) (ret := some (.object "ContainerTerminal")) (by decide +kernel) rfl ?_
  intro p e s m args below meth c s₁ B hml hv
  obtain ⟨rfl, hsz, hX, hbl, hwB, hN⟩ := hv
  subst hsz
  have hts : ∀ w ∈ gWs (.code yL_build cL_build 7 (some (.object "ContainerTerminal"))), w.before ([.ref b] : List Value).toArray s = true := atoms_spec (ws := gWs (.code yL_build cL_build 7 (some (.object "ContainerTerminal")))) B.pre
  have hlocks := B.notSynchronized
  have hl := lv_entry [.ref b] (n := 7) (Nat.le_of_ble_eq_true rfl)
  rw [lg_entry_eq]
  generalize (lg_sl [.ref b] ++ List.replicate (7 - (lg_sl [.ref b]).length) Slot.unset).toArray = ls at hl ⊢
  replace hl : lv_has ls 7 [(0, .ref b)] := hl
  have hU : ∀ w ∈ gU, w.before ([.ref b] : List Value).toArray s = true := fun w hw => hts w (List.mem_cons_of_mem _ hw)
  have hC0 : iC p s m ([.ref b] : List Value).toArray c cL_build 7 RL D cid := ⟨B.exec, B.bytes, hml, findClass_of_methodNamed B.named, hU, hwB.1⟩
  have hx := hC0.1
  have hb := hC0.2.1
  have hP0 : va_P D vwCl [] s.heap := fun k q h => by simp at h
  have hD0 : va_D (fun q : Nat => s.heap.size ≤ q) [] := ⟨fun i j p q h => by simp at h, fun k q h => by simp at h⟩
  refine i_newW hC0 ⟨hP0, hD0, va_S.rf⟩ (fun _ h => h) (I_X6 l D cid) rfl uX6 tyX6 tyX6_ok w34 w35 w1 (fun j hj => by revert j; decide) ⟨w38, w1, ⟨by decide, by decide⟩, by decide +kernel⟩ w37 rfl (Or.inr w36) ⟨rfl, rfl⟩ ⟨Nat.le_of_ble_eq_true rfl, Nat.le_of_ble_eq_true rfl⟩ hl.1 (Nat.le_of_ble_eq_true rfl) ⟨Nat.le_of_ble_eq_true rfl, Nat.le_of_ble_eq_true rfl⟩ dL_build_0 dL_build_3 dL_build_4 (fun q u H locs hp0 hI => ?_)
  obtain ⟨u1, u2, u3, u4, u5, u6, u7, h⟩ := u
  replace hp0 : h = q := hp0
  subst hp0
  refine lv_astore_n (lv' := [(1, .ref h), (0, .ref b)]) hx hb dL_build_7 rfl hl (by decide) rfl (fun ls hl => ?_)
  obtain ⟨gP, gJ, gAd⟩ := wasm (D := D) (cid := cid) (adK := adK) (adV := adV) (ss := ss) (u1 := u1) (u2 := u2) (u3 := u3) (u6 := u6) (u7 := u7) (u4 := u4) (u5 := u5) (h := h) hI.1 hI.2.1
  obtain ⟨ad, had⟩ : ∃ ad, ad = wad u1 u2 u3 u6 u7 u4 u5 h := ⟨_, rfl⟩
  have a132 : h = ad 132 := by rw [had]; rfl
  rw [← had] at gP gJ gAd
  obtain ⟨E, hE⟩ : ∃ E, E = wE D cid adK adV ss ad := ⟨_, rfl⟩
  have g0 : gS0 E s s.heap := by rw [hE]; exact hwB.gS0 gJ gAd
  have hC : gC p s m ([.ref b] : List Value).toArray c cL_build 7 RL E := ⟨hx, hb, hml, hC0.2.2.2.1, hU, g0⟩
  have e132 : h = E.2.1 132 := by rw [hE]; exact a132
  rw [e132] at hl
  rw [← hE, show D = E.1 by rw [hE]] at gP
  have hAg : ∀ q, gA E q → s.heap.size ≤ q := fun q hq => by
    obtain ⟨i, hi, rfl⟩ := hq
    rw [hE]
    exact gAd i hi
  have hbA : ¬ gA E b := fun hq => absurd (hAg b hq) (Nat.not_le.mpr hbl)
  refine va_forget (fun q hq => hI.2.2.2.2 q hq) ?_
  have hS := hI.2.2
  replace hI : gI E s wM0 () H [] := ⟨gP, hS.1, fun q hq _ => hS.2.1 q hq (Nat.not_le.mpr hq), fun q hq => by cases hq⟩
  refine lv_aload_n hx hb dL_build_8 rfl (lv_at hl 1 rfl) ?_
  refine lv_iconst (v := nI 0) hx hb dL_build_9 (by decide) ?_
  refine g_callAt hC hI hX hbl hbA hL (show 0 < 2 ^ 31 by decide) w1075 ⟨Nat.le_of_ble_eq_true rfl, Nat.le_of_ble_eq_true rfl⟩ hl.1 (Nat.le_of_ble_eq_true rfl) dL_build_10 ⟨Nat.le_of_ble_eq_true rfl, Nat.le_of_ble_eq_true rfl⟩ (fun H locs hI => ?_)
  obtain ⟨z, hz⟩ : ∃ z, z = pAt L xs 0 := ⟨_, rfl⟩
  obtain ⟨MS, hp1, hp2⟩ := hp
  rw [← hz] at hp1 ⊢
  refine lv_istore_n (lv' := [(2, .int z), (1, .ref (E.2.1 132)), (0, .ref b)]) hx hb dL_build_13 rfl hl (by decide) rfl (fun ls hl => ?_)
  refine lv_iconst (v := 0) hx hb dL_build_14 (by decide) ?_
  refine lv_istore_n (lv' := [(3, .int (nI 0)), (2, .int z), (1, .ref (E.2.1 132)), (0, .ref b)]) hx hb dL_build_15 rfl hl (by decide) rfl (fun ls hl => ?_)
  refine ships_loop hst hC hN (fun H locs ls hl hI => ?_) (bNum z) 0 wM0 H locs ls (by omega) hp1 hI (lv_sub hl [0, 3, 2, 1] rfl)
  have hz3 := bNum_eq z
  refine lv_iconst (v := 1) hx hb dL_build_65 (by decide) ?_
  refine lv_istore_n (lv' := [(3, .int (nI 1)), (0, .ref b), (1, .ref (E.2.1 132)), (2, .int z)]) hx hb dL_build_66 rfl hl (by decide) rfl (fun ls hl => ?_)
  refine W.widen (show _ ≤ 154 + 168 * 1 by omega) (show _ ≤ 4811 + 1008 * 1 by omega) ?_
  refine build_loop hst hC hN hX hbl hbA hL (fun H locs ls hl hI => ?_) 12 1 MS H locs ls rfl hp2 hI hl
  refine lv_aload_n hx hb dL_build_404 rfl (lv_at hl 0 rfl) ?_
  refine W.aret B.exec B.bytes B.returns (Or.inl ⟨_, rfl⟩) (Or.inr ⟨_, rfl⟩) (fun t ht hWm => ⟨⟨ad, by rw [hE], by rw [← hE]; exact gW_at g0 hI ht hWm, gAd⟩, ?_⟩) (fun q hq => hAg _ (hI.2.2.2 q hq)) dL_build_405
  exact ⟨by rw [ht]; exact hI.2.1, fun q h1 _ => by rw [ht]; exact hI.2.2.1 q h1 (fun h2 => absurd (hAg q h2) (Nat.not_le.mpr h1))⟩
