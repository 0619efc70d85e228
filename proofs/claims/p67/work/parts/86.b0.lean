/-! The law's at and build; laid by wip/p67/gen/law67c.py. -/
abbrev sr (x y : Int32) : Int32 := x >>> (y &&& 31)
abbrev sl (x y : Int32) : Int32 := x <<< (y &&& 31)
/-- a script's int, 0 behind its end -/
def pAt (L : Nat) (xs : Nat → Int32) (k : Nat) : Int32 := if k < L then xs k else 0
def atPc (b k : Nat) (L : Nat) (xs : Nat → Int32) : Array Value → State → Prop := va_Pc [.ref b, .int (nI k)] (fun U => va_X b L xs U U.heap)
def atQ (L k : Nat) (xs : Nat → Int32) : Array Value → State → Outcome → State → Prop := fun _ st oc t => oc = .returned (some (.int (pAt L xs k))) ∧ va_F (fun _ => False) st t
set_option maxRecDepth 100000 in
set_option maxHeartbeats 4000000 in
theorem C_at (l : Launch) {b k L : Nat} {xs : Nat → Int32} (hL : L < 2 ^ 31) (hk : k < 2 ^ 31) : Met l yL_at (gWs (.code yL_at cL_at 2 (some .int))) (gRX 0 0 0 0) (atPc b k L xs) (atQ L k xs) 0 0 (fun _ => False) := by
  refine Met.ofW (cc := cL_at) (maxL := 2) (ret := some .int) (by decide +kernel) rfl ?_
  intro p e s m args below meth c s₁ B hml hv
  obtain ⟨rfl, hX⟩ := hv
  have hlocks := B.notSynchronized
  have hl := lv_entry [.ref b, .int (nI k)] (n := 2) (Nat.le_of_ble_eq_true rfl)
  rw [lg_entry_eq]
  generalize (lg_sl [.ref b, .int (nI k)] ++ List.replicate (2 - (lg_sl [.ref b, .int (nI k)]).length) Slot.unset).toArray = ls at hl ⊢
  replace hl : lv_has ls 2 [(0, .ref b), (1, .int (nI k))] := hl
  have hx := B.exec
  have hb := B.bytes
  have hbl : b < s.heap.size := by obtain ⟨scr, h1, -⟩ := hX; exact (Array.getElem?_eq_some_iff.mp h1).1
  have hS : va_S (fun _ => False) s.heap s.heap [] := va_S.rf
  refine lv_iload_n hx hb dL_at_0 rfl (lv_at hl 1 rfl) ?_
  refine lv_aload_n hx hb dL_at_1 rfl (lv_at hl 0 rfl) ?_
  refine va_slen hx hb hX hbl (fun h => h) hS dL_at_2 ?_
  refine lv_icmp_ge (tgt := 12) hx hb dL_at_3 rfl (fun h => ?_) (fun h => ?_)
  · have hge : ¬ k < L := fun q => nI_ge q (by omega) h
    refine lv_iconst (v := 0) hx hb dL_at_12 (by decide) ?_
    refine W.zret B.exec B.bytes B.returns rfl (fun t ht hWm => ⟨?_, hS.F ht⟩) hS.2.2 dL_at_13
    unfold pAt
    rw [if_neg hge]
  · have hlt : k < L := by
      by_cases q : k < L
      · exact q
      · exact absurd (nI_le (show L ≤ k by omega) (by omega)) h
    refine lv_aload_n hx hb dL_at_6 rfl (lv_at hl 0 rfl) ?_
    refine lv_iload_n hx hb dL_at_7 rfl (lv_at hl 1 rfl) ?_
    refine va_sld hx hb hX hbl (fun h => h) hS (vp_in_nI hlt (by omega)) dL_at_8 ?_
    refine lv_goto (tgt := 13) hx hb dL_at_9 rfl ?_
    refine W.zret B.exec B.bytes B.returns rfl (fun t ht hWm => ⟨?_, hS.F ht⟩) hS.2.2 dL_at_13
    unfold pAt
    rw [if_pos hlt, nI_clamp (by omega)]
/-- a call that may throw, of which only the state behind it counts -/
def bT {α : Type} (codes : List String) (r : Option ((String ⊕ α) × gM)) (M' : gM) : Prop := ∃ oc, r = some (oc, M') ∧ aO codes oc
abbrev xOAS : List String := ["java/lang/IndexOutOfBoundsException", "java/lang/IllegalArgumentException", "java/lang/IllegalStateException"]
abbrev xOS : List String := ["java/lang/IndexOutOfBoundsException", "java/lang/IllegalStateException"]
abbrev xA : List String := ["java/lang/IllegalArgumentException"]
abbrev xN : List String := ["java/util/NoSuchElementException"]
/-- what an int of the script says: berth, stack -/
def bBe (c : Int32) : Int32 := (c &&& 3) - (c &&& 3) / 3 * 3
def bSt (c : Int32) : Int32 := (sr c 2) &&& 3
def bB2 (c : Int32) : Int32 := ((sr c 24) &&& 3) - ((sr c 24) &&& 3) / 3 * 3
def bStow (c : Int32) (M M' : gM) : Prop := ∃ M1, bT xOAS (f_X6_stow (bBe c) (bSt c) (1 + ((sr c 4) &&& 7)) ((sr c 7) &&& 3) M) M1 ∧ bT xOAS (f_X6_stow (bBe c) ((sr c 9) &&& 3) (1 + ((sr c 4) &&& 15)) ((sr c 8) &&& 3) M1) M'
def bAns (c : Int32) (M : gM) (a : Int32) : Prop := ((sr c 12) &&& 3 = 0 ∧ a = (sr c 14) &&& 7) ∨ (¬ (sr c 12) &&& 3 = 0 ∧ ∃ t, f_X6_topOf (bBe c) (bSt c) M = some (.inr t, M) ∧ f_X6_answerOf t M = some (.inr a, M))
def bClear (c : Int32) (M M' : gM) : Prop := (¬ (sr c 11) &&& 1 = 0 ∧ M' = M) ∨ ((sr c 11) &&& 1 = 0 ∧ ((f_X6_isMoored (bBe c) M = some (.inr false, M) ∧ M' = M) ∨ (f_X6_isMoored (bBe c) M = some (.inr true, M) ∧ ∃ h, f_X6_stackHeight (bBe c) (bSt c) M = some (.inr h, M) ∧
  ((h ≤ 0 ∧ M' = M) ∨ (¬ h ≤ 0 ∧ ∃ a, bAns c M a ∧ bT xOAS (f_X6_clear (bBe c) (bSt c) a M) M')))))
def bMove (c : Int32) (M M' : gM) : Prop := (¬ (sr c 17) &&& 3 = 0 ∧ M' = M) ∨ ((sr c 17) &&& 3 = 0 ∧ bT xOAS (f_X6_move (bBe c) (bSt c) ((sr c 19) &&& 3) M) M')
def bDel (c : Int32) (M M' : gM) : Prop := (¬ (sr c 17) &&& 3 = 1 ∧ M' = M) ∨ ((sr c 17) &&& 3 = 1 ∧ ∃ n, f_X6_yardCount M = some n ∧ ((n ≤ 0 ∧ M' = M) ∨ (¬ n ≤ 0 ∧ ∃ id, f_X6_yardAt (((sr c 19) &&& 7) - ((sr c 19) &&& 7) / n * n) M = some (.inr id, M) ∧ bT xN (f_X6_deliver id M) M')))
def bPass (c : Int32) (M M' : gM) : Prop := (¬ (sr c 17) &&& 3 = 2 ∧ M' = M) ∨ ((sr c 17) &&& 3 = 2 ∧ bT xA (f_X6_pass (1 + ((sr c 19) &&& 7)) M) M')
def bLeave (c : Int32) (M M' : gM) : Prop := (¬ (sr c 22) &&& 3 = 0 ∧ M' = M) ∨ ((sr c 22) &&& 3 = 0 ∧ bT xOS (f_X6_leave (bB2 c) M) M')
def bMoor (c : Int32) (M M' : gM) : Prop := (¬ (sr c 22) &&& 3 = 1 ∧ M' = M) ∨ ((sr c 22) &&& 3 = 1 ∧ ∃ u, f_X6_hour M = some u ∧ bT xOAS (f_X6_moor (bB2 c) (1 + ((sr c 26) &&& 7)) (u + ((sr c 5) &&& 15)) M) M')
/-- a round of the script -/
def bStep (c : Int32) (M M' : gM) : Prop := ∃ M1 M2 M3 M4 M5 M6, bStow c M M1 ∧ bClear c M1 M2 ∧ bMove c M2 M3 ∧ bDel c M3 M4 ∧ bPass c M4 M5 ∧ bLeave c M5 M6 ∧ bMoor c M6 M'
def bLoop (L : Nat) (xs : Nat → Int32) : Nat → Nat → gM → gM → Prop
  | 0, _, M, M' => M' = M
  | n + 1, k, M, M' => ∃ M1, bStep (pAt L xs k) M M1 ∧ bLoop L xs n (k + 1) M1 M'
/-- the ships at the beginning -/
def bShip (z : Int32) (k : Nat) (M M' : gM) : Prop := bT xOAS (f_X6_moor (nI k) (1 + (((sr z (2 + 4 * nI k)) &&& 15) - ((sr z (2 + 4 * nI k)) &&& 15) / 9 * 9)) (3 + ((sr z (3 + 5 * nI k)) &&& 31)) M) M'
def bShips (z : Int32) : Nat → Nat → gM → gM → Prop
  | 0, _, M, M' => M' = M
  | n + 1, k, M, M' => ∃ M1, bShip z k M M1 ∧ bShips z n (k + 1) M1 M'
def bNum (z : Int32) : Nat := 2 + (z &&& 1).toNatClampNeg
def pBuild (L : Nat) (xs : Nat → Int32) (M M' : gM) : Prop := ∃ M1, bShips (pAt L xs 0) (bNum (pAt L xs 0)) 0 M M1 ∧ bLoop L xs 12 1 M1 M'

theorem dL_build_0 : decode cL_build 0 = .ok (.new 18, 3) := by decide +kernel
theorem dL_build_3 : decode cL_build 3 = .ok (.dup, 1) := by decide +kernel
theorem dL_build_4 : decode cL_build 4 = .ok (.invokespecial 23, 3) := by decide +kernel
theorem dL_build_7 : decode cL_build 7 = .ok (.astore_n 1, 1) := by decide +kernel
theorem dL_build_8 : decode cL_build 8 = .ok (.aload_n 0, 1) := by decide +kernel
theorem dL_build_9 : decode cL_build 9 = .ok (.iconst 0, 1) := by decide +kernel
theorem dL_build_10 : decode cL_build 10 = .ok (.invokestatic 24, 3) := by decide +kernel
theorem dL_build_13 : decode cL_build 13 = .ok (.istore_n 2, 1) := by decide +kernel
theorem dL_build_14 : decode cL_build 14 = .ok (.iconst 0, 1) := by decide +kernel
theorem dL_build_15 : decode cL_build 15 = .ok (.istore_n 3, 1) := by decide +kernel
theorem dL_build_16 : decode cL_build 16 = .ok (.iload_n 3, 1) := by decide +kernel
theorem dL_build_17 : decode cL_build 17 = .ok (.iconst 2, 1) := by decide +kernel
theorem dL_build_18 : decode cL_build 18 = .ok (.iload_n 2, 1) := by decide +kernel
theorem dL_build_19 : decode cL_build 19 = .ok (.iconst 1, 1) := by decide +kernel
theorem dL_build_20 : decode cL_build 20 = .ok (.iand, 1) := by decide +kernel
theorem dL_build_21 : decode cL_build 21 = .ok (.iadd, 1) := by decide +kernel
theorem dL_build_22 : decode cL_build 22 = .ok (.if_icmp .ge 43, 3) := by decide +kernel
theorem dL_build_25 : decode cL_build 25 = .ok (.aload_n 1, 1) := by decide +kernel
theorem dL_build_26 : decode cL_build 26 = .ok (.iconst 0, 1) := by decide +kernel
theorem dL_build_27 : decode cL_build 27 = .ok (.iload_n 3, 1) := by decide +kernel
theorem dL_build_28 : decode cL_build 28 = .ok (.iconst 1, 1) := by decide +kernel
theorem dL_build_29 : decode cL_build 29 = .ok (.iload_n 2, 1) := by decide +kernel
theorem dL_build_30 : decode cL_build 30 = .ok (.iconst 2, 1) := by decide +kernel
theorem dL_build_31 : decode cL_build 31 = .ok (.iconst 4, 1) := by decide +kernel
theorem dL_build_32 : decode cL_build 32 = .ok (.iload_n 3, 1) := by decide +kernel
theorem dL_build_33 : decode cL_build 33 = .ok (.imul, 1) := by decide +kernel
theorem dL_build_34 : decode cL_build 34 = .ok (.iadd, 1) := by decide +kernel
theorem dL_build_35 : decode cL_build 35 = .ok (.ishr, 1) := by decide +kernel
theorem dL_build_36 : decode cL_build 36 = .ok (.bipush 15, 2) := by decide +kernel
theorem dL_build_38 : decode cL_build 38 = .ok (.iand, 1) := by decide +kernel
theorem dL_build_39 : decode cL_build 39 = .ok (.bipush 9, 2) := by decide +kernel
theorem dL_build_41 : decode cL_build 41 = .ok (.irem, 1) := by decide +kernel
theorem dL_build_42 : decode cL_build 42 = .ok (.iadd, 1) := by decide +kernel
theorem dL_build_43 : decode cL_build 43 = .ok (.iconst 3, 1) := by decide +kernel
theorem dL_build_44 : decode cL_build 44 = .ok (.iload_n 2, 1) := by decide +kernel
theorem dL_build_45 : decode cL_build 45 = .ok (.iconst 3, 1) := by decide +kernel
theorem dL_build_46 : decode cL_build 46 = .ok (.iconst 5, 1) := by decide +kernel
theorem dL_build_47 : decode cL_build 47 = .ok (.iload_n 3, 1) := by decide +kernel
theorem dL_build_48 : decode cL_build 48 = .ok (.imul, 1) := by decide +kernel
theorem dL_build_49 : decode cL_build 49 = .ok (.iadd, 1) := by decide +kernel
theorem dL_build_50 : decode cL_build 50 = .ok (.ishr, 1) := by decide +kernel
theorem dL_build_51 : decode cL_build 51 = .ok (.bipush 31, 2) := by decide +kernel
theorem dL_build_53 : decode cL_build 53 = .ok (.iand, 1) := by decide +kernel
theorem dL_build_54 : decode cL_build 54 = .ok (.iadd, 1) := by decide +kernel
theorem dL_build_55 : decode cL_build 55 = .ok (.invokestatic 30, 3) := by decide +kernel
theorem dL_build_58 : decode cL_build 58 = .ok (.pop, 1) := by decide +kernel
theorem dL_build_59 : decode cL_build 59 = .ok (.iinc 3 1, 3) := by decide +kernel
theorem dL_build_62 : decode cL_build 62 = .ok (.goto (-46), 3) := by decide +kernel
theorem dL_build_65 : decode cL_build 65 = .ok (.iconst 1, 1) := by decide +kernel
theorem dL_build_66 : decode cL_build 66 = .ok (.istore_n 3, 1) := by decide +kernel
theorem dL_build_67 : decode cL_build 67 = .ok (.iload_n 3, 1) := by decide +kernel
theorem dL_build_68 : decode cL_build 68 = .ok (.bipush 13, 2) := by decide +kernel
theorem dL_build_70 : decode cL_build 70 = .ok (.if_icmp .ge 334, 3) := by decide +kernel
theorem dL_build_73 : decode cL_build 73 = .ok (.aload_n 0, 1) := by decide +kernel
theorem dL_build_74 : decode cL_build 74 = .ok (.iload_n 3, 1) := by decide +kernel
theorem dL_build_75 : decode cL_build 75 = .ok (.invokestatic 24, 3) := by decide +kernel
theorem dL_build_78 : decode cL_build 78 = .ok (.istore 4, 2) := by decide +kernel
theorem dL_build_80 : decode cL_build 80 = .ok (.iload 4, 2) := by decide +kernel
theorem dL_build_82 : decode cL_build 82 = .ok (.iconst 3, 1) := by decide +kernel
theorem dL_build_83 : decode cL_build 83 = .ok (.iand, 1) := by decide +kernel
theorem dL_build_84 : decode cL_build 84 = .ok (.iconst 3, 1) := by decide +kernel
theorem dL_build_85 : decode cL_build 85 = .ok (.irem, 1) := by decide +kernel
theorem dL_build_86 : decode cL_build 86 = .ok (.istore 5, 2) := by decide +kernel
theorem dL_build_88 : decode cL_build 88 = .ok (.iload 4, 2) := by decide +kernel
theorem dL_build_90 : decode cL_build 90 = .ok (.iconst 2, 1) := by decide +kernel
theorem dL_build_91 : decode cL_build 91 = .ok (.ishr, 1) := by decide +kernel
theorem dL_build_92 : decode cL_build 92 = .ok (.iconst 3, 1) := by decide +kernel
theorem dL_build_93 : decode cL_build 93 = .ok (.iand, 1) := by decide +kernel
theorem dL_build_94 : decode cL_build 94 = .ok (.istore 6, 2) := by decide +kernel
theorem dL_build_96 : decode cL_build 96 = .ok (.aload_n 1, 1) := by decide +kernel
theorem dL_build_97 : decode cL_build 97 = .ok (.iload 5, 2) := by decide +kernel
theorem dL_build_99 : decode cL_build 99 = .ok (.iload 6, 2) := by decide +kernel
theorem dL_build_101 : decode cL_build 101 = .ok (.iconst 1, 1) := by decide +kernel
theorem dL_build_102 : decode cL_build 102 = .ok (.iload 4, 2) := by decide +kernel
theorem dL_build_104 : decode cL_build 104 = .ok (.iconst 4, 1) := by decide +kernel
theorem dL_build_105 : decode cL_build 105 = .ok (.ishr, 1) := by decide +kernel
theorem dL_build_106 : decode cL_build 106 = .ok (.bipush 7, 2) := by decide +kernel
theorem dL_build_108 : decode cL_build 108 = .ok (.iand, 1) := by decide +kernel
theorem dL_build_109 : decode cL_build 109 = .ok (.iadd, 1) := by decide +kernel
theorem dL_build_110 : decode cL_build 110 = .ok (.iload 4, 2) := by decide +kernel
theorem dL_build_112 : decode cL_build 112 = .ok (.bipush 7, 2) := by decide +kernel
theorem dL_build_114 : decode cL_build 114 = .ok (.ishr, 1) := by decide +kernel
theorem dL_build_115 : decode cL_build 115 = .ok (.iconst 3, 1) := by decide +kernel
theorem dL_build_116 : decode cL_build 116 = .ok (.iand, 1) := by decide +kernel
theorem dL_build_117 : decode cL_build 117 = .ok (.invokestatic 34, 3) := by decide +kernel
theorem dL_build_120 : decode cL_build 120 = .ok (.pop, 1) := by decide +kernel
theorem dL_build_121 : decode cL_build 121 = .ok (.aload_n 1, 1) := by decide +kernel
theorem dL_build_122 : decode cL_build 122 = .ok (.iload 5, 2) := by decide +kernel
theorem dL_build_124 : decode cL_build 124 = .ok (.iload 4, 2) := by decide +kernel
theorem dL_build_126 : decode cL_build 126 = .ok (.bipush 9, 2) := by decide +kernel
theorem dL_build_128 : decode cL_build 128 = .ok (.ishr, 1) := by decide +kernel
theorem dL_build_129 : decode cL_build 129 = .ok (.iconst 3, 1) := by decide +kernel
theorem dL_build_130 : decode cL_build 130 = .ok (.iand, 1) := by decide +kernel
theorem dL_build_131 : decode cL_build 131 = .ok (.iconst 1, 1) := by decide +kernel
theorem dL_build_132 : decode cL_build 132 = .ok (.iload 4, 2) := by decide +kernel
theorem dL_build_134 : decode cL_build 134 = .ok (.iconst 4, 1) := by decide +kernel
theorem dL_build_135 : decode cL_build 135 = .ok (.ishr, 1) := by decide +kernel
theorem dL_build_136 : decode cL_build 136 = .ok (.bipush 15, 2) := by decide +kernel
theorem dL_build_138 : decode cL_build 138 = .ok (.iand, 1) := by decide +kernel
theorem dL_build_139 : decode cL_build 139 = .ok (.iadd, 1) := by decide +kernel
theorem dL_build_140 : decode cL_build 140 = .ok (.iload 4, 2) := by decide +kernel
theorem dL_build_142 : decode cL_build 142 = .ok (.bipush 8, 2) := by decide +kernel
theorem dL_build_144 : decode cL_build 144 = .ok (.ishr, 1) := by decide +kernel
theorem dL_build_145 : decode cL_build 145 = .ok (.iconst 3, 1) := by decide +kernel
theorem dL_build_146 : decode cL_build 146 = .ok (.iand, 1) := by decide +kernel
theorem dL_build_147 : decode cL_build 147 = .ok (.invokestatic 34, 3) := by decide +kernel
theorem dL_build_150 : decode cL_build 150 = .ok (.pop, 1) := by decide +kernel
theorem dL_build_151 : decode cL_build 151 = .ok (.iload 4, 2) := by decide +kernel
theorem dL_build_153 : decode cL_build 153 = .ok (.bipush 11, 2) := by decide +kernel
theorem dL_build_155 : decode cL_build 155 = .ok (.ishr, 1) := by decide +kernel
theorem dL_build_156 : decode cL_build 156 = .ok (.iconst 1, 1) := by decide +kernel
theorem dL_build_157 : decode cL_build 157 = .ok (.iand, 1) := by decide +kernel
theorem dL_build_158 : decode cL_build 158 = .ok (.ifCond .ne 66, 3) := by decide +kernel
theorem dL_build_161 : decode cL_build 161 = .ok (.aload_n 1, 1) := by decide +kernel
theorem dL_build_162 : decode cL_build 162 = .ok (.iload 5, 2) := by decide +kernel
theorem dL_build_164 : decode cL_build 164 = .ok (.invokevirtual 37, 3) := by decide +kernel
theorem dL_build_167 : decode cL_build 167 = .ok (.ifCond .eq 57, 3) := by decide +kernel
theorem dL_build_170 : decode cL_build 170 = .ok (.aload_n 1, 1) := by decide +kernel
theorem dL_build_171 : decode cL_build 171 = .ok (.iload 5, 2) := by decide +kernel
theorem dL_build_173 : decode cL_build 173 = .ok (.iload 6, 2) := by decide +kernel
theorem dL_build_175 : decode cL_build 175 = .ok (.invokevirtual 41, 3) := by decide +kernel
theorem dL_build_178 : decode cL_build 178 = .ok (.ifCond .le 46, 3) := by decide +kernel
theorem dL_build_181 : decode cL_build 181 = .ok (.aload_n 1, 1) := by decide +kernel
theorem dL_build_182 : decode cL_build 182 = .ok (.iconst 1, 1) := by decide +kernel
theorem dL_build_183 : decode cL_build 183 = .ok (.iload 5, 2) := by decide +kernel
theorem dL_build_185 : decode cL_build 185 = .ok (.iload 6, 2) := by decide +kernel
theorem dL_build_187 : decode cL_build 187 = .ok (.iload 4, 2) := by decide +kernel
theorem dL_build_189 : decode cL_build 189 = .ok (.bipush 12, 2) := by decide +kernel
theorem dL_build_191 : decode cL_build 191 = .ok (.ishr, 1) := by decide +kernel
theorem dL_build_192 : decode cL_build 192 = .ok (.iconst 3, 1) := by decide +kernel
theorem dL_build_193 : decode cL_build 193 = .ok (.iand, 1) := by decide +kernel
theorem dL_build_194 : decode cL_build 194 = .ok (.ifCond .ne 14, 3) := by decide +kernel
theorem dL_build_197 : decode cL_build 197 = .ok (.iload 4, 2) := by decide +kernel
theorem dL_build_199 : decode cL_build 199 = .ok (.bipush 14, 2) := by decide +kernel
theorem dL_build_201 : decode cL_build 201 = .ok (.ishr, 1) := by decide +kernel
theorem dL_build_202 : decode cL_build 202 = .ok (.bipush 7, 2) := by decide +kernel
theorem dL_build_204 : decode cL_build 204 = .ok (.iand, 1) := by decide +kernel
theorem dL_build_205 : decode cL_build 205 = .ok (.goto 15, 3) := by decide +kernel
theorem dL_build_208 : decode cL_build 208 = .ok (.aload_n 1, 1) := by decide +kernel
theorem dL_build_209 : decode cL_build 209 = .ok (.aload_n 1, 1) := by decide +kernel
theorem dL_build_210 : decode cL_build 210 = .ok (.iload 5, 2) := by decide +kernel
theorem dL_build_212 : decode cL_build 212 = .ok (.iload 6, 2) := by decide +kernel
theorem dL_build_214 : decode cL_build 214 = .ok (.invokevirtual 45, 3) := by decide +kernel
theorem dL_build_217 : decode cL_build 217 = .ok (.invokevirtual 48, 3) := by decide +kernel
theorem dL_build_220 : decode cL_build 220 = .ok (.invokestatic 30, 3) := by decide +kernel
theorem dL_build_223 : decode cL_build 223 = .ok (.pop, 1) := by decide +kernel
theorem dL_build_224 : decode cL_build 224 = .ok (.iload 4, 2) := by decide +kernel
theorem dL_build_226 : decode cL_build 226 = .ok (.bipush 17, 2) := by decide +kernel
theorem dL_build_228 : decode cL_build 228 = .ok (.ishr, 1) := by decide +kernel
theorem dL_build_229 : decode cL_build 229 = .ok (.iconst 3, 1) := by decide +kernel
theorem dL_build_230 : decode cL_build 230 = .ok (.iand, 1) := by decide +kernel
theorem dL_build_231 : decode cL_build 231 = .ok (.ifCond .ne 20, 3) := by decide +kernel
theorem dL_build_234 : decode cL_build 234 = .ok (.aload_n 1, 1) := by decide +kernel
theorem dL_build_235 : decode cL_build 235 = .ok (.iconst 2, 1) := by decide +kernel
theorem dL_build_236 : decode cL_build 236 = .ok (.iload 5, 2) := by decide +kernel
theorem dL_build_238 : decode cL_build 238 = .ok (.iload 6, 2) := by decide +kernel
theorem dL_build_240 : decode cL_build 240 = .ok (.iload 4, 2) := by decide +kernel
theorem dL_build_242 : decode cL_build 242 = .ok (.bipush 19, 2) := by decide +kernel
theorem dL_build_244 : decode cL_build 244 = .ok (.ishr, 1) := by decide +kernel
theorem dL_build_245 : decode cL_build 245 = .ok (.iconst 3, 1) := by decide +kernel
theorem dL_build_246 : decode cL_build 246 = .ok (.iand, 1) := by decide +kernel
theorem dL_build_247 : decode cL_build 247 = .ok (.invokestatic 30, 3) := by decide +kernel
theorem dL_build_250 : decode cL_build 250 = .ok (.pop, 1) := by decide +kernel
theorem dL_build_251 : decode cL_build 251 = .ok (.iload 4, 2) := by decide +kernel
theorem dL_build_253 : decode cL_build 253 = .ok (.bipush 17, 2) := by decide +kernel
theorem dL_build_255 : decode cL_build 255 = .ok (.ishr, 1) := by decide +kernel
theorem dL_build_256 : decode cL_build 256 = .ok (.iconst 3, 1) := by decide +kernel
theorem dL_build_257 : decode cL_build 257 = .ok (.iand, 1) := by decide +kernel
theorem dL_build_258 : decode cL_build 258 = .ok (.iconst 1, 1) := by decide +kernel
theorem dL_build_259 : decode cL_build 259 = .ok (.if_icmp .ne 35, 3) := by decide +kernel
theorem dL_build_262 : decode cL_build 262 = .ok (.aload_n 1, 1) := by decide +kernel
theorem dL_build_263 : decode cL_build 263 = .ok (.invokevirtual 52, 3) := by decide +kernel
theorem dL_build_266 : decode cL_build 266 = .ok (.ifCond .le 28, 3) := by decide +kernel
theorem dL_build_269 : decode cL_build 269 = .ok (.aload_n 1, 1) := by decide +kernel
theorem dL_build_270 : decode cL_build 270 = .ok (.iconst 3, 1) := by decide +kernel
theorem dL_build_271 : decode cL_build 271 = .ok (.aload_n 1, 1) := by decide +kernel
theorem dL_build_272 : decode cL_build 272 = .ok (.iload 4, 2) := by decide +kernel
theorem dL_build_274 : decode cL_build 274 = .ok (.bipush 19, 2) := by decide +kernel
theorem dL_build_276 : decode cL_build 276 = .ok (.ishr, 1) := by decide +kernel
theorem dL_build_277 : decode cL_build 277 = .ok (.bipush 7, 2) := by decide +kernel
theorem dL_build_279 : decode cL_build 279 = .ok (.iand, 1) := by decide +kernel
theorem dL_build_280 : decode cL_build 280 = .ok (.aload_n 1, 1) := by decide +kernel
theorem dL_build_281 : decode cL_build 281 = .ok (.invokevirtual 52, 3) := by decide +kernel
theorem dL_build_284 : decode cL_build 284 = .ok (.irem, 1) := by decide +kernel
theorem dL_build_285 : decode cL_build 285 = .ok (.invokevirtual 55, 3) := by decide +kernel
theorem dL_build_288 : decode cL_build 288 = .ok (.iconst 0, 1) := by decide +kernel
theorem dL_build_289 : decode cL_build 289 = .ok (.iconst 0, 1) := by decide +kernel
theorem dL_build_290 : decode cL_build 290 = .ok (.invokestatic 30, 3) := by decide +kernel
theorem dL_build_293 : decode cL_build 293 = .ok (.pop, 1) := by decide +kernel
theorem dL_build_294 : decode cL_build 294 = .ok (.iload 4, 2) := by decide +kernel
theorem dL_build_296 : decode cL_build 296 = .ok (.bipush 17, 2) := by decide +kernel
theorem dL_build_298 : decode cL_build 298 = .ok (.ishr, 1) := by decide +kernel
theorem dL_build_299 : decode cL_build 299 = .ok (.iconst 3, 1) := by decide +kernel
theorem dL_build_300 : decode cL_build 300 = .ok (.iand, 1) := by decide +kernel
theorem dL_build_301 : decode cL_build 301 = .ok (.iconst 2, 1) := by decide +kernel
theorem dL_build_302 : decode cL_build 302 = .ok (.if_icmp .ne 21, 3) := by decide +kernel
theorem dL_build_305 : decode cL_build 305 = .ok (.aload_n 1, 1) := by decide +kernel
theorem dL_build_306 : decode cL_build 306 = .ok (.iconst 5, 1) := by decide +kernel
theorem dL_build_307 : decode cL_build 307 = .ok (.iconst 1, 1) := by decide +kernel
theorem dL_build_308 : decode cL_build 308 = .ok (.iload 4, 2) := by decide +kernel
theorem dL_build_310 : decode cL_build 310 = .ok (.bipush 19, 2) := by decide +kernel
theorem dL_build_312 : decode cL_build 312 = .ok (.ishr, 1) := by decide +kernel
theorem dL_build_313 : decode cL_build 313 = .ok (.bipush 7, 2) := by decide +kernel
theorem dL_build_315 : decode cL_build 315 = .ok (.iand, 1) := by decide +kernel
theorem dL_build_316 : decode cL_build 316 = .ok (.iadd, 1) := by decide +kernel
theorem dL_build_317 : decode cL_build 317 = .ok (.iconst 0, 1) := by decide +kernel
theorem dL_build_318 : decode cL_build 318 = .ok (.iconst 0, 1) := by decide +kernel
theorem dL_build_319 : decode cL_build 319 = .ok (.invokestatic 30, 3) := by decide +kernel
theorem dL_build_322 : decode cL_build 322 = .ok (.pop, 1) := by decide +kernel
theorem dL_build_323 : decode cL_build 323 = .ok (.iload 4, 2) := by decide +kernel
theorem dL_build_325 : decode cL_build 325 = .ok (.bipush 22, 2) := by decide +kernel
theorem dL_build_327 : decode cL_build 327 = .ok (.ishr, 1) := by decide +kernel
theorem dL_build_328 : decode cL_build 328 = .ok (.iconst 3, 1) := by decide +kernel
theorem dL_build_329 : decode cL_build 329 = .ok (.iand, 1) := by decide +kernel
theorem dL_build_330 : decode cL_build 330 = .ok (.ifCond .ne 20, 3) := by decide +kernel
theorem dL_build_333 : decode cL_build 333 = .ok (.aload_n 1, 1) := by decide +kernel
theorem dL_build_334 : decode cL_build 334 = .ok (.iconst 4, 1) := by decide +kernel
theorem dL_build_335 : decode cL_build 335 = .ok (.iload 4, 2) := by decide +kernel
theorem dL_build_337 : decode cL_build 337 = .ok (.bipush 24, 2) := by decide +kernel
theorem dL_build_339 : decode cL_build 339 = .ok (.ishr, 1) := by decide +kernel
theorem dL_build_340 : decode cL_build 340 = .ok (.iconst 3, 1) := by decide +kernel
theorem dL_build_341 : decode cL_build 341 = .ok (.iand, 1) := by decide +kernel
theorem dL_build_342 : decode cL_build 342 = .ok (.iconst 3, 1) := by decide +kernel
theorem dL_build_343 : decode cL_build 343 = .ok (.irem, 1) := by decide +kernel
theorem dL_build_344 : decode cL_build 344 = .ok (.iconst 0, 1) := by decide +kernel
theorem dL_build_345 : decode cL_build 345 = .ok (.iconst 0, 1) := by decide +kernel
theorem dL_build_346 : decode cL_build 346 = .ok (.invokestatic 30, 3) := by decide +kernel
theorem dL_build_349 : decode cL_build 349 = .ok (.pop, 1) := by decide +kernel
theorem dL_build_350 : decode cL_build 350 = .ok (.iload 4, 2) := by decide +kernel
theorem dL_build_352 : decode cL_build 352 = .ok (.bipush 22, 2) := by decide +kernel
theorem dL_build_354 : decode cL_build 354 = .ok (.ishr, 1) := by decide +kernel
theorem dL_build_355 : decode cL_build 355 = .ok (.iconst 3, 1) := by decide +kernel
theorem dL_build_356 : decode cL_build 356 = .ok (.iand, 1) := by decide +kernel
theorem dL_build_357 : decode cL_build 357 = .ok (.iconst 1, 1) := by decide +kernel
theorem dL_build_358 : decode cL_build 358 = .ok (.if_icmp .ne 40, 3) := by decide +kernel
theorem dL_build_361 : decode cL_build 361 = .ok (.aload_n 1, 1) := by decide +kernel
theorem dL_build_362 : decode cL_build 362 = .ok (.iconst 0, 1) := by decide +kernel
theorem dL_build_363 : decode cL_build 363 = .ok (.iload 4, 2) := by decide +kernel
theorem dL_build_365 : decode cL_build 365 = .ok (.bipush 24, 2) := by decide +kernel
theorem dL_build_367 : decode cL_build 367 = .ok (.ishr, 1) := by decide +kernel
theorem dL_build_368 : decode cL_build 368 = .ok (.iconst 3, 1) := by decide +kernel
theorem dL_build_369 : decode cL_build 369 = .ok (.iand, 1) := by decide +kernel
theorem dL_build_370 : decode cL_build 370 = .ok (.iconst 3, 1) := by decide +kernel
theorem dL_build_371 : decode cL_build 371 = .ok (.irem, 1) := by decide +kernel
theorem dL_build_372 : decode cL_build 372 = .ok (.iconst 1, 1) := by decide +kernel
theorem dL_build_373 : decode cL_build 373 = .ok (.iload 4, 2) := by decide +kernel
theorem dL_build_375 : decode cL_build 375 = .ok (.bipush 26, 2) := by decide +kernel
theorem dL_build_377 : decode cL_build 377 = .ok (.ishr, 1) := by decide +kernel
theorem dL_build_378 : decode cL_build 378 = .ok (.bipush 7, 2) := by decide +kernel
theorem dL_build_380 : decode cL_build 380 = .ok (.iand, 1) := by decide +kernel
theorem dL_build_381 : decode cL_build 381 = .ok (.iadd, 1) := by decide +kernel
theorem dL_build_382 : decode cL_build 382 = .ok (.aload_n 1, 1) := by decide +kernel
theorem dL_build_383 : decode cL_build 383 = .ok (.invokevirtual 58, 3) := by decide +kernel
theorem dL_build_386 : decode cL_build 386 = .ok (.iload 4, 2) := by decide +kernel
theorem dL_build_388 : decode cL_build 388 = .ok (.iconst 5, 1) := by decide +kernel
theorem dL_build_389 : decode cL_build 389 = .ok (.ishr, 1) := by decide +kernel
theorem dL_build_390 : decode cL_build 390 = .ok (.bipush 15, 2) := by decide +kernel
theorem dL_build_392 : decode cL_build 392 = .ok (.iand, 1) := by decide +kernel
theorem dL_build_393 : decode cL_build 393 = .ok (.iadd, 1) := by decide +kernel
theorem dL_build_394 : decode cL_build 394 = .ok (.invokestatic 30, 3) := by decide +kernel
theorem dL_build_397 : decode cL_build 397 = .ok (.pop, 1) := by decide +kernel
theorem dL_build_398 : decode cL_build 398 = .ok (.iinc 3 1, 3) := by decide +kernel
theorem dL_build_401 : decode cL_build 401 = .ok (.goto (-334), 3) := by decide +kernel
theorem dL_build_404 : decode cL_build 404 = .ok (.aload_n 1, 1) := by decide +kernel
theorem dL_build_405 : decode cL_build 405 = .ok (.areturn, 1) := by decide +kernel
section GBD
variable {p : Program} {l : Launch} {e : Env} {s : State} {m : MethodId} {args : Array Value} {below : List Frame} {meth : Method} {c : Code} {H : Heap} {locs : List Loc} {cells slots : Nat} {Q : State → Prop} {E : gE} {M M' : gM} {ls : Array Slot} {b : Nat} {z k9 c0 : Int32}
abbrev bLv (E : gE) (b : Nat) (z k9 c0 : Int32) : List (Nat × Value) := [(0, .ref b), (1, .ref (E.2.1 132)), (2, .int z), (3, .int k9), (4, .int c0), (5, .int (bBe c0)), (6, .int (bSt c0))]
set_option maxRecDepth 100000 in
set_option maxHeartbeats 4000000 in
theorem bs_stow (hst : l.stackTraces = false) (hC : gC p s m args c cL_build 7 RL E) (hN : gNc s) (hr : bStow c0 M M') (hI : gI E s M () H locs) (hl : lv_has ls 7 (bLv E b z k9 c0)) (hcs : cells + 24 ≤ 3000 ∧ slots + 144 ≤ 20000)
    (kk : ∀ H1 locs1, gI E s M' () H1 locs1 → W p l e (gRX 17 420 3000 20000) s m args below meth c H1 locs1 (cells + 24) (slots + 144) Q (F0 m 151 ls [])) : W p l e (gRX 17 420 3000 20000) s m args below meth c H locs cells slots Q (F0 m 96 ls []) := by
  have hx := hC.1
  have hb := hC.2.1
  replace hl : lv_has ls 7 [(0, .ref b), (1, .ref (E.2.1 132)), (2, .int z), (3, .int k9), (4, .int c0), (5, .int (bBe c0)), (6, .int (bSt c0))] := hl
  obtain ⟨M1, ⟨oc1, hf1, ha1⟩, ⟨oc2, hf2, ha2⟩⟩ := hr
  refine lv_aload_n hx hb dL_build_96 rfl (lv_at hl 1 rfl) ?_
  refine lv_iload hx hb dL_build_97 (lv_at hl 5 rfl) ?_
  refine lv_iload hx hb dL_build_99 (lv_at hl 6 rfl) ?_
  refine lv_iconst (v := 1) hx hb dL_build_101 (by decide) ?_
  refine lv_iload hx hb dL_build_102 (lv_at hl 4 rfl) ?_
  refine lv_iconst (v := 4) hx hb dL_build_104 (by decide) ?_
  refine lv_ishr hx hb dL_build_105 ?_
  refine lv_bipush (v := 7) hx hb dL_build_106 (by decide) ?_
  refine lv_iand hx hb dL_build_108 ?_
  refine lv_iadd hx hb dL_build_109 ?_
  refine lv_iload hx hb dL_build_110 (lv_at hl 4 rfl) ?_
  refine lv_bipush (v := 7) hx hb dL_build_112 (by decide) ?_
  refine lv_ishr hx hb dL_build_114 ?_
  refine lv_iconst (v := 3) hx hb dL_build_115 (by decide) ?_
  refine lv_iand hx hb dL_build_116 ?_
  refine g_callHW (n := 5) (rest := []) hC hN hI (A_stow l hst E hf1 ha1) w1136 w0 S_L_stow w1134 ⟨⟨by decide, by decide⟩, by decide +kernel⟩ ⟨rfl, rfl⟩ ⟨Nat.le_of_ble_eq_true rfl, Nat.le_of_ble_eq_true rfl⟩ rfl hl.1 rfl (Nat.le_of_ble_eq_true rfl) dL_build_117 ⟨show cells + 4 ≤ 3000 by omega, show slots + 24 ≤ 20000 by omega⟩ (fun H locs hI => ?_)
  refine lv_pop hx hb dL_build_120 rfl ?_
  refine lv_aload_n hx hb dL_build_121 rfl (lv_at hl 1 rfl) ?_
  refine lv_iload hx hb dL_build_122 (lv_at hl 5 rfl) ?_
  refine lv_iload hx hb dL_build_124 (lv_at hl 4 rfl) ?_
  refine lv_bipush (v := 9) hx hb dL_build_126 (by decide) ?_
  refine lv_ishr hx hb dL_build_128 ?_
  refine lv_iconst (v := 3) hx hb dL_build_129 (by decide) ?_
  refine lv_iand hx hb dL_build_130 ?_
  refine lv_iconst (v := 1) hx hb dL_build_131 (by decide) ?_
  refine lv_iload hx hb dL_build_132 (lv_at hl 4 rfl) ?_
  refine lv_iconst (v := 4) hx hb dL_build_134 (by decide) ?_
  refine lv_ishr hx hb dL_build_135 ?_
  refine lv_bipush (v := 15) hx hb dL_build_136 (by decide) ?_
  refine lv_iand hx hb dL_build_138 ?_
  refine lv_iadd hx hb dL_build_139 ?_
  refine lv_iload hx hb dL_build_140 (lv_at hl 4 rfl) ?_
  refine lv_bipush (v := 8) hx hb dL_build_142 (by decide) ?_
  refine lv_ishr hx hb dL_build_144 ?_
  refine lv_iconst (v := 3) hx hb dL_build_145 (by decide) ?_
  refine lv_iand hx hb dL_build_146 ?_
  refine g_callHW (n := 5) (rest := []) hC hN hI (A_stow l hst E hf2 ha2) w1136 w0 S_L_stow w1134 ⟨⟨by decide, by decide⟩, by decide +kernel⟩ ⟨rfl, rfl⟩ ⟨Nat.le_of_ble_eq_true rfl, Nat.le_of_ble_eq_true rfl⟩ rfl hl.1 rfl (Nat.le_of_ble_eq_true rfl) dL_build_147 ⟨show cells + 4 + 4 ≤ 3000 by omega, show slots + 24 + 24 ≤ 20000 by omega⟩ (fun H locs hI => ?_)
  refine lv_pop hx hb dL_build_150 rfl ?_
  exact W.widen (show _ ≤ cells + 24 by omega) (show _ ≤ slots + 144 by omega) (kk _ _ hI)
set_option maxRecDepth 100000 in
set_option maxHeartbeats 4000000 in
theorem bs_clear (hst : l.stackTraces = false) (hC : gC p s m args c cL_build 7 RL E) (hN : gNc s) (hr : bClear c0 M M') (hI : gI E s M () H locs) (hl : lv_has ls 7 (bLv E b z k9 c0)) (hcs : cells + 24 ≤ 3000 ∧ slots + 144 ≤ 20000)
    (kk : ∀ H1 locs1, gI E s M' () H1 locs1 → W p l e (gRX 17 420 3000 20000) s m args below meth c H1 locs1 (cells + 24) (slots + 144) Q (F0 m 224 ls [])) : W p l e (gRX 17 420 3000 20000) s m args below meth c H locs cells slots Q (F0 m 151 ls []) := by
  have hx := hC.1
  have hb := hC.2.1
  replace hl : lv_has ls 7 [(0, .ref b), (1, .ref (E.2.1 132)), (2, .int z), (3, .int k9), (4, .int c0), (5, .int (bBe c0)), (6, .int (bSt c0))] := hl
  rcases hr with ⟨h1, rfl⟩ | ⟨h1, hr⟩
  · refine lv_iload hx hb dL_build_151 (lv_at hl 4 rfl) ?_
    refine lv_bipush (v := 11) hx hb dL_build_153 (by decide) ?_
    refine lv_ishr hx hb dL_build_155 ?_
    refine lv_iconst (v := 1) hx hb dL_build_156 (by decide) ?_
    refine lv_iand hx hb dL_build_157 ?_
    refine lv_if_ne (tgt := 224) hx hb dL_build_158 rfl (fun _ => ?_) (fun h => absurd h h1)
    exact W.widen (show _ ≤ cells + 24 by omega) (show _ ≤ slots + 144 by omega) (kk _ _ hI)
  · refine lv_iload hx hb dL_build_151 (lv_at hl 4 rfl) ?_
    refine lv_bipush (v := 11) hx hb dL_build_153 (by decide) ?_
    refine lv_ishr hx hb dL_build_155 ?_
    refine lv_iconst (v := 1) hx hb dL_build_156 (by decide) ?_
    refine lv_iand hx hb dL_build_157 ?_
    refine lv_if_ne (tgt := 224) hx hb dL_build_158 rfl (fun h => absurd h1 h) (fun _ => ?_)
    rcases hr with ⟨h2, rfl⟩ | ⟨h2, h, h3, hr⟩
    · refine lv_aload_n hx hb dL_build_161 rfl (lv_at hl 1 rfl) ?_
      refine lv_iload hx hb dL_build_162 (lv_at hl 5 rfl) ?_
      refine g_xVi (rest := []) hC hI (C_X6_isMoored l hst E () h2) Y_X6_isMoored V_X6_isMoored w562 (rcv_X6 hC hI) ⟨rfl, rfl⟩ ⟨Nat.le_of_ble_eq_true rfl, Nat.le_of_ble_eq_true rfl⟩ rfl hl.1 rfl (Nat.le_of_ble_eq_true rfl) dL_build_164 ⟨show cells + 1 ≤ 3000 by omega, show slots + 6 ≤ 20000 by omega⟩ (fun H locs hI => ?_)
      refine lv_if_eq (tgt := 224) hx hb dL_build_167 rfl (fun _ => ?_) (fun h => absurd rfl h)
      exact W.widen (show _ ≤ cells + 24 by omega) (show _ ≤ slots + 144 by omega) (kk _ _ hI)
    · refine lv_aload_n hx hb dL_build_161 rfl (lv_at hl 1 rfl) ?_
      refine lv_iload hx hb dL_build_162 (lv_at hl 5 rfl) ?_
      refine g_xVi (rest := []) hC hI (C_X6_isMoored l hst E () h2) Y_X6_isMoored V_X6_isMoored w562 (rcv_X6 hC hI) ⟨rfl, rfl⟩ ⟨Nat.le_of_ble_eq_true rfl, Nat.le_of_ble_eq_true rfl⟩ rfl hl.1 rfl (Nat.le_of_ble_eq_true rfl) dL_build_164 ⟨show cells + 1 ≤ 3000 by omega, show slots + 6 ≤ 20000 by omega⟩ (fun H locs hI => ?_)
      refine lv_if_eq (tgt := 224) hx hb dL_build_167 rfl (fun h => absurd h (by decide)) (fun _ => ?_)
      refine lv_aload_n hx hb dL_build_170 rfl (lv_at hl 1 rfl) ?_
      refine lv_iload hx hb dL_build_171 (lv_at hl 5 rfl) ?_
      refine lv_iload hx hb dL_build_173 (lv_at hl 6 rfl) ?_
      refine g_xVi (rest := []) hC hI (C_X6_stackHeight l hst E () h3) Y_X6_stackHeight V_X6_stackHeight w1137 (rcv_X6 hC hI) ⟨rfl, rfl⟩ ⟨Nat.le_of_ble_eq_true rfl, Nat.le_of_ble_eq_true rfl⟩ rfl hl.1 rfl (Nat.le_of_ble_eq_true rfl) dL_build_175 ⟨show cells + 1 + 3 ≤ 3000 by omega, show slots + 6 + 18 ≤ 20000 by omega⟩ (fun H locs hI => ?_)
      rcases hr with ⟨h4, rfl⟩ | ⟨h4, a, ha, oc, hf, hq⟩
      · refine lv_if_le (tgt := 224) hx hb dL_build_178 rfl (fun _ => ?_) (fun h => absurd h4 h)
        exact W.widen (show _ ≤ cells + 24 by omega) (show _ ≤ slots + 144 by omega) (kk _ _ hI)
      · refine lv_if_le (tgt := 224) hx hb dL_build_178 rfl (fun h => absurd h h4) (fun _ => ?_)
        refine lv_aload_n hx hb dL_build_181 rfl (lv_at hl 1 rfl) ?_
        refine lv_iconst (v := 1) hx hb dL_build_182 (by decide) ?_
        refine lv_iload hx hb dL_build_183 (lv_at hl 5 rfl) ?_
        refine lv_iload hx hb dL_build_185 (lv_at hl 6 rfl) ?_
        refine lv_iload hx hb dL_build_187 (lv_at hl 4 rfl) ?_
        refine lv_bipush (v := 12) hx hb dL_build_189 (by decide) ?_
        refine lv_ishr hx hb dL_build_191 ?_
        refine lv_iconst (v := 3) hx hb dL_build_192 (by decide) ?_
        refine lv_iand hx hb dL_build_193 ?_
        rcases ha with ⟨h5, rfl⟩ | ⟨h5, t, h6, h7⟩
        · refine lv_if_ne (tgt := 208) hx hb dL_build_194 rfl (fun h => absurd h5 h) (fun _ => ?_)
          refine lv_iload hx hb dL_build_197 (lv_at hl 4 rfl) ?_
          refine lv_bipush (v := 14) hx hb dL_build_199 (by decide) ?_
          refine lv_ishr hx hb dL_build_201 ?_
          refine lv_bipush (v := 7) hx hb dL_build_202 (by decide) ?_
          refine lv_iand hx hb dL_build_204 ?_
          refine lv_goto (tgt := 220) hx hb dL_build_205 rfl ?_
          refine g_callHW (n := 5) (rest := []) hC hN hI (A_clear l hst E hf hq) w1098 w0 S_L_act w1096 ⟨⟨by decide, by decide⟩, by decide +kernel⟩ ⟨rfl, rfl⟩ ⟨Nat.le_of_ble_eq_true rfl, Nat.le_of_ble_eq_true rfl⟩ rfl hl.1 rfl (Nat.le_of_ble_eq_true rfl) dL_build_220 ⟨show cells + 4 + 4 ≤ 3000 by omega, show slots + 24 + 24 ≤ 20000 by omega⟩ (fun H locs hI => ?_)
          refine lv_pop hx hb dL_build_223 rfl ?_
          exact W.widen (show _ ≤ cells + 24 by omega) (show _ ≤ slots + 144 by omega) (kk _ _ hI)
        · refine lv_if_ne (tgt := 208) hx hb dL_build_194 rfl (fun _ => ?_) (fun h => absurd h h5)
          refine lv_aload_n hx hb dL_build_208 rfl (lv_at hl 1 rfl) ?_
          refine lv_aload_n hx hb dL_build_209 rfl (lv_at hl 1 rfl) ?_
          refine lv_iload hx hb dL_build_210 (lv_at hl 5 rfl) ?_
          refine lv_iload hx hb dL_build_212 (lv_at hl 6 rfl) ?_
          refine g_xVi (rest := [.ref (E.2.1 132), .int (bSt c0), .int (bBe c0), .int 1, .ref (E.2.1 132)]) hC hI (C_X6_topOf l hst E () h6) Y_X6_topOf V_X6_topOf w626 (rcv_X6 hC hI) ⟨rfl, rfl⟩ ⟨Nat.le_of_ble_eq_true rfl, Nat.le_of_ble_eq_true rfl⟩ rfl hl.1 rfl (Nat.le_of_ble_eq_true rfl) dL_build_214 ⟨show cells + 4 + 4 ≤ 3000 by omega, show slots + 24 + 24 ≤ 20000 by omega⟩ (fun H locs hI => ?_)
          refine g_xVi (rest := [.int (bSt c0), .int (bBe c0), .int 1, .ref (E.2.1 132)]) hC hI (C_X6_answerOf l hst E () h7) Y_X6_answerOf V_X6_answerOf w671 (rcv_X6 hC hI) ⟨rfl, rfl⟩ ⟨Nat.le_of_ble_eq_true rfl, Nat.le_of_ble_eq_true rfl⟩ rfl hl.1 rfl (Nat.le_of_ble_eq_true rfl) dL_build_217 ⟨show cells + 8 + 1 ≤ 3000 by omega, show slots + 48 + 6 ≤ 20000 by omega⟩ (fun H locs hI => ?_)
          refine g_callHW (n := 5) (rest := []) hC hN hI (A_clear l hst E hf hq) w1098 w0 S_L_act w1096 ⟨⟨by decide, by decide⟩, by decide +kernel⟩ ⟨rfl, rfl⟩ ⟨Nat.le_of_ble_eq_true rfl, Nat.le_of_ble_eq_true rfl⟩ rfl hl.1 rfl (Nat.le_of_ble_eq_true rfl) dL_build_220 ⟨show cells + 9 + 4 ≤ 3000 by omega, show slots + 54 + 24 ≤ 20000 by omega⟩ (fun H locs hI => ?_)
          refine lv_pop hx hb dL_build_223 rfl ?_
          exact W.widen (show _ ≤ cells + 24 by omega) (show _ ≤ slots + 144 by omega) (kk _ _ hI)
set_option maxRecDepth 100000 in
set_option maxHeartbeats 4000000 in
theorem bs_move (hst : l.stackTraces = false) (hC : gC p s m args c cL_build 7 RL E) (hN : gNc s) (hr : bMove c0 M M') (hI : gI E s M () H locs) (hl : lv_has ls 7 (bLv E b z k9 c0)) (hcs : cells + 24 ≤ 3000 ∧ slots + 144 ≤ 20000)
    (kk : ∀ H1 locs1, gI E s M' () H1 locs1 → W p l e (gRX 17 420 3000 20000) s m args below meth c H1 locs1 (cells + 24) (slots + 144) Q (F0 m 251 ls [])) : W p l e (gRX 17 420 3000 20000) s m args below meth c H locs cells slots Q (F0 m 224 ls []) := by
  have hx := hC.1
  have hb := hC.2.1
  replace hl : lv_has ls 7 [(0, .ref b), (1, .ref (E.2.1 132)), (2, .int z), (3, .int k9), (4, .int c0), (5, .int (bBe c0)), (6, .int (bSt c0))] := hl
  rcases hr with ⟨h1, rfl⟩ | ⟨h1, oc, hf, hq⟩
  · refine lv_iload hx hb dL_build_224 (lv_at hl 4 rfl) ?_
    refine lv_bipush (v := 17) hx hb dL_build_226 (by decide) ?_
    refine lv_ishr hx hb dL_build_228 ?_
    refine lv_iconst (v := 3) hx hb dL_build_229 (by decide) ?_
    refine lv_iand hx hb dL_build_230 ?_
    refine lv_if_ne (tgt := 251) hx hb dL_build_231 rfl (fun _ => ?_) (fun h => absurd h h1)
    exact W.widen (show _ ≤ cells + 24 by omega) (show _ ≤ slots + 144 by omega) (kk _ _ hI)
  · refine lv_iload hx hb dL_build_224 (lv_at hl 4 rfl) ?_
    refine lv_bipush (v := 17) hx hb dL_build_226 (by decide) ?_
    refine lv_ishr hx hb dL_build_228 ?_
    refine lv_iconst (v := 3) hx hb dL_build_229 (by decide) ?_
    refine lv_iand hx hb dL_build_230 ?_
    refine lv_if_ne (tgt := 251) hx hb dL_build_231 rfl (fun h => absurd h1 h) (fun _ => ?_)
    refine lv_aload_n hx hb dL_build_234 rfl (lv_at hl 1 rfl) ?_
    refine lv_iconst (v := 2) hx hb dL_build_235 (by decide) ?_
    refine lv_iload hx hb dL_build_236 (lv_at hl 5 rfl) ?_
    refine lv_iload hx hb dL_build_238 (lv_at hl 6 rfl) ?_
    refine lv_iload hx hb dL_build_240 (lv_at hl 4 rfl) ?_
    refine lv_bipush (v := 19) hx hb dL_build_242 (by decide) ?_
    refine lv_ishr hx hb dL_build_244 ?_
    refine lv_iconst (v := 3) hx hb dL_build_245 (by decide) ?_
    refine lv_iand hx hb dL_build_246 ?_
    refine g_callHW (n := 5) (rest := []) hC hN hI (A_move l hst E hf hq) w1098 w0 S_L_act w1096 ⟨⟨by decide, by decide⟩, by decide +kernel⟩ ⟨rfl, rfl⟩ ⟨Nat.le_of_ble_eq_true rfl, Nat.le_of_ble_eq_true rfl⟩ rfl hl.1 rfl (Nat.le_of_ble_eq_true rfl) dL_build_247 ⟨show cells + 4 ≤ 3000 by omega, show slots + 24 ≤ 20000 by omega⟩ (fun H locs hI => ?_)
    refine lv_pop hx hb dL_build_250 rfl ?_
    exact W.widen (show _ ≤ cells + 24 by omega) (show _ ≤ slots + 144 by omega) (kk _ _ hI)
set_option maxRecDepth 100000 in
set_option maxHeartbeats 4000000 in
theorem bs_del (hst : l.stackTraces = false) (hC : gC p s m args c cL_build 7 RL E) (hN : gNc s) (hr : bDel c0 M M') (hI : gI E s M () H locs) (hl : lv_has ls 7 (bLv E b z k9 c0)) (hcs : cells + 24 ≤ 3000 ∧ slots + 144 ≤ 20000)
    (kk : ∀ H1 locs1, gI E s M' () H1 locs1 → W p l e (gRX 17 420 3000 20000) s m args below meth c H1 locs1 (cells + 24) (slots + 144) Q (F0 m 294 ls [])) : W p l e (gRX 17 420 3000 20000) s m args below meth c H locs cells slots Q (F0 m 251 ls []) := by
  have hx := hC.1
  have hb := hC.2.1
  replace hl : lv_has ls 7 [(0, .ref b), (1, .ref (E.2.1 132)), (2, .int z), (3, .int k9), (4, .int c0), (5, .int (bBe c0)), (6, .int (bSt c0))] := hl
  rcases hr with ⟨h1, rfl⟩ | ⟨h1, n, h2, hr⟩
  · refine lv_iload hx hb dL_build_251 (lv_at hl 4 rfl) ?_
    refine lv_bipush (v := 17) hx hb dL_build_253 (by decide) ?_
    refine lv_ishr hx hb dL_build_255 ?_
    refine lv_iconst (v := 3) hx hb dL_build_256 (by decide) ?_
    refine lv_iand hx hb dL_build_257 ?_
    refine lv_iconst (v := 1) hx hb dL_build_258 (by decide) ?_
    refine lv_icmp_ne (tgt := 294) hx hb dL_build_259 rfl (fun _ => ?_) (fun h => absurd h h1)
    exact W.widen (show _ ≤ cells + 24 by omega) (show _ ≤ slots + 144 by omega) (kk _ _ hI)
  · refine lv_iload hx hb dL_build_251 (lv_at hl 4 rfl) ?_
    refine lv_bipush (v := 17) hx hb dL_build_253 (by decide) ?_
    refine lv_ishr hx hb dL_build_255 ?_
    refine lv_iconst (v := 3) hx hb dL_build_256 (by decide) ?_
    refine lv_iand hx hb dL_build_257 ?_
    refine lv_iconst (v := 1) hx hb dL_build_258 (by decide) ?_
    refine lv_icmp_ne (tgt := 294) hx hb dL_build_259 rfl (fun h => absurd h1 h) (fun _ => ?_)
    refine lv_aload_n hx hb dL_build_262 rfl (lv_at hl 1 rfl) ?_
    refine g_callVi (rest := []) hC hI (C_X6_yardCount l E () h2) Y_X6_yardCount V_X6_yardCount w778 (rcv_X6 hC hI) ⟨rfl, rfl⟩ ⟨Nat.le_of_ble_eq_true rfl, Nat.le_of_ble_eq_true rfl⟩ rfl hl.1 rfl (Nat.le_of_ble_eq_true rfl) dL_build_263 ⟨show cells + 0 ≤ 3000 by omega, show slots + 0 ≤ 20000 by omega⟩ (fun H locs hI => ?_)
    rcases hr with ⟨h3, rfl⟩ | ⟨h3, id, h4, oc, hf, hq⟩
    · refine lv_if_le (tgt := 294) hx hb dL_build_266 rfl (fun _ => ?_) (fun h => absurd h3 h)
      exact W.widen (show _ ≤ cells + 24 by omega) (show _ ≤ slots + 144 by omega) (kk _ _ hI)
    · refine lv_if_le (tgt := 294) hx hb dL_build_266 rfl (fun h => absurd h h3) (fun _ => ?_)
      refine lv_aload_n hx hb dL_build_269 rfl (lv_at hl 1 rfl) ?_
      refine lv_iconst (v := 3) hx hb dL_build_270 (by decide) ?_
      refine lv_aload_n hx hb dL_build_271 rfl (lv_at hl 1 rfl) ?_
      refine lv_iload hx hb dL_build_272 (lv_at hl 4 rfl) ?_
      refine lv_bipush (v := 19) hx hb dL_build_274 (by decide) ?_
      refine lv_ishr hx hb dL_build_276 ?_
      refine lv_bipush (v := 7) hx hb dL_build_277 (by decide) ?_
      refine lv_iand hx hb dL_build_279 ?_
      refine lv_aload_n hx hb dL_build_280 rfl (lv_at hl 1 rfl) ?_
      refine g_callVi (rest := [.int ((sr c0 19) &&& 7), .ref (E.2.1 132), .int 3, .ref (E.2.1 132)]) hC hI (C_X6_yardCount l E () h2) Y_X6_yardCount V_X6_yardCount w778 (rcv_X6 hC hI) ⟨rfl, rfl⟩ ⟨Nat.le_of_ble_eq_true rfl, Nat.le_of_ble_eq_true rfl⟩ rfl hl.1 rfl (Nat.le_of_ble_eq_true rfl) dL_build_281 ⟨show cells + 0 ≤ 3000 by omega, show slots + 0 ≤ 20000 by omega⟩ (fun H locs hI => ?_)
      refine lv_irem hx hb dL_build_284 (fun q => h3 (by rw [q]; exact Int32.le_refl _)) ?_
      refine g_xVi (rest := [.int 3, .ref (E.2.1 132)]) hC hI (C_X6_yardAt l hst E () h4) Y_X6_yardAt V_X6_yardAt w782 (rcv_X6 hC hI) ⟨rfl, rfl⟩ ⟨Nat.le_of_ble_eq_true rfl, Nat.le_of_ble_eq_true rfl⟩ rfl hl.1 rfl (Nat.le_of_ble_eq_true rfl) dL_build_285 ⟨show cells + 1 ≤ 3000 by omega, show slots + 6 ≤ 20000 by omega⟩ (fun H locs hI => ?_)
      refine lv_iconst (v := 0) hx hb dL_build_288 (by decide) ?_
      refine lv_iconst (v := 0) hx hb dL_build_289 (by decide) ?_
      refine g_callHW (n := 5) (rest := []) hC hN hI (A_deliver l hst E (v2 := 0) (v3 := 0) hf hq) w1098 w0 S_L_act w1096 ⟨⟨by decide, by decide⟩, by decide +kernel⟩ ⟨rfl, rfl⟩ ⟨Nat.le_of_ble_eq_true rfl, Nat.le_of_ble_eq_true rfl⟩ rfl hl.1 rfl (Nat.le_of_ble_eq_true rfl) dL_build_290 ⟨show cells + 1 + 4 ≤ 3000 by omega, show slots + 6 + 24 ≤ 20000 by omega⟩ (fun H locs hI => ?_)
      refine lv_pop hx hb dL_build_293 rfl ?_
      exact W.widen (show _ ≤ cells + 24 by omega) (show _ ≤ slots + 144 by omega) (kk _ _ hI)
set_option maxRecDepth 100000 in
set_option maxHeartbeats 4000000 in
theorem bs_pass (hst : l.stackTraces = false) (hC : gC p s m args c cL_build 7 RL E) (hN : gNc s) (hr : bPass c0 M M') (hI : gI E s M () H locs) (hl : lv_has ls 7 (bLv E b z k9 c0)) (hcs : cells + 24 ≤ 3000 ∧ slots + 144 ≤ 20000)
    (kk : ∀ H1 locs1, gI E s M' () H1 locs1 → W p l e (gRX 17 420 3000 20000) s m args below meth c H1 locs1 (cells + 24) (slots + 144) Q (F0 m 323 ls [])) : W p l e (gRX 17 420 3000 20000) s m args below meth c H locs cells slots Q (F0 m 294 ls []) := by
  have hx := hC.1
  have hb := hC.2.1
  replace hl : lv_has ls 7 [(0, .ref b), (1, .ref (E.2.1 132)), (2, .int z), (3, .int k9), (4, .int c0), (5, .int (bBe c0)), (6, .int (bSt c0))] := hl
  rcases hr with ⟨h1, rfl⟩ | ⟨h1, oc, hf, hq⟩
  · refine lv_iload hx hb dL_build_294 (lv_at hl 4 rfl) ?_
    refine lv_bipush (v := 17) hx hb dL_build_296 (by decide) ?_
    refine lv_ishr hx hb dL_build_298 ?_
    refine lv_iconst (v := 3) hx hb dL_build_299 (by decide) ?_
    refine lv_iand hx hb dL_build_300 ?_
    refine lv_iconst (v := 2) hx hb dL_build_301 (by decide) ?_
    refine lv_icmp_ne (tgt := 323) hx hb dL_build_302 rfl (fun _ => ?_) (fun h => absurd h h1)
    exact W.widen (show _ ≤ cells + 24 by omega) (show _ ≤ slots + 144 by omega) (kk _ _ hI)
  · refine lv_iload hx hb dL_build_294 (lv_at hl 4 rfl) ?_
    refine lv_bipush (v := 17) hx hb dL_build_296 (by decide) ?_
    refine lv_ishr hx hb dL_build_298 ?_
    refine lv_iconst (v := 3) hx hb dL_build_299 (by decide) ?_
    refine lv_iand hx hb dL_build_300 ?_
    refine lv_iconst (v := 2) hx hb dL_build_301 (by decide) ?_
    refine lv_icmp_ne (tgt := 323) hx hb dL_build_302 rfl (fun h => absurd h1 h) (fun _ => ?_)
    refine lv_aload_n hx hb dL_build_305 rfl (lv_at hl 1 rfl) ?_
    refine lv_iconst (v := 5) hx hb dL_build_306 (by decide) ?_
    refine lv_iconst (v := 1) hx hb dL_build_307 (by decide) ?_
    refine lv_iload hx hb dL_build_308 (lv_at hl 4 rfl) ?_
    refine lv_bipush (v := 19) hx hb dL_build_310 (by decide) ?_
    refine lv_ishr hx hb dL_build_312 ?_
    refine lv_bipush (v := 7) hx hb dL_build_313 (by decide) ?_
    refine lv_iand hx hb dL_build_315 ?_
    refine lv_iadd hx hb dL_build_316 ?_
    refine lv_iconst (v := 0) hx hb dL_build_317 (by decide) ?_
    refine lv_iconst (v := 0) hx hb dL_build_318 (by decide) ?_
    refine g_callHW (n := 5) (rest := []) hC hN hI (A_pass l hst E hf hq) w1098 w0 S_L_act w1096 ⟨⟨by decide, by decide⟩, by decide +kernel⟩ ⟨rfl, rfl⟩ ⟨Nat.le_of_ble_eq_true rfl, Nat.le_of_ble_eq_true rfl⟩ rfl hl.1 rfl (Nat.le_of_ble_eq_true rfl) dL_build_319 ⟨show cells + 4 ≤ 3000 by omega, show slots + 24 ≤ 20000 by omega⟩ (fun H locs hI => ?_)
    refine lv_pop hx hb dL_build_322 rfl ?_
    exact W.widen (show _ ≤ cells + 24 by omega) (show _ ≤ slots + 144 by omega) (kk _ _ hI)
set_option maxRecDepth 100000 in
set_option maxHeartbeats 4000000 in
theorem bs_leave (hst : l.stackTraces = false) (hC : gC p s m args c cL_build 7 RL E) (hN : gNc s) (hr : bLeave c0 M M') (hI : gI E s M () H locs) (hl : lv_has ls 7 (bLv E b z k9 c0)) (hcs : cells + 24 ≤ 3000 ∧ slots + 144 ≤ 20000)
    (kk : ∀ H1 locs1, gI E s M' () H1 locs1 → W p l e (gRX 17 420 3000 20000) s m args below meth c H1 locs1 (cells + 24) (slots + 144) Q (F0 m 350 ls [])) : W p l e (gRX 17 420 3000 20000) s m args below meth c H locs cells slots Q (F0 m 323 ls []) := by
  have hx := hC.1
  have hb := hC.2.1
  replace hl : lv_has ls 7 [(0, .ref b), (1, .ref (E.2.1 132)), (2, .int z), (3, .int k9), (4, .int c0), (5, .int (bBe c0)), (6, .int (bSt c0))] := hl
  rcases hr with ⟨h1, rfl⟩ | ⟨h1, oc, hf, hq⟩
  · refine lv_iload hx hb dL_build_323 (lv_at hl 4 rfl) ?_
    refine lv_bipush (v := 22) hx hb dL_build_325 (by decide) ?_
    refine lv_ishr hx hb dL_build_327 ?_
    refine lv_iconst (v := 3) hx hb dL_build_328 (by decide) ?_
    refine lv_iand hx hb dL_build_329 ?_
    refine lv_if_ne (tgt := 350) hx hb dL_build_330 rfl (fun _ => ?_) (fun h => absurd h h1)
    exact W.widen (show _ ≤ cells + 24 by omega) (show _ ≤ slots + 144 by omega) (kk _ _ hI)
  · refine lv_iload hx hb dL_build_323 (lv_at hl 4 rfl) ?_
    refine lv_bipush (v := 22) hx hb dL_build_325 (by decide) ?_
    refine lv_ishr hx hb dL_build_327 ?_
    refine lv_iconst (v := 3) hx hb dL_build_328 (by decide) ?_
    refine lv_iand hx hb dL_build_329 ?_
    refine lv_if_ne (tgt := 350) hx hb dL_build_330 rfl (fun h => absurd h1 h) (fun _ => ?_)
    refine lv_aload_n hx hb dL_build_333 rfl (lv_at hl 1 rfl) ?_
    refine lv_iconst (v := 4) hx hb dL_build_334 (by decide) ?_
    refine lv_iload hx hb dL_build_335 (lv_at hl 4 rfl) ?_
    refine lv_bipush (v := 24) hx hb dL_build_337 (by decide) ?_
    refine lv_ishr hx hb dL_build_339 ?_
    refine lv_iconst (v := 3) hx hb dL_build_340 (by decide) ?_
    refine lv_iand hx hb dL_build_341 ?_
    refine lv_iconst (v := 3) hx hb dL_build_342 (by decide) ?_
    refine lv_irem hx hb dL_build_343 (by decide) ?_
    refine lv_iconst (v := 0) hx hb dL_build_344 (by decide) ?_
    refine lv_iconst (v := 0) hx hb dL_build_345 (by decide) ?_
    refine g_callHW (n := 5) (rest := []) hC hN hI (A_leave l hst E hf hq) w1098 w0 S_L_act w1096 ⟨⟨by decide, by decide⟩, by decide +kernel⟩ ⟨rfl, rfl⟩ ⟨Nat.le_of_ble_eq_true rfl, Nat.le_of_ble_eq_true rfl⟩ rfl hl.1 rfl (Nat.le_of_ble_eq_true rfl) dL_build_346 ⟨show cells + 4 ≤ 3000 by omega, show slots + 24 ≤ 20000 by omega⟩ (fun H locs hI => ?_)
    refine lv_pop hx hb dL_build_349 rfl ?_
    exact W.widen (show _ ≤ cells + 24 by omega) (show _ ≤ slots + 144 by omega) (kk _ _ hI)
set_option maxRecDepth 100000 in
set_option maxHeartbeats 4000000 in
theorem bs_moor (hst : l.stackTraces = false) (hC : gC p s m args c cL_build 7 RL E) (hN : gNc s) (hr : bMoor c0 M M') (hI : gI E s M () H locs) (hl : lv_has ls 7 (bLv E b z k9 c0)) (hcs : cells + 24 ≤ 3000 ∧ slots + 144 ≤ 20000)
    (kk : ∀ H1 locs1, gI E s M' () H1 locs1 → W p l e (gRX 17 420 3000 20000) s m args below meth c H1 locs1 (cells + 24) (slots + 144) Q (F0 m 398 ls [])) : W p l e (gRX 17 420 3000 20000) s m args below meth c H locs cells slots Q (F0 m 350 ls []) := by
  have hx := hC.1
  have hb := hC.2.1
  replace hl : lv_has ls 7 [(0, .ref b), (1, .ref (E.2.1 132)), (2, .int z), (3, .int k9), (4, .int c0), (5, .int (bBe c0)), (6, .int (bSt c0))] := hl
  rcases hr with ⟨h1, rfl⟩ | ⟨h1, u, h2, oc, hf, hq⟩
  · refine lv_iload hx hb dL_build_350 (lv_at hl 4 rfl) ?_
    refine lv_bipush (v := 22) hx hb dL_build_352 (by decide) ?_
    refine lv_ishr hx hb dL_build_354 ?_
    refine lv_iconst (v := 3) hx hb dL_build_355 (by decide) ?_
    refine lv_iand hx hb dL_build_356 ?_
    refine lv_iconst (v := 1) hx hb dL_build_357 (by decide) ?_
    refine lv_icmp_ne (tgt := 398) hx hb dL_build_358 rfl (fun _ => ?_) (fun h => absurd h h1)
    exact W.widen (show _ ≤ cells + 24 by omega) (show _ ≤ slots + 144 by omega) (kk _ _ hI)
  · refine lv_iload hx hb dL_build_350 (lv_at hl 4 rfl) ?_
    refine lv_bipush (v := 22) hx hb dL_build_352 (by decide) ?_
    refine lv_ishr hx hb dL_build_354 ?_
    refine lv_iconst (v := 3) hx hb dL_build_355 (by decide) ?_
    refine lv_iand hx hb dL_build_356 ?_
    refine lv_iconst (v := 1) hx hb dL_build_357 (by decide) ?_
    refine lv_icmp_ne (tgt := 398) hx hb dL_build_358 rfl (fun h => absurd h1 h) (fun _ => ?_)
    refine lv_aload_n hx hb dL_build_361 rfl (lv_at hl 1 rfl) ?_
    refine lv_iconst (v := 0) hx hb dL_build_362 (by decide) ?_
    refine lv_iload hx hb dL_build_363 (lv_at hl 4 rfl) ?_
    refine lv_bipush (v := 24) hx hb dL_build_365 (by decide) ?_
    refine lv_ishr hx hb dL_build_367 ?_
    refine lv_iconst (v := 3) hx hb dL_build_368 (by decide) ?_
    refine lv_iand hx hb dL_build_369 ?_
    refine lv_iconst (v := 3) hx hb dL_build_370 (by decide) ?_
    refine lv_irem hx hb dL_build_371 (by decide) ?_
    refine lv_iconst (v := 1) hx hb dL_build_372 (by decide) ?_
    refine lv_iload hx hb dL_build_373 (lv_at hl 4 rfl) ?_
    refine lv_bipush (v := 26) hx hb dL_build_375 (by decide) ?_
    refine lv_ishr hx hb dL_build_377 ?_
    refine lv_bipush (v := 7) hx hb dL_build_378 (by decide) ?_
    refine lv_iand hx hb dL_build_380 ?_
    refine lv_iadd hx hb dL_build_381 ?_
    refine lv_aload_n hx hb dL_build_382 rfl (lv_at hl 1 rfl) ?_
    refine g_callVi (rest := [.int (1 + ((sr c0 26) &&& 7)), .int (((sr c0 24) &&& 3) - ((sr c0 24) &&& 3) / 3 * 3), .int 0, .ref (E.2.1 132)]) hC hI (C_X6_hour l E () h2) Y_X6_hour V_X6_hour w1141 (rcv_X6 hC hI) ⟨rfl, rfl⟩ ⟨Nat.le_of_ble_eq_true rfl, Nat.le_of_ble_eq_true rfl⟩ rfl hl.1 rfl (Nat.le_of_ble_eq_true rfl) dL_build_383 ⟨show cells + 0 ≤ 3000 by omega, show slots + 0 ≤ 20000 by omega⟩ (fun H locs hI => ?_)
    refine lv_iload hx hb dL_build_386 (lv_at hl 4 rfl) ?_
    refine lv_iconst (v := 5) hx hb dL_build_388 (by decide) ?_
    refine lv_ishr hx hb dL_build_389 ?_
    refine lv_bipush (v := 15) hx hb dL_build_390 (by decide) ?_
    refine lv_iand hx hb dL_build_392 ?_
    refine lv_iadd hx hb dL_build_393 ?_
    refine g_callHW (n := 5) (rest := []) hC hN hI (A_moor l hst E hf hq) w1098 w0 S_L_act w1096 ⟨⟨by decide, by decide⟩, by decide +kernel⟩ ⟨rfl, rfl⟩ ⟨Nat.le_of_ble_eq_true rfl, Nat.le_of_ble_eq_true rfl⟩ rfl hl.1 rfl (Nat.le_of_ble_eq_true rfl) dL_build_394 ⟨show cells + 4 ≤ 3000 by omega, show slots + 24 ≤ 20000 by omega⟩ (fun H locs hI => ?_)
    refine lv_pop hx hb dL_build_397 rfl ?_
    exact W.widen (show _ ≤ cells + 24 by omega) (show _ ≤ slots + 144 by omega) (kk _ _ hI)
end GBD
