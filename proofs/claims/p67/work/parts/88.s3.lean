/-! The law's state: one number for all that a terminal shows; laid by wip/p67/gen/law67g.py. -/
theorem w1316 : Cond.selects RJx35411 ⟨"java/util/Iterator", "hasNext", "()Z"⟩ yJx35411_hasNext_aae02 ∈ gU := gT 1316 (by decide +kernel) rfl
theorem w1325 : Cond.selects RJx35411 ⟨"java/util/Iterator", "next", "()Ljava/lang/Object;"⟩ yJx35411_next_0502b ∈ gU := gT 1325 (by decide +kernel) rfl
section STL
variable {p : Program} {l : Launch} {e : Env} {R : Room} {s : State} {m : MethodId} {args : Array Value} {below : List Frame} {meth : Method} {c : Code} {H : Heap} {locs : List Loc} {cells slots mc ms : Nat} {Q : State → Prop}
variable {D : va_G} {cid : Nat → ClassId} {J : jA} {A : Nat → Prop} {cc : ByteArray} {own : String} {nL pc : Nat} {wc : va_W} {bx bx0 : List Nat} {ls : Array Slot} {rest st0 As : List Value}
variable {α : Type} {x y : MethodName} {bytes : ByteArray} {maxL n index count : Nat} {ret : Option FieldType} {rm : Room} {post : Option Value → α → Prop} {Z : α → va_W}
/-- a call by an interface -/
theorem j_callF (X : va_W) (hC : jC p s m args c cc nL own D cid J A bx0) (hI : jI D s A (X ++ wc) H locs) {b : Nat} {C : String} {cC : ClassId} (hat : ClassAt s C cC) (hM : jM l D cid J y (.code y bytes maxL ret) rm (.ref b :: As) wc bx mc ms post Z) (hbx : ∀ y ∈ bx, jBx s H y ∧ ¬ va_A wc H.size y) (hy : gY y bytes maxL ret n) (hi : Cond.instanceMethod y ∈ gU) (hsel : Cond.selects C x y ∈ gU) (hl : Cond.methodLink own index x ∈ gU) (hF : va_Fw C x y s) (hd : x.cls ≠ "java/lang/invoke/MethodHandle" ∧ x.cls ≠ "java/lang/invoke/VarHandle" ∧ (parseMethodDescriptor x.desc).map (fun d => d.parameters.length) = some n)
    (hr : ∃ cell : Cell, H[b]? = some cell ∧ cell.vm.isStatics = false ∧ s.vm.findClass C = some cell.cls) (h0 : rm.cells = mc ∧ rm.slots = ms) (hR : rm.frames + 1 ≤ R.frames ∧ 8 + (maxL + 11) + rm.locals ≤ R.locals)
    (hn : As.length = n) (hls : ls.size = nL) (hst : st0 = As.reverse ++ .ref b :: rest) (hW : (rest.map fun v => v.category).sum ≤ 8) (hdg : decode cc pc = .ok (.invokeinterface index count, 5)) (hcs : cells + mc ≤ R.cells ∧ slots + ms ≤ R.slots)
    (kk : ∀ rv u H1 locs1, post rv u → jI D s A (X ++ Z u) H1 locs1 → W p l e R s m args below meth c H1 locs1 (cells + mc) (slots + ms) Q (F0 m (pc + 5) ls (rv.toList ++ rest))) : W p l e R s m args below meth c H locs cells slots Q (F0 m pc ls st0) := by
  have hC' := hC
  obtain ⟨⟨hx, hb, hml, hown, hts, hK⟩, -, hAn, -⟩ := hC'
  have cw : va_CI R s args own C index x y bytes maxL ret (gWs (.code y bytes maxL ret)) rm mc ms n := by
    refine ⟨⟨h0.1, h0.2, hR.1, hR.2, pay_in hts (gGoodW hy.1), List.mem_cons_self⟩, hts _ hl, va_any rfl hF.1, va_any rfl hF.2.1, hts _ hsel, hts _ hi, va_any rfl hF.2.2.1, va_any rfl hF.2.2.2.1, va_any rfl hF.2.2.2.2, hts _ hy.2.1, hts _ hy.1, ⟨hd.1, hd.2.1⟩, fun sig h => ?_⟩
    have h2 := hd.2.2
    rw [h] at h2
    exact (Option.some.inj h2).symm
  have hrun := va_runF (p := p) (l := l) (e := e) (R := R) (below := below) (meth := meth) (c := c) (locs := locs) (cells := cells) (slots := slots) (As := As) (rest := rest) (g := F0 m pc ls st0) hat ⟨hx, hb, hml, hown, hts⟩ (hM H.size) cw ⟨j_blind D cid J wc bx H.size _, hr, fun U hU hW => ⟨rfl, j_pre hC hI hbx hU hW⟩⟩ rfl hn hls hst (lv_room hW) hdg hcs
  intro T hT X0
  obtain ⟨v, st₀, t, T', L, e0, X', hL, e1, e2, ⟨⟨rv, u, hv, hp, hP1, hD1⟩, hz, hk⟩, st⟩ := hrun T hT X0
  cases hv
  rw [e0] at hz hk
  rw [← e1] at hz hP1
  have hk' : ∀ a : Nat, a < H.size → ¬ va_A wc H.size a → T'.heap[a]? = H[a]? := fun a h1 h2 => by rw [e1]; exact hk a h1 h2
  have hA := jA_in hAn hI
  obtain ⟨j1, j2⟩ := j_join hI.1 hI.2.1 hk' hA hP1 hD1
  obtain ⟨t2, a1, b1⟩ := kk v u T'.heap (locs ++ L) hp ⟨j1, j2, Nat.le_trans hI.2.2.1 hz, fun q h1 h2 => by rw [hk' q (Nat.lt_of_lt_of_le h1 hI.2.2.1) (fun h => h2 (hA q h))]; exact hI.2.2.2.1 q h1 h2, fun q hq => by
    rcases List.mem_append.mp hq with h | h
    · exact hI.2.2.2.2 q h
    · exact hA _ (hL q h)⟩ T' rfl X'
  exact ⟨t2, st t2 a1, b1⟩
end STL
theorem jFw_hn {s : State} (h : ∀ w ∈ jFw, va_Nw w s) : va_Fw "java/util/ArrayList$Itr" ⟨"java/util/Iterator", "hasNext", "()Z"⟩ yJx35411_hasNext_aae02 s := ⟨h _ (by decide +kernel), h _ (by decide +kernel), h _ (by decide +kernel), h _ (by decide +kernel), h _ (by decide +kernel)⟩
theorem jFw_nx {s : State} (h : ∀ w ∈ jFw, va_Nw w s) : va_Fw "java/util/ArrayList$Itr" ⟨"java/util/Iterator", "next", "()Ljava/lang/Object;"⟩ yJx35411_next_0502b s := ⟨h _ (by decide +kernel), h _ (by decide +kernel), h _ (by decide +kernel), h _ (by decide +kernel), h _ (by decide +kernel)⟩
/-- what state asks, and its answer out of it -/
def svI (n : Nat → Nat → Nat) (ids : Nat → Nat → Nat → Int32) (wt ky : Int32 → Int32) (b k : Nat) : Nat → Nat → Int32 → Int32
  | 0, _, v => v
  | d + 1, j, v => svI n ids wt ky b k d (j + 1) (31 * (31 * v + ids b k j) + 100 * wt (ids b k j) + ky (ids b k j) + nI k)
def svK (n : Nat → Nat → Nat) (ids : Nat → Nat → Nat → Int32) (wt ky : Int32 → Int32) (b : Nat) : Nat → Nat → Int32 → Int32
  | 0, _, v => v
  | d + 1, k, v => svK n ids wt ky b d (k + 1) (svI n ids wt ky b k (n b k) 0 v)
def svC (bf : Nat → Nat → Int32) (mo : Nat → Bool) (b : Nat) (v : Int32) : Int32 := 31 * (31 * (31 * v + bf b 0) + bf b 1) + (if mo b then 1 + bf b 2 + 10 * bf b 3 else 0)
def svB (bf : Nat → Nat → Int32) (mo : Nat → Bool) (n : Nat → Nat → Nat) (ids : Nat → Nat → Nat → Int32) (wt ky : Int32 → Int32) : Nat → Nat → Int32 → Int32
  | 0, _, v => v
  | d + 1, b, v => svB bf mo n ids wt ky d (b + 1) (svK n ids wt ky b 4 0 (svC bf mo b v))
def svY (yi : Nat → Int32) (wt ky : Int32 → Int32) : Nat → Nat → Int32 → Int32
  | 0, _, v => v
  | d + 1, j, v => svY yi wt ky d (j + 1) (31 * (31 * v + yi j) + 100 * wt (yi j) + ky (yi j))
def sv0 (g : Nat → Int32) : Int32 := 31 * (31 * (31 * (31 * g 0 + g 1) + g 2) + g 3) + g 4
def svAll (g : Nat → Int32) (bf : Nat → Nat → Int32) (mo : Nat → Bool) (n : Nat → Nat → Nat) (ids : Nat → Nat → Nat → Int32) (yn : Nat) (yi : Nat → Int32) (wt ky : Int32 → Int32) : Int32 := svY yi wt ky yn 0 (svB bf mo n ids wt ky 3 0 (sv0 g))
def svW (M : gM) (wt ky : Int32 → Int32) (i : Int32) : Prop := f_X6_weightOf i M = some (.inr (wt i), M) ∧ f_X6_keyOf i M = some (.inr (ky i), M)
def svBe (M : gM) (bf : Nat → Nat → Int32) (mo : Nat → Bool) (b : Nat) : Prop := f_X6_lockedHours (nI b) M = some (.inr (bf b 0), M) ∧ f_X6_wrongAnswers (nI b) M = some (.inr (bf b 1), M) ∧ f_X6_isMoored (nI b) M = some (.inr (mo b), M) ∧
  (mo b = true → f_X6_draught (nI b) M = some (.inr (bf b 2), M) ∧ f_X6_dueHour (nI b) M = some (.inr (bf b 3), M))
def svH (g : Nat → Int32) (bf : Nat → Nat → Int32) (mo : Nat → Bool) (n : Nat → Nat → Nat) (ids : Nat → Nat → Nat → Int32) (yn : Nat) (yi : Nat → Int32) (wt ky : Int32 → Int32) (M : gM) : Prop :=
  (f_X6_hour M = some (g 0) ∧ f_X6_fees M = some (g 1) ∧ f_X6_clearedTotal M = some (g 2) ∧ f_X6_deliveredTotal M = some (g 3) ∧ f_X6_wrongTotal M = some (g 4)) ∧
  (∀ b, b < 3 → svBe M bf mo b ∧ ∀ k, k < 4 → stkH (nI b) (nI k) (n b k) (ids b k) M ∧ ∀ j, j < n b k → svW M wt ky (ids b k j)) ∧ yrdH yn yi M ∧ ∀ j, j < yn → svW M wt ky (yi j)
theorem dL_state_0 : decode cL_state 0 = .ok (.bipush 31, 2) := by decide +kernel
theorem dL_state_2 : decode cL_state 2 = .ok (.bipush 31, 2) := by decide +kernel
theorem dL_state_4 : decode cL_state 4 = .ok (.bipush 31, 2) := by decide +kernel
theorem dL_state_6 : decode cL_state 6 = .ok (.bipush 31, 2) := by decide +kernel
theorem dL_state_8 : decode cL_state 8 = .ok (.aload_n 0, 1) := by decide +kernel
theorem dL_state_9 : decode cL_state 9 = .ok (.invokevirtual 58, 3) := by decide +kernel
theorem dL_state_12 : decode cL_state 12 = .ok (.imul, 1) := by decide +kernel
theorem dL_state_13 : decode cL_state 13 = .ok (.aload_n 0, 1) := by decide +kernel
theorem dL_state_14 : decode cL_state 14 = .ok (.invokevirtual 126, 3) := by decide +kernel
theorem dL_state_17 : decode cL_state 17 = .ok (.iadd, 1) := by decide +kernel
theorem dL_state_18 : decode cL_state 18 = .ok (.imul, 1) := by decide +kernel
theorem dL_state_19 : decode cL_state 19 = .ok (.aload_n 0, 1) := by decide +kernel
theorem dL_state_20 : decode cL_state 20 = .ok (.invokevirtual 129, 3) := by decide +kernel
theorem dL_state_23 : decode cL_state 23 = .ok (.iadd, 1) := by decide +kernel
theorem dL_state_24 : decode cL_state 24 = .ok (.imul, 1) := by decide +kernel
theorem dL_state_25 : decode cL_state 25 = .ok (.aload_n 0, 1) := by decide +kernel
theorem dL_state_26 : decode cL_state 26 = .ok (.invokevirtual 132, 3) := by decide +kernel
theorem dL_state_29 : decode cL_state 29 = .ok (.iadd, 1) := by decide +kernel
theorem dL_state_30 : decode cL_state 30 = .ok (.imul, 1) := by decide +kernel
theorem dL_state_31 : decode cL_state 31 = .ok (.aload_n 0, 1) := by decide +kernel
theorem dL_state_32 : decode cL_state 32 = .ok (.invokevirtual 135, 3) := by decide +kernel
theorem dL_state_35 : decode cL_state 35 = .ok (.iadd, 1) := by decide +kernel
theorem dL_state_36 : decode cL_state 36 = .ok (.istore_n 1, 1) := by decide +kernel
theorem dL_state_37 : decode cL_state 37 = .ok (.iconst 0, 1) := by decide +kernel
theorem dL_state_38 : decode cL_state 38 = .ok (.istore_n 2, 1) := by decide +kernel
theorem dL_state_39 : decode cL_state 39 = .ok (.iload_n 2, 1) := by decide +kernel
theorem dL_state_40 : decode cL_state 40 = .ok (.iconst 3, 1) := by decide +kernel
theorem dL_state_41 : decode cL_state 41 = .ok (.if_icmp .ge 140, 3) := by decide +kernel
theorem dL_state_44 : decode cL_state 44 = .ok (.bipush 31, 2) := by decide +kernel
theorem dL_state_46 : decode cL_state 46 = .ok (.bipush 31, 2) := by decide +kernel
theorem dL_state_48 : decode cL_state 48 = .ok (.bipush 31, 2) := by decide +kernel
theorem dL_state_50 : decode cL_state 50 = .ok (.iload_n 1, 1) := by decide +kernel
theorem dL_state_51 : decode cL_state 51 = .ok (.imul, 1) := by decide +kernel
theorem dL_state_52 : decode cL_state 52 = .ok (.aload_n 0, 1) := by decide +kernel
theorem dL_state_53 : decode cL_state 53 = .ok (.iload_n 2, 1) := by decide +kernel
theorem dL_state_54 : decode cL_state 54 = .ok (.invokevirtual 138, 3) := by decide +kernel
theorem dL_state_57 : decode cL_state 57 = .ok (.iadd, 1) := by decide +kernel
theorem dL_state_58 : decode cL_state 58 = .ok (.imul, 1) := by decide +kernel
theorem dL_state_59 : decode cL_state 59 = .ok (.aload_n 0, 1) := by decide +kernel
theorem dL_state_60 : decode cL_state 60 = .ok (.iload_n 2, 1) := by decide +kernel
theorem dL_state_61 : decode cL_state 61 = .ok (.invokevirtual 141, 3) := by decide +kernel
theorem dL_state_64 : decode cL_state 64 = .ok (.iadd, 1) := by decide +kernel
theorem dL_state_65 : decode cL_state 65 = .ok (.imul, 1) := by decide +kernel
theorem dL_state_66 : decode cL_state 66 = .ok (.aload_n 0, 1) := by decide +kernel
theorem dL_state_67 : decode cL_state 67 = .ok (.iload_n 2, 1) := by decide +kernel
theorem dL_state_68 : decode cL_state 68 = .ok (.invokevirtual 37, 3) := by decide +kernel
theorem dL_state_71 : decode cL_state 71 = .ok (.ifCond .eq 22, 3) := by decide +kernel
theorem dL_state_74 : decode cL_state 74 = .ok (.iconst 1, 1) := by decide +kernel
theorem dL_state_75 : decode cL_state 75 = .ok (.aload_n 0, 1) := by decide +kernel
theorem dL_state_76 : decode cL_state 76 = .ok (.iload_n 2, 1) := by decide +kernel
theorem dL_state_77 : decode cL_state 77 = .ok (.invokevirtual 144, 3) := by decide +kernel
theorem dL_state_80 : decode cL_state 80 = .ok (.iadd, 1) := by decide +kernel
theorem dL_state_81 : decode cL_state 81 = .ok (.bipush 10, 2) := by decide +kernel
theorem dL_state_83 : decode cL_state 83 = .ok (.aload_n 0, 1) := by decide +kernel
theorem dL_state_84 : decode cL_state 84 = .ok (.iload_n 2, 1) := by decide +kernel
theorem dL_state_85 : decode cL_state 85 = .ok (.invokevirtual 147, 3) := by decide +kernel
theorem dL_state_88 : decode cL_state 88 = .ok (.imul, 1) := by decide +kernel
theorem dL_state_89 : decode cL_state 89 = .ok (.iadd, 1) := by decide +kernel
theorem dL_state_90 : decode cL_state 90 = .ok (.goto 4, 3) := by decide +kernel
theorem dL_state_93 : decode cL_state 93 = .ok (.iconst 0, 1) := by decide +kernel
theorem dL_state_94 : decode cL_state 94 = .ok (.iadd, 1) := by decide +kernel
theorem dL_state_95 : decode cL_state 95 = .ok (.istore_n 1, 1) := by decide +kernel
theorem dL_state_96 : decode cL_state 96 = .ok (.iconst 0, 1) := by decide +kernel
theorem dL_state_97 : decode cL_state 97 = .ok (.istore_n 3, 1) := by decide +kernel
theorem dL_state_98 : decode cL_state 98 = .ok (.iload_n 3, 1) := by decide +kernel
theorem dL_state_99 : decode cL_state 99 = .ok (.iconst 4, 1) := by decide +kernel
theorem dL_state_100 : decode cL_state 100 = .ok (.if_icmp .ge 75, 3) := by decide +kernel
theorem dL_state_103 : decode cL_state 103 = .ok (.aload_n 0, 1) := by decide +kernel
theorem dL_state_104 : decode cL_state 104 = .ok (.iload_n 2, 1) := by decide +kernel
theorem dL_state_105 : decode cL_state 105 = .ok (.iload_n 3, 1) := by decide +kernel
theorem dL_state_106 : decode cL_state 106 = .ok (.invokestatic 107, 3) := by decide +kernel
theorem dL_state_109 : decode cL_state 109 = .ok (.astore 4, 2) := by decide +kernel
theorem dL_state_111 : decode cL_state 111 = .ok (.aload 4, 2) := by decide +kernel
theorem dL_state_113 : decode cL_state 113 = .ok (.arraylength, 1) := by decide +kernel
theorem dL_state_114 : decode cL_state 114 = .ok (.istore 5, 2) := by decide +kernel
theorem dL_state_116 : decode cL_state 116 = .ok (.iconst 0, 1) := by decide +kernel
theorem dL_state_117 : decode cL_state 117 = .ok (.istore 6, 2) := by decide +kernel
theorem dL_state_119 : decode cL_state 119 = .ok (.iload 6, 2) := by decide +kernel
theorem dL_state_121 : decode cL_state 121 = .ok (.iload 5, 2) := by decide +kernel
theorem dL_state_123 : decode cL_state 123 = .ok (.if_icmp .ge 46, 3) := by decide +kernel
theorem dL_state_126 : decode cL_state 126 = .ok (.aload 4, 2) := by decide +kernel
theorem dL_state_128 : decode cL_state 128 = .ok (.iload 6, 2) := by decide +kernel
theorem dL_state_130 : decode cL_state 130 = .ok (.iaload, 1) := by decide +kernel
theorem dL_state_131 : decode cL_state 131 = .ok (.istore 7, 2) := by decide +kernel
theorem dL_state_133 : decode cL_state 133 = .ok (.bipush 31, 2) := by decide +kernel
theorem dL_state_135 : decode cL_state 135 = .ok (.bipush 31, 2) := by decide +kernel
theorem dL_state_137 : decode cL_state 137 = .ok (.iload_n 1, 1) := by decide +kernel
theorem dL_state_138 : decode cL_state 138 = .ok (.imul, 1) := by decide +kernel
theorem dL_state_139 : decode cL_state 139 = .ok (.iload 7, 2) := by decide +kernel
theorem dL_state_141 : decode cL_state 141 = .ok (.iadd, 1) := by decide +kernel
theorem dL_state_142 : decode cL_state 142 = .ok (.imul, 1) := by decide +kernel
theorem dL_state_143 : decode cL_state 143 = .ok (.bipush 100, 2) := by decide +kernel
theorem dL_state_145 : decode cL_state 145 = .ok (.aload_n 0, 1) := by decide +kernel
theorem dL_state_146 : decode cL_state 146 = .ok (.iload 7, 2) := by decide +kernel
theorem dL_state_148 : decode cL_state 148 = .ok (.invokevirtual 150, 3) := by decide +kernel
theorem dL_state_151 : decode cL_state 151 = .ok (.imul, 1) := by decide +kernel
theorem dL_state_152 : decode cL_state 152 = .ok (.iadd, 1) := by decide +kernel
theorem dL_state_153 : decode cL_state 153 = .ok (.aload_n 0, 1) := by decide +kernel
theorem dL_state_154 : decode cL_state 154 = .ok (.iload 7, 2) := by decide +kernel
theorem dL_state_156 : decode cL_state 156 = .ok (.invokevirtual 153, 3) := by decide +kernel
theorem dL_state_159 : decode cL_state 159 = .ok (.iadd, 1) := by decide +kernel
theorem dL_state_160 : decode cL_state 160 = .ok (.iload_n 3, 1) := by decide +kernel
theorem dL_state_161 : decode cL_state 161 = .ok (.iadd, 1) := by decide +kernel
theorem dL_state_162 : decode cL_state 162 = .ok (.istore_n 1, 1) := by decide +kernel
theorem dL_state_163 : decode cL_state 163 = .ok (.iinc 6 1, 3) := by decide +kernel
theorem dL_state_166 : decode cL_state 166 = .ok (.goto (-47), 3) := by decide +kernel
theorem dL_state_169 : decode cL_state 169 = .ok (.iinc 3 1, 3) := by decide +kernel
theorem dL_state_172 : decode cL_state 172 = .ok (.goto (-74), 3) := by decide +kernel
theorem dL_state_175 : decode cL_state 175 = .ok (.iinc 2 1, 3) := by decide +kernel
theorem dL_state_178 : decode cL_state 178 = .ok (.goto (-139), 3) := by decide +kernel
theorem dL_state_181 : decode cL_state 181 = .ok (.aload_n 0, 1) := by decide +kernel
theorem dL_state_182 : decode cL_state 182 = .ok (.invokestatic 156, 3) := by decide +kernel
theorem dL_state_185 : decode cL_state 185 = .ok (.invokevirtual 160, 3) := by decide +kernel
theorem dL_state_188 : decode cL_state 188 = .ok (.astore_n 2, 1) := by decide +kernel
theorem dL_state_189 : decode cL_state 189 = .ok (.aload_n 2, 1) := by decide +kernel
theorem dL_state_190 : decode cL_state 190 = .ok (.invokeinterface 164 1, 5) := by decide +kernel
theorem dL_state_195 : decode cL_state 195 = .ok (.ifCond .eq 44, 3) := by decide +kernel
theorem dL_state_198 : decode cL_state 198 = .ok (.aload_n 2, 1) := by decide +kernel
theorem dL_state_199 : decode cL_state 199 = .ok (.invokeinterface 170 1, 5) := by decide +kernel
theorem dL_state_204 : decode cL_state 204 = .ok (.checkcast 112, 3) := by decide +kernel
theorem dL_state_207 : decode cL_state 207 = .ok (.invokevirtual 174, 3) := by decide +kernel
theorem dL_state_210 : decode cL_state 210 = .ok (.istore_n 3, 1) := by decide +kernel
theorem dL_state_211 : decode cL_state 211 = .ok (.bipush 31, 2) := by decide +kernel
theorem dL_state_213 : decode cL_state 213 = .ok (.bipush 31, 2) := by decide +kernel
theorem dL_state_215 : decode cL_state 215 = .ok (.iload_n 1, 1) := by decide +kernel
theorem dL_state_216 : decode cL_state 216 = .ok (.imul, 1) := by decide +kernel
theorem dL_state_217 : decode cL_state 217 = .ok (.iload_n 3, 1) := by decide +kernel
theorem dL_state_218 : decode cL_state 218 = .ok (.iadd, 1) := by decide +kernel
theorem dL_state_219 : decode cL_state 219 = .ok (.imul, 1) := by decide +kernel
theorem dL_state_220 : decode cL_state 220 = .ok (.bipush 100, 2) := by decide +kernel
theorem dL_state_222 : decode cL_state 222 = .ok (.aload_n 0, 1) := by decide +kernel
theorem dL_state_223 : decode cL_state 223 = .ok (.iload_n 3, 1) := by decide +kernel
theorem dL_state_224 : decode cL_state 224 = .ok (.invokevirtual 150, 3) := by decide +kernel
theorem dL_state_227 : decode cL_state 227 = .ok (.imul, 1) := by decide +kernel
theorem dL_state_228 : decode cL_state 228 = .ok (.iadd, 1) := by decide +kernel
theorem dL_state_229 : decode cL_state 229 = .ok (.aload_n 0, 1) := by decide +kernel
theorem dL_state_230 : decode cL_state 230 = .ok (.iload_n 3, 1) := by decide +kernel
theorem dL_state_231 : decode cL_state 231 = .ok (.invokevirtual 153, 3) := by decide +kernel
theorem dL_state_234 : decode cL_state 234 = .ok (.iadd, 1) := by decide +kernel
theorem dL_state_235 : decode cL_state 235 = .ok (.istore_n 1, 1) := by decide +kernel
theorem dL_state_236 : decode cL_state 236 = .ok (.goto (-47), 3) := by decide +kernel
theorem dL_state_239 : decode cL_state 239 = .ok (.iload_n 1, 1) := by decide +kernel
theorem dL_state_240 : decode cL_state 240 = .ok (.ireturn, 1) := by decide +kernel
section GST
variable {p : Program} {l : Launch} {e : Env} {s : State} {m : MethodId} {args : Array Value} {below : List Frame} {meth : Method} {c : Code} {H : Heap} {locs : List Loc} {cells slots : Nat} {Q : State → Prop} {E : gE} {M : gM} {J : jA} {ls : Array Slot}
variable {g : Nat → Int32} {bf : Nat → Nat → Int32} {mo : Nat → Bool} {n : Nat → Nat → Nat} {ids : Nat → Nat → Nat → Int32} {yn : Nat} {yi : Nat → Int32} {wt ky : Int32 → Int32} {R : Room} {cc : ByteArray} {own : String} {nL pc : Nat} {rest : List Value}
/-- what a helper that makes cells finds -/
theorem s_pre (hC : sC p s m args c cc nL own E J) {ws : va_W} (hI : eI E s M ws H locs) {U : State} (hU : U.heap = H) (hW : s.WarmedH U.vm) : sPre E M J H.size U := by
  refine ⟨by rw [hU], eW_at hC.1.2.2.2.2.2 hI hU hW, hC.2.1.2.2.2.2.2.warm hW, ?_⟩
  subst hU
  exact ((hC.2.2.1.kept hI.2.2.2.1).warm hW).narrow (fun q h => h.imp id (fun h => Nat.le_trans hI.2.2.1 h))
theorem s_blind (E : gE) (M : gM) (J : jA) (sz : Nat) (As : List Value) : FrameBlind (va_Pc As (sPre E M J sz)) := fun a U g mk h =>
  ⟨h.1, h.2.1, (gblind E M () As a U g mk ⟨h.1, h.2.2.1⟩).2, iK.same (s := U) (U := U.calling g mk a) rfl h.2.2.2.1, gJ.same (s := U) (U := U.calling g mk a) rfl h.2.2.2.2⟩
/-- new cells behind a terminal's -/
theorem s_back {ws : va_W} {H1 : Heap} {L : List Loc} (hI : eI E s M [] H locs) (hP : va_P E.1 vwCl (gwl E M ()) H1) (hz : H.size ≤ H1.size) (hk : ∀ a : Nat, a < H.size → ¬ gA E a → H1[a]? = H[a]?) (hL : ∀ q ∈ L, eA E H.size q.base) (hw : va_P E.1 vwCl ws H1) (hd : va_D (fun a => H.size ≤ a) ws) : eI E s M ws H1 (locs ++ L) := by
  have h0 : jI E.1 s (eA E s.heap.size) (gwl E M ()) H locs := by rw [← gwl_nil E M]; exact hI
  refine ⟨va_P.app hP hw, va_D.app h0.2.1 (hd.weaken (fun _ _ _ h => Or.inr (Nat.le_trans h0.2.2.1 h))) (fun i j y z hy hz2 e9 => ?_), Nat.le_trans h0.2.2.1 hz, fun a h1 h2 => ?_, fun q hq => ?_⟩
  · have h1 := (h0.1 i y hy).lt
    have h2 := hd.2 j z hz2
    omega
  · rw [hk a (Nat.lt_of_lt_of_le h1 h0.2.2.1) (fun h => h2 (Or.inl h))]
    exact h0.2.2.2.1 a h1 h2
  · rcases List.mem_append.mp hq with h | h
    · exact h0.2.2.2.2 q h
    · exact (hL q h).imp id (fun h => Nat.le_trans h0.2.2.1 h)
theorem s_callStk (hst : l.stackTraces = false) (hC : sC p s m args c cL_state 8 RL E J) {v u : Int32} {n0 : Nat} {i0 : Nat → Int32} (h : stkH v u n0 i0 M) (hI : eI E s M [] H locs) (hls : ls.size = 8) (hcs : cells + 40 ≤ 1000 ∧ slots + 200 ≤ 6000)
    (kk : ∀ (q : Nat) (f : Nat → Int32) (H1 : Heap) (locs1 : List Loc), (∀ k, k < n0 → f k = i0 k) → eI E s M [(q, .inl (E.2.2.1 0, n0, .inl f))] H1 locs1 → W p l e (gRX 20 500 1000 6000) s m args below meth c H1 locs1 (cells + 40) (slots + 200) Q (F0 m 109 ls [.ref q])) : W p l e (gRX 20 500 1000 6000) s m args below meth c H locs cells slots Q (F0 m 106 ls [.int u, .int v, .ref (E.2.1 132)]) := by
  have cb := gXB (R := (gRX 20 500 1000 6000)) hC.1 Y_L_stack w1156 (rm := (gRX 12 230 40 200)) ⟨rfl, rfl⟩ ⟨Nat.le_of_ble_eq_true rfl, Nat.le_of_ble_eq_true rfl⟩
  have hC' := hC
  obtain ⟨⟨hx, hb, hml, hown, hts, hS0⟩, -⟩ := hC'
  have hr := va_runS (p := p) (l := l) (e := e) (R := (gRX 20 500 1000 6000)) (below := below) (meth := meth) (c := c) (locs := locs) (cells := cells) (slots := slots) (As := [.ref (E.2.1 132), .int v, .int u]) (rest := []) (g := F0 m 106 ls [.int u, .int v, .ref (E.2.1 132)]) ⟨hx, hb, hml, hown, hts⟩ (C_stack l hst E J h H.size) ⟨cb, hts _ S_L_stack⟩ ⟨s_blind E M J H.size _, fun U hU hW => ⟨rfl, s_pre hC hI hU hW⟩⟩ rfl rfl hls rfl (lv_room (Nat.le_of_ble_eq_true rfl)) dL_state_106 hcs
  intro T hT X
  obtain ⟨v9, st₀, t, T', L, h0, X', hL, e1, e2, ⟨⟨q, f, hv, hf, hg, hq, hqz⟩, hz, hk⟩, st⟩ := hr T hT X
  cases hv
  rw [h0] at hz hk hqz
  rw [← e1] at hz hk hq
  have hd1 : ∀ (k : Nat) (z : Nat × va_E), ([(q, (.inl (E.2.2.1 0, n0, .inl f) : va_E))] : va_W)[k]? = some z → k = 0 ∧ z = (q, .inl (E.2.2.1 0, n0, .inl f)) := fun k z hz9 => by
    have h1 : k < 1 := (List.getElem?_eq_some_iff.mp hz9).1
    obtain rfl : k = 0 := by omega
    cases hz9
    exact ⟨rfl, rfl⟩
  obtain ⟨t2, a1, b1⟩ := kk q f T'.heap (locs ++ L) hf (s_back hI (by rw [e1]; exact hg.1) hz hk hL (fun k z hz9 => by obtain ⟨rfl, rfl⟩ := hd1 k z hz9; exact hq) ⟨fun i j y z hi hj _ => by rw [(hd1 i y hi).1, (hd1 j z hj).1], fun k z hz9 => by obtain ⟨rfl, rfl⟩ := hd1 k z hz9; exact hqz⟩) T' rfl X'
  exact ⟨t2, st t2 a1, b1⟩
theorem s_callYrd (hst : l.stackTraces = false) (hC : sC p s m args c cL_state 8 RL E J) {n0 : Nat} {i0 : Nat → Int32} (h : yrdH n0 i0 M) (hI : eI E s M [] H locs) (hls : ls.size = 8) (hcs : cells + 80 ≤ 1000 ∧ slots + 800 ≤ 6000)
    (kk : ∀ (q r cap : Nat) (f : Nat → Option Nat) (B : va_W) (H1 : Heap) (locs1 : List Loc), lsH J n0 i0 cap f B → eI E s M (lsW J E.2.2.1 q n0 r cap f B) H1 locs1 → W p l e (gRX 20 500 1000 6000) s m args below meth c H1 locs1 (cells + 80) (slots + 800) Q (F0 m 185 ls [.ref q])) : W p l e (gRX 20 500 1000 6000) s m args below meth c H locs cells slots Q (F0 m 182 ls [.ref (E.2.1 132)]) := by
  have cb := gXB (R := (gRX 20 500 1000 6000)) hC.1 Y_L_inYard w1173 (rm := (gRX 14 320 80 800)) ⟨rfl, rfl⟩ ⟨Nat.le_of_ble_eq_true rfl, Nat.le_of_ble_eq_true rfl⟩
  have hC' := hC
  obtain ⟨⟨hx, hb, hml, hown, hts, hS0⟩, -⟩ := hC'
  have hr := va_runS (p := p) (l := l) (e := e) (R := (gRX 20 500 1000 6000)) (below := below) (meth := meth) (c := c) (locs := locs) (cells := cells) (slots := slots) (As := [.ref (E.2.1 132)]) (rest := []) (g := F0 m 182 ls [.ref (E.2.1 132)]) ⟨hx, hb, hml, hown, hts⟩ (C_inYard l hst E J h H.size) ⟨cb, hts _ S_L_inYard⟩ ⟨s_blind E M J H.size _, fun U hU hW => ⟨rfl, s_pre hC hI hU hW⟩⟩ rfl rfl hls rfl (lv_room (Nat.le_of_ble_eq_true rfl)) dL_state_182 hcs
  intro T hT X
  obtain ⟨v9, st₀, t, T', L, h0, X', hL, e1, e2, ⟨⟨q, r, cap, f, B, hv, hls9, hg, hw, hd⟩, hz, hk⟩, st⟩ := hr T hT X
  cases hv
  rw [h0] at hz hk hd
  rw [← e1] at hz hk hw
  obtain ⟨t2, a1, b1⟩ := kk q r cap f B T'.heap (locs ++ L) hls9 (s_back hI (by rw [e1]; exact hg.1) hz hk hL hw hd) T' rfl X'
  exact ⟨t2, st t2 a1, b1⟩
set_option maxRecDepth 100000 in
set_option maxHeartbeats 4000000 in
theorem st_inner (hst : l.stackTraces = false) (hC : sC p s m args c cL_state 8 RL E J) {b k q : Nat} {V : Int32} {f : Nat → Int32} (hn : n b k ≤ 5) (hf : ∀ j, j < n b k → f j = ids b k j) (hw : ∀ j, j < n b k → svW M wt ky (ids b k j)) (hcs : cells + 10 ≤ 1000 ∧ slots + 60 ≤ 6000)
    (kv : ∀ (w : Int32) (H : Heap) (locs : List Loc) (ls : Array Slot), w = V → eI E s M [(q, .inl (E.2.2.1 0, n b k, .inl f))] H locs → lv_has ls 8 [(1, .int w), (0, .ref (E.2.1 132)), (2, .int (nI b)), (3, .int (nI k))] → W p l e (gRX 20 500 1000 6000) s m args below meth c H locs (cells + 2 * n b k) (slots + 12 * n b k) Q (F0 m 169 ls [])) :
    ∀ (d j : Nat) (v : Int32) (H : Heap) (locs : List Loc) (ls : Array Slot), j + d = n b k → svI n ids wt ky b k d j v = V → eI E s M [(q, .inl (E.2.2.1 0, n b k, .inl f))] H locs → lv_has ls 8 [(6, .int (nI j)), (1, .int v), (0, .ref (E.2.1 132)), (2, .int (nI b)), (3, .int (nI k)), (4, .ref q), (5, .int (nI (n b k)))] → W p l e (gRX 20 500 1000 6000) s m args below meth c H locs (cells + 2 * j) (slots + 12 * j) Q (F0 m 119 ls []) := by
  intro d
  induction d with
  | zero =>
    intro j v H locs ls hj hV hI hl
    have ej : j = n b k := by omega
    have hx := hC.1.1
    have hb := hC.1.2.1
    refine lv_iload hx hb dL_state_119 (lv_at hl 0 rfl) ?_
    refine lv_iload hx hb dL_state_121 (lv_at hl 6 rfl) ?_
    refine lv_icmp_ge (tgt := 169) hx hb dL_state_123 rfl (fun _ => ?_) (fun h => absurd (show nI (n b k) ≤ nI j by rw [ej]; exact Int32.le_refl _) h)
    have hr := kv v H locs ls hV hI (lv_sub hl [1, 2, 3, 4] rfl)
    rw [ej]
    exact hr
  | succ d ih =>
    intro j v H locs ls hj hV hI hl
    have hx := hC.1.1
    have hb := hC.1.2.1
    have hK := hC.2.1.2.2.2.2.2.1
    have hlt : j < n b k := by omega
    obtain ⟨hw1, hw2⟩ := hw j hlt
    refine lv_iload hx hb dL_state_119 (lv_at hl 0 rfl) ?_
    refine lv_iload hx hb dL_state_121 (lv_at hl 6 rfl) ?_
    refine lv_icmp_ge (tgt := 169) hx hb dL_state_123 rfl (fun h => absurd h (nI_ge hlt (by omega))) (fun _ => ?_)
    refine lv_aload hx hb dL_state_126 (lv_at hl 5 rfl) ?_
    refine lv_iload hx hb dL_state_128 (lv_at hl 0 rfl) ?_
    refine va_iald hx hb hK hI.1 142 0 e_get0 rfl (vp_in_nI hlt (by omega)) dL_state_130 ?_
    refine g_top (v := ids b k j) (by rw [nI_clamp (by omega)]; exact (hf j hlt).symm) ?_
    refine lv_istore (lv' := [(7, .int (ids b k j)), (6, .int (nI j)), (1, .int v), (0, .ref (E.2.1 132)), (2, .int (nI b)), (3, .int (nI k)), (4, .ref q), (5, .int (nI (n b k)))]) hx hb dL_state_131 hl (by decide) rfl (fun ls hl => ?_)
    refine lv_bipush (v := 31) hx hb dL_state_133 (by decide) ?_
    refine lv_bipush (v := 31) hx hb dL_state_135 (by decide) ?_
    refine lv_iload_n hx hb dL_state_137 rfl (lv_at hl 2 rfl) ?_
    refine lv_imul hx hb dL_state_138 ?_
    refine lv_iload hx hb dL_state_139 (lv_at hl 0 rfl) ?_
    refine lv_iadd hx hb dL_state_141 ?_
    refine lv_imul hx hb dL_state_142 ?_
    refine lv_bipush (v := 100) hx hb dL_state_143 (by decide) ?_
    refine lv_aload_n hx hb dL_state_145 rfl (lv_at hl 3 rfl) ?_
    refine lv_iload hx hb dL_state_146 (lv_at hl 0 rfl) ?_
    refine e_callX (rest := [.int 100, .int (31 * ((31 * v) + (ids b k j)))]) hC.1 hI (C_X6_weightOf l hst E () hw1) Y_X6_weightOf V_X6_weightOf w1163 (e_recv6 hC.1 hI) ⟨rfl, rfl⟩ ⟨Nat.le_of_ble_eq_true rfl, Nat.le_of_ble_eq_true rfl⟩ rfl hl.1 rfl (Nat.le_of_ble_eq_true rfl) dL_state_148 ⟨show cells + 2 * j + 1 ≤ 1000 by omega, show slots + 12 * j + 6 ≤ 6000 by omega⟩ (fun H locs hI => ?_)
    refine lv_imul hx hb dL_state_151 ?_
    refine lv_iadd hx hb dL_state_152 ?_
    refine lv_aload_n hx hb dL_state_153 rfl (lv_at hl 3 rfl) ?_
    refine lv_iload hx hb dL_state_154 (lv_at hl 0 rfl) ?_
    refine e_callX (rest := [.int ((31 * ((31 * v) + (ids b k j))) + (100 * (wt (ids b k j))))]) hC.1 hI (C_X6_keyOf l hst E () hw2) Y_X6_keyOf V_X6_keyOf w1168 (e_recv6 hC.1 hI) ⟨rfl, rfl⟩ ⟨Nat.le_of_ble_eq_true rfl, Nat.le_of_ble_eq_true rfl⟩ rfl hl.1 rfl (Nat.le_of_ble_eq_true rfl) dL_state_156 ⟨show cells + 2 * j + 1 + 1 ≤ 1000 by omega, show slots + 12 * j + 6 + 6 ≤ 6000 by omega⟩ (fun H locs hI => ?_)
    refine lv_iadd hx hb dL_state_159 ?_
    refine lv_iload_n hx hb dL_state_160 rfl (lv_at hl 5 rfl) ?_
    refine lv_iadd hx hb dL_state_161 ?_
    obtain ⟨v1, hv1⟩ : ∃ v1, v1 = ((((31 * ((31 * v) + (ids b k j))) + (100 * (wt (ids b k j)))) + (ky (ids b k j))) + (nI k)) := ⟨_, rfl⟩
    refine g_top (v := v1) hv1 ?_
    refine lv_istore_n (lv' := [(1, .int v1), (7, .int (ids b k j)), (6, .int (nI j)), (0, .ref (E.2.1 132)), (2, .int (nI b)), (3, .int (nI k)), (4, .ref q), (5, .int (nI (n b k)))]) hx hb dL_state_162 rfl hl (by decide) rfl (fun ls hl => ?_)
    refine lv_iinc (k := 2) (v := nI (j + 1)) (lv' := [(6, .int (nI (j + 1))), (1, .int v1), (7, .int (ids b k j)), (0, .ref (E.2.1 132)), (2, .int (nI b)), (3, .int (nI k)), (4, .ref q), (5, .int (nI (n b k)))]) hx hb dL_state_163 hl rfl (by rw [nI_succ]; rfl) (by decide) rfl (fun ls hl => ?_)
    refine lv_goto (tgt := 119) hx hb dL_state_166 (by decide) ?_
    exact ih (j + 1) v1 H locs ls (by omega) (by rw [hv1]; exact hV) hI (lv_sub hl [0, 1, 3, 4, 5, 6, 7] rfl)
set_option maxRecDepth 100000 in
set_option maxHeartbeats 4000000 in
theorem st_stacks (hst : l.stackTraces = false) (hC : sC p s m args c cL_state 8 RL E J) {b : Nat} {V : Int32} (hb3 : b < 3) (hs : ∀ k, k < 4 → stkH (nI b) (nI k) (n b k) (ids b k) M ∧ ∀ j, j < n b k → svW M wt ky (ids b k j)) (hcs : cells + 200 ≤ 1000 ∧ slots + 1040 ≤ 6000)
    (kv : ∀ (w : Int32) (H : Heap) (locs : List Loc) (ls : Array Slot), w = V → eI E s M [] H locs → lv_has ls 8 [(1, .int w), (0, .ref (E.2.1 132)), (2, .int (nI b))] → W p l e (gRX 20 500 1000 6000) s m args below meth c H locs (cells + 200) (slots + 1040) Q (F0 m 175 ls [])) :
    ∀ (d k : Nat) (v : Int32) (H : Heap) (locs : List Loc) (ls : Array Slot), k + d = 4 → svK n ids wt ky b d k v = V → eI E s M [] H locs → lv_has ls 8 [(1, .int v), (0, .ref (E.2.1 132)), (2, .int (nI b)), (3, .int (nI k))] → W p l e (gRX 20 500 1000 6000) s m args below meth c H locs (cells + 50 * k) (slots + 260 * k) Q (F0 m 98 ls []) := by
  intro d
  induction d with
  | zero =>
    intro k v H locs ls hk hV hI hl
    obtain rfl : k = 4 := by omega
    have hx := hC.1.1
    have hb := hC.1.2.1
    refine lv_iload_n hx hb dL_state_98 rfl (lv_at hl 3 rfl) ?_
    refine lv_iconst (v := 4) hx hb dL_state_99 (by decide) ?_
    refine lv_icmp_ge (tgt := 175) hx hb dL_state_100 rfl (fun _ => ?_) (fun h => absurd (by decide) h)
    exact kv v H locs ls hV hI (lv_sub hl [0, 1, 2] rfl)
  | succ d ih =>
    intro k v H locs ls hk hV hI hl
    have hx := hC.1.1
    have hb := hC.1.2.1
    have hK := hC.2.1.2.2.2.2.2.1
    have hlt : k < 4 := by omega
    obtain ⟨hs1, hs2⟩ := hs k hlt
    have hn5 := hs1.1
    refine lv_iload_n hx hb dL_state_98 rfl (lv_at hl 3 rfl) ?_
    refine lv_iconst (v := 4) hx hb dL_state_99 (by decide) ?_
    refine lv_icmp_ge (tgt := 175) hx hb dL_state_100 rfl (fun h => absurd h (show ¬ nI 4 ≤ nI k from nI_ge hlt (by omega))) (fun _ => ?_)
    refine lv_aload_n hx hb dL_state_103 rfl (lv_at hl 1 rfl) ?_
    refine lv_iload_n hx hb dL_state_104 rfl (lv_at hl 2 rfl) ?_
    refine lv_iload_n hx hb dL_state_105 rfl (lv_at hl 3 rfl) ?_
    refine s_callStk hst hC hs1 hI hl.1 ⟨by omega, by omega⟩ (fun q f H locs hf hI => ?_)
    refine lv_astore (lv' := [(4, .ref q), (1, .int v), (0, .ref (E.2.1 132)), (2, .int (nI b)), (3, .int (nI k))]) hx hb dL_state_109 hl (by decide) rfl (fun ls hl => ?_)
    refine lv_aload hx hb dL_state_111 (lv_at hl 0 rfl) ?_
    refine va_alen hx hb hK hI.1 142 0 e_get0 rfl (v := nI (n b k)) rfl dL_state_113 ?_
    refine lv_istore (lv' := [(5, .int (nI (n b k))), (4, .ref q), (1, .int v), (0, .ref (E.2.1 132)), (2, .int (nI b)), (3, .int (nI k))]) hx hb dL_state_114 hl (by decide) rfl (fun ls hl => ?_)
    refine lv_iconst (v := nI 0) hx hb dL_state_116 (by decide) ?_
    refine lv_istore (lv' := [(6, .int (nI 0)), (5, .int (nI (n b k))), (4, .ref q), (1, .int v), (0, .ref (E.2.1 132)), (2, .int (nI b)), (3, .int (nI k))]) hx hb dL_state_117 hl (by decide) rfl (fun ls hl => ?_)
    refine W.widen (show _ ≤ (cells + 50 * k + 40) + 2 * 0 by omega) (show _ ≤ (slots + 260 * k + 200) + 12 * 0 by omega) ?_
    refine st_inner (cells := cells + 50 * k + 40) (slots := slots + 260 * k + 200) hst hC hn5 hf hs2 ⟨by omega, by omega⟩ (fun w H locs ls hw9 hI hl => ?_) (n b k) 0 v H locs ls (by omega) rfl hI (lv_sub hl [0, 3, 4, 5, 6, 2, 1] rfl)
    replace hI : eI E s M [] H locs := by rw [show eI E s M [] H locs = jI E.1 s (eA E s.heap.size) (gwl E M () ++ []) H locs from rfl, gwl_nil]; exact jI_left hI
    refine lv_iinc (k := 3) (v := nI (k + 1)) (lv' := [(3, .int (nI (k + 1))), (1, .int w), (0, .ref (E.2.1 132)), (2, .int (nI b))]) hx hb dL_state_169 hl rfl (by rw [nI_succ]; rfl) (by decide) rfl (fun ls hl => ?_)
    refine lv_goto (tgt := 98) hx hb dL_state_172 (by decide) ?_
    refine W.widen (show _ ≤ cells + 50 * (k + 1) by omega) (show _ ≤ slots + 260 * (k + 1) by omega) ?_
    exact ih (k + 1) w H locs ls (by omega) (by rw [hw9]; exact hV) hI (lv_sub hl [1, 2, 3, 0] rfl)
set_option maxRecDepth 100000 in
set_option maxHeartbeats 4000000 in
theorem st_berths (hst : l.stackTraces = false) (hC : sC p s m args c cL_state 8 RL E J) {V : Int32} (hs : ∀ b, b < 3 → svBe M bf mo b ∧ ∀ k, k < 4 → stkH (nI b) (nI k) (n b k) (ids b k) M ∧ ∀ j, j < n b k → svW M wt ky (ids b k j)) (hcs : cells + 630 ≤ 1000 ∧ slots + 3300 ≤ 6000)
    (kv : ∀ (w : Int32) (H : Heap) (locs : List Loc) (ls : Array Slot), w = V → eI E s M [] H locs → lv_has ls 8 [(1, .int w), (0, .ref (E.2.1 132))] → W p l e (gRX 20 500 1000 6000) s m args below meth c H locs (cells + 630) (slots + 3300) Q (F0 m 181 ls [])) :
    ∀ (d b : Nat) (v : Int32) (H : Heap) (locs : List Loc) (ls : Array Slot), b + d = 3 → svB bf mo n ids wt ky d b v = V → eI E s M [] H locs → lv_has ls 8 [(1, .int v), (0, .ref (E.2.1 132)), (2, .int (nI b))] → W p l e (gRX 20 500 1000 6000) s m args below meth c H locs (cells + 210 * b) (slots + 1100 * b) Q (F0 m 39 ls []) := by
  intro d
  induction d with
  | zero =>
    intro b v H locs ls hk hV hI hl
    obtain rfl : b = 3 := by omega
    have hx := hC.1.1
    have hb := hC.1.2.1
    refine lv_iload_n hx hb dL_state_39 rfl (lv_at hl 2 rfl) ?_
    refine lv_iconst (v := 3) hx hb dL_state_40 (by decide) ?_
    refine lv_icmp_ge (tgt := 181) hx hb dL_state_41 rfl (fun _ => ?_) (fun h => absurd (by decide) h)
    exact kv v H locs ls hV hI (lv_sub hl [0, 1] rfl)
  | succ d ih =>
    intro b v H locs ls hk hV hI hl
    have hx := hC.1.1
    have hb := hC.1.2.1
    have hlt : b < 3 := by omega
    obtain ⟨⟨h1, h2, h3, h4⟩, hs2⟩ := hs b hlt
    have key : ∀ (H : Heap) (locs : List Loc) (cells1 slots1 : Nat) (z : Int32), cells1 ≤ cells + 210 * b + 10 → slots1 ≤ slots + 1100 * b + 60 → 31 * (31 * (31 * v + bf b 0) + bf b 1) + z = svC bf mo b v → eI E s M [] H locs → W p l e (gRX 20 500 1000 6000) s m args below meth c H locs cells1 slots1 Q (F0 m 94 ls [.int z, .int (31 * (31 * (31 * v + bf b 0) + bf b 1))]) := fun H locs cells1 slots1 z hc1 hs1 hz hI => by
      refine lv_iadd hx hb dL_state_94 ?_
      refine g_top (v := svC bf mo b v) hz.symm ?_
      refine lv_istore_n (lv' := [(1, .int (svC bf mo b v)), (0, .ref (E.2.1 132)), (2, .int (nI b))]) hx hb dL_state_95 rfl hl (by decide) rfl (fun ls hl => ?_)
      refine lv_iconst (v := nI 0) hx hb dL_state_96 (by decide) ?_
      refine lv_istore_n (lv' := [(3, .int (nI 0)), (1, .int (svC bf mo b v)), (0, .ref (E.2.1 132)), (2, .int (nI b))]) hx hb dL_state_97 rfl hl (by decide) rfl (fun ls hl => ?_)
      refine W.widen (show _ ≤ (cells + 210 * b + 10) + 50 * 0 by omega) (show _ ≤ (slots + 1100 * b + 60) + 260 * 0 by omega) ?_
      refine st_stacks (cells := cells + 210 * b + 10) (slots := slots + 1100 * b + 60) hst hC hlt hs2 ⟨by omega, by omega⟩ (fun w H locs ls hw9 hI hl => ?_) 4 0 (svC bf mo b v) H locs ls rfl rfl hI (lv_sub hl [1, 2, 3, 0] rfl)
      refine lv_iinc (k := 2) (v := nI (b + 1)) (lv' := [(2, .int (nI (b + 1))), (1, .int w), (0, .ref (E.2.1 132))]) hx hb dL_state_175 hl rfl (by rw [nI_succ]; rfl) (by decide) rfl (fun ls hl => ?_)
      refine lv_goto (tgt := 39) hx hb dL_state_178 (by decide) ?_
      refine W.widen (show _ ≤ cells + 210 * (b + 1) by omega) (show _ ≤ slots + 1100 * (b + 1) by omega) ?_
      exact ih (b + 1) w H locs ls (by omega) (by rw [hw9]; exact hV) hI (lv_sub hl [1, 2, 0] rfl)
    refine lv_iload_n hx hb dL_state_39 rfl (lv_at hl 2 rfl) ?_
    refine lv_iconst (v := 3) hx hb dL_state_40 (by decide) ?_
    refine lv_icmp_ge (tgt := 181) hx hb dL_state_41 rfl (fun h => absurd h (show ¬ nI 3 ≤ nI b from nI_ge hlt (by omega))) (fun _ => ?_)
    refine lv_bipush (v := 31) hx hb dL_state_44 (by decide) ?_
    refine lv_bipush (v := 31) hx hb dL_state_46 (by decide) ?_
    refine lv_bipush (v := 31) hx hb dL_state_48 (by decide) ?_
    refine lv_iload_n hx hb dL_state_50 rfl (lv_at hl 0 rfl) ?_
    refine lv_imul hx hb dL_state_51 ?_
    refine lv_aload_n hx hb dL_state_52 rfl (lv_at hl 1 rfl) ?_
    refine lv_iload_n hx hb dL_state_53 rfl (lv_at hl 2 rfl) ?_
    refine e_callX (rest := [.int (31 * v), .int 31, .int 31]) hC.1 hI (C_X6_lockedHours l hst E () h1) Y_X6_lockedHours V_X6_lockedHours w618 (e_recv6 hC.1 hI) ⟨rfl, rfl⟩ ⟨Nat.le_of_ble_eq_true rfl, Nat.le_of_ble_eq_true rfl⟩ rfl hl.1 rfl (Nat.le_of_ble_eq_true rfl) dL_state_54 ⟨show cells + 210 * b + 1 ≤ 1000 by omega, show slots + 1100 * b + 6 ≤ 6000 by omega⟩ (fun H locs hI => ?_)
    refine lv_iadd hx hb dL_state_57 ?_
    refine lv_imul hx hb dL_state_58 ?_
    refine lv_aload_n hx hb dL_state_59 rfl (lv_at hl 1 rfl) ?_
    refine lv_iload_n hx hb dL_state_60 rfl (lv_at hl 2 rfl) ?_
    refine e_callX (rest := [.int (31 * ((31 * v) + (bf b 0))), .int 31]) hC.1 hI (C_X6_wrongAnswers l hst E () h2) Y_X6_wrongAnswers V_X6_wrongAnswers w622 (e_recv6 hC.1 hI) ⟨rfl, rfl⟩ ⟨Nat.le_of_ble_eq_true rfl, Nat.le_of_ble_eq_true rfl⟩ rfl hl.1 rfl (Nat.le_of_ble_eq_true rfl) dL_state_61 ⟨show cells + 210 * b + 1 + 1 ≤ 1000 by omega, show slots + 1100 * b + 6 + 6 ≤ 6000 by omega⟩ (fun H locs hI => ?_)
    refine lv_iadd hx hb dL_state_64 ?_
    refine lv_imul hx hb dL_state_65 ?_
    refine lv_aload_n hx hb dL_state_66 rfl (lv_at hl 1 rfl) ?_
    refine lv_iload_n hx hb dL_state_67 rfl (lv_at hl 2 rfl) ?_
    by_cases hm : mo b = true
    · rw [hm] at h3
      refine e_callX (rest := [.int (31 * ((31 * ((31 * v) + (bf b 0))) + (bf b 1)))]) hC.1 hI (C_X6_isMoored l hst E () h3) Y_X6_isMoored V_X6_isMoored w562 (e_recv6 hC.1 hI) ⟨rfl, rfl⟩ ⟨Nat.le_of_ble_eq_true rfl, Nat.le_of_ble_eq_true rfl⟩ rfl hl.1 rfl (Nat.le_of_ble_eq_true rfl) dL_state_68 ⟨show cells + 210 * b + 2 + 1 ≤ 1000 by omega, show slots + 1100 * b + 12 + 6 ≤ 6000 by omega⟩ (fun H locs hI => ?_)
      refine lv_if_eq (tgt := 93) hx hb dL_state_71 rfl (fun h => absurd h (by decide)) (fun _ => ?_)
      refine lv_iconst (v := 1) hx hb dL_state_74 (by decide) ?_
      refine lv_aload_n hx hb dL_state_75 rfl (lv_at hl 1 rfl) ?_
      refine lv_iload_n hx hb dL_state_76 rfl (lv_at hl 2 rfl) ?_
      refine e_callX (rest := [.int 1, .int (31 * ((31 * ((31 * v) + (bf b 0))) + (bf b 1)))]) hC.1 hI (C_X6_draught l hst E () (h4 hm).1) Y_X6_draught V_X6_draught w1148 (e_recv6 hC.1 hI) ⟨rfl, rfl⟩ ⟨Nat.le_of_ble_eq_true rfl, Nat.le_of_ble_eq_true rfl⟩ rfl hl.1 rfl (Nat.le_of_ble_eq_true rfl) dL_state_77 ⟨show cells + 210 * b + 3 + 2 ≤ 1000 by omega, show slots + 1100 * b + 18 + 12 ≤ 6000 by omega⟩ (fun H locs hI => ?_)
      refine lv_iadd hx hb dL_state_80 ?_
      refine lv_bipush (v := 10) hx hb dL_state_81 (by decide) ?_
      refine lv_aload_n hx hb dL_state_83 rfl (lv_at hl 1 rfl) ?_
      refine lv_iload_n hx hb dL_state_84 rfl (lv_at hl 2 rfl) ?_
      refine e_callX (rest := [.int 10, .int (1 + (bf b 2)), .int (31 * ((31 * ((31 * v) + (bf b 0))) + (bf b 1)))]) hC.1 hI (C_X6_dueHour l hst E () (h4 hm).2) Y_X6_dueHour V_X6_dueHour w1152 (e_recv6 hC.1 hI) ⟨rfl, rfl⟩ ⟨Nat.le_of_ble_eq_true rfl, Nat.le_of_ble_eq_true rfl⟩ rfl hl.1 rfl (Nat.le_of_ble_eq_true rfl) dL_state_85 ⟨show cells + 210 * b + 5 + 2 ≤ 1000 by omega, show slots + 1100 * b + 30 + 12 ≤ 6000 by omega⟩ (fun H locs hI => ?_)
      refine lv_imul hx hb dL_state_88 ?_
      refine lv_iadd hx hb dL_state_89 ?_
      refine lv_goto (tgt := 94) hx hb dL_state_90 rfl ?_
      exact key _ _ _ _ _ (by omega) (by omega) (by unfold svC; rw [if_pos hm]) hI
    · rw [show mo b = false by simpa using hm] at h3
      refine e_callX (rest := [.int (31 * ((31 * ((31 * v) + (bf b 0))) + (bf b 1)))]) hC.1 hI (C_X6_isMoored l hst E () h3) Y_X6_isMoored V_X6_isMoored w562 (e_recv6 hC.1 hI) ⟨rfl, rfl⟩ ⟨Nat.le_of_ble_eq_true rfl, Nat.le_of_ble_eq_true rfl⟩ rfl hl.1 rfl (Nat.le_of_ble_eq_true rfl) dL_state_68 ⟨show cells + 210 * b + 2 + 1 ≤ 1000 by omega, show slots + 1100 * b + 12 + 6 ≤ 6000 by omega⟩ (fun H locs hI => ?_)
      refine lv_if_eq (tgt := 93) hx hb dL_state_71 rfl (fun _ => ?_) (fun h => absurd rfl h)
      refine lv_iconst (v := 0) hx hb dL_state_93 (by decide) ?_
      exact key _ _ _ _ _ (by omega) (by omega) (by unfold svC; rw [if_neg hm]) hI
end GST
