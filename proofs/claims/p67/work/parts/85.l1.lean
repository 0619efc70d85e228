/-! The law's act, stow and runs, each call by itself; laid by wip/p67/gen/law67.py. -/
section GCT
variable {p : Program} {l : Launch} {e : Env} {R : Room} {s : State} {m : MethodId} {args : Array Value} {below : List Frame} {meth : Method} {c : Code} {H : Heap} {locs : List Loc} {cells slots : Nat} {Q : State → Prop}
variable {E : gE} {cc : ByteArray} {own : String} {nL pc : Nat} {ls : Array Slot} {rest : List Value} {hh : List (Nat × Nat × Nat × Nat)}
/-- caught by a row of the helper's table, behind rows that don't stand there or don't take it -/
theorem g_catch2 {En : String} {ce : Cell} {q : Addr} (hC : gC p s m args c cc nL own E) (hT : c.exceptionTable.toList = tableOf hh) (pre : List ExceptionTableEntry) (z : ExceptionTableEntry) (suf : List ExceptionTableEntry) (hs : tableOf hh = pre ++ z :: suf) (hpass : ∀ r ∈ pre, covers r pc = false ∨ (r.catchType ≠ 0 ∧ ∃ nm : String, Cond.classLink own r.catchType nm ∈ gU ∧ va_Nc En nm s))
    (hz : covers z pc = true) (h0 : z.catchType ≠ 0) (hlink : Cond.classLink own z.catchType En ∈ gU) (hcast : Cond.castable En En ∈ gFw) (hcell : H[q]? = some ce) (hv : ce.vm = .none) (hcl : s.vm.findClass En = some ce.cls)
    (kk : W p l e R s m args below meth c H locs cells slots Q (F0 m z.handlerPc ls [.ref q])) : vx_W p l e R s m args below meth c H locs cells slots Q (F0 m pc ls rest) q :=
  vx_catch hC.2.2.2.1 pre z suf (hT.trans hs) (fun r hr => by
    rcases hpass r hr with h | h
    · exact Or.inl h
    · exact Or.inr ⟨h.1, h.2.choose, hC.2.2.2.2.1 _ h.2.choose_spec.1, h.2.choose_spec.2⟩) hz h0 (hC.2.2.2.2.1 _ hlink) (g_castE hC hcast) hcell hv hcl kk
end GCT
theorem dL_act_0 : decode cL_act 0 = .ok (.iload_n 1, 1) := by decide +kernel
theorem dL_act_1 : decode cL_act 1 = .ok (.tableswitch 111 0 7 #[47, 56, 73, 82, 88, 94, 100, 106], 47) := by decide +kernel
theorem dL_act_48 : decode cL_act 48 = .ok (.aload_n 0, 1) := by decide +kernel
theorem dL_act_49 : decode cL_act 49 = .ok (.iload_n 2, 1) := by decide +kernel
theorem dL_act_50 : decode cL_act 50 = .ok (.iload_n 3, 1) := by decide +kernel
theorem dL_act_51 : decode cL_act 51 = .ok (.iload 4, 2) := by decide +kernel
theorem dL_act_53 : decode cL_act 53 = .ok (.invokevirtual 61, 3) := by decide +kernel
theorem dL_act_56 : decode cL_act 56 = .ok (.ireturn, 1) := by decide +kernel
theorem dL_act_57 : decode cL_act 57 = .ok (.aload_n 0, 1) := by decide +kernel
theorem dL_act_58 : decode cL_act 58 = .ok (.iload_n 2, 1) := by decide +kernel
theorem dL_act_59 : decode cL_act 59 = .ok (.iload_n 3, 1) := by decide +kernel
theorem dL_act_60 : decode cL_act 60 = .ok (.iload 4, 2) := by decide +kernel
theorem dL_act_62 : decode cL_act 62 = .ok (.invokevirtual 65, 3) := by decide +kernel
theorem dL_act_65 : decode cL_act 65 = .ok (.ifCond .eq 7, 3) := by decide +kernel
theorem dL_act_68 : decode cL_act 68 = .ok (.iconst 1, 1) := by decide +kernel
theorem dL_act_69 : decode cL_act 69 = .ok (.goto 4, 3) := by decide +kernel
theorem dL_act_72 : decode cL_act 72 = .ok (.iconst 0, 1) := by decide +kernel
theorem dL_act_73 : decode cL_act 73 = .ok (.ireturn, 1) := by decide +kernel
theorem dL_act_74 : decode cL_act 74 = .ok (.aload_n 0, 1) := by decide +kernel
theorem dL_act_75 : decode cL_act 75 = .ok (.iload_n 2, 1) := by decide +kernel
theorem dL_act_76 : decode cL_act 76 = .ok (.iload_n 3, 1) := by decide +kernel
theorem dL_act_77 : decode cL_act 77 = .ok (.iload 4, 2) := by decide +kernel
theorem dL_act_79 : decode cL_act 79 = .ok (.invokevirtual 69, 3) := by decide +kernel
theorem dL_act_82 : decode cL_act 82 = .ok (.ireturn, 1) := by decide +kernel
theorem dL_act_83 : decode cL_act 83 = .ok (.aload_n 0, 1) := by decide +kernel
theorem dL_act_84 : decode cL_act 84 = .ok (.iload_n 2, 1) := by decide +kernel
theorem dL_act_85 : decode cL_act 85 = .ok (.invokevirtual 72, 3) := by decide +kernel
theorem dL_act_88 : decode cL_act 88 = .ok (.ireturn, 1) := by decide +kernel
theorem dL_act_89 : decode cL_act 89 = .ok (.aload_n 0, 1) := by decide +kernel
theorem dL_act_90 : decode cL_act 90 = .ok (.iload_n 2, 1) := by decide +kernel
theorem dL_act_91 : decode cL_act 91 = .ok (.invokevirtual 75, 3) := by decide +kernel
theorem dL_act_94 : decode cL_act 94 = .ok (.ireturn, 1) := by decide +kernel
theorem dL_act_95 : decode cL_act 95 = .ok (.aload_n 0, 1) := by decide +kernel
theorem dL_act_96 : decode cL_act 96 = .ok (.iload_n 2, 1) := by decide +kernel
theorem dL_act_97 : decode cL_act 97 = .ok (.invokevirtual 78, 3) := by decide +kernel
theorem dL_act_100 : decode cL_act 100 = .ok (.ireturn, 1) := by decide +kernel
theorem dL_act_101 : decode cL_act 101 = .ok (.aload_n 0, 1) := by decide +kernel
theorem dL_act_102 : decode cL_act 102 = .ok (.iload_n 2, 1) := by decide +kernel
theorem dL_act_103 : decode cL_act 103 = .ok (.invokevirtual 81, 3) := by decide +kernel
theorem dL_act_106 : decode cL_act 106 = .ok (.ireturn, 1) := by decide +kernel
theorem dL_act_107 : decode cL_act 107 = .ok (.aload_n 0, 1) := by decide +kernel
theorem dL_act_108 : decode cL_act 108 = .ok (.invokevirtual 84, 3) := by decide +kernel
theorem dL_act_111 : decode cL_act 111 = .ok (.ireturn, 1) := by decide +kernel
theorem dL_act_112 : decode cL_act 112 = .ok (.aload_n 0, 1) := by decide +kernel
theorem dL_act_113 : decode cL_act 113 = .ok (.iload_n 2, 1) := by decide +kernel
theorem dL_act_114 : decode cL_act 114 = .ok (.invokevirtual 87, 3) := by decide +kernel
theorem dL_act_117 : decode cL_act 117 = .ok (.ireturn, 1) := by decide +kernel
theorem dL_act_118 : decode cL_act 118 = .ok (.astore 5, 2) := by decide +kernel
theorem dL_act_120 : decode cL_act 120 = .ok (.iconst (-1), 1) := by decide +kernel
theorem dL_act_121 : decode cL_act 121 = .ok (.ireturn, 1) := by decide +kernel
theorem dL_act_122 : decode cL_act 122 = .ok (.astore 5, 2) := by decide +kernel
theorem dL_act_124 : decode cL_act 124 = .ok (.bipush (-2), 2) := by decide +kernel
theorem dL_act_126 : decode cL_act 126 = .ok (.ireturn, 1) := by decide +kernel
theorem dL_act_127 : decode cL_act 127 = .ok (.astore 5, 2) := by decide +kernel
theorem dL_act_129 : decode cL_act 129 = .ok (.bipush (-3), 2) := by decide +kernel
theorem dL_act_131 : decode cL_act 131 = .ok (.ireturn, 1) := by decide +kernel
theorem dL_act_132 : decode cL_act 132 = .ok (.astore 5, 2) := by decide +kernel
theorem dL_act_134 : decode cL_act 134 = .ok (.bipush (-4), 2) := by decide +kernel
theorem dL_act_136 : decode cL_act 136 = .ok (.ireturn, 1) := by decide +kernel
theorem dL_stow_0 : decode cL_stow 0 = .ok (.aload_n 0, 1) := by decide +kernel
theorem dL_stow_1 : decode cL_stow 1 = .ok (.iload_n 1, 1) := by decide +kernel
theorem dL_stow_2 : decode cL_stow 2 = .ok (.iload_n 2, 1) := by decide +kernel
theorem dL_stow_3 : decode cL_stow 3 = .ok (.iload_n 3, 1) := by decide +kernel
theorem dL_stow_4 : decode cL_stow 4 = .ok (.iload 4, 2) := by decide +kernel
theorem dL_stow_6 : decode cL_stow 6 = .ok (.invokevirtual 98, 3) := by decide +kernel
theorem dL_stow_9 : decode cL_stow 9 = .ok (.ireturn, 1) := by decide +kernel
theorem dL_stow_10 : decode cL_stow 10 = .ok (.astore 5, 2) := by decide +kernel
theorem dL_stow_12 : decode cL_stow 12 = .ok (.iconst (-1), 1) := by decide +kernel
theorem dL_stow_13 : decode cL_stow 13 = .ok (.ireturn, 1) := by decide +kernel
theorem dL_stow_14 : decode cL_stow 14 = .ok (.astore 5, 2) := by decide +kernel
theorem dL_stow_16 : decode cL_stow 16 = .ok (.bipush (-2), 2) := by decide +kernel
theorem dL_stow_18 : decode cL_stow 18 = .ok (.ireturn, 1) := by decide +kernel
theorem dL_stow_19 : decode cL_stow 19 = .ok (.astore 5, 2) := by decide +kernel
theorem dL_stow_21 : decode cL_stow 21 = .ok (.bipush (-3), 2) := by decide +kernel
theorem dL_stow_23 : decode cL_stow 23 = .ok (.ireturn, 1) := by decide +kernel
theorem dL_runs_0 : decode cL_runs 0 = .ok (.aload_n 0, 1) := by decide +kernel
theorem dL_runs_1 : decode cL_runs 1 = .ok (.invokevirtual 194, 3) := by decide +kernel
theorem dL_runs_4 : decode cL_runs 4 = .ok (.ireturn, 1) := by decide +kernel
theorem dL_runs_5 : decode cL_runs 5 = .ok (.astore_n 1, 1) := by decide +kernel
theorem dL_runs_6 : decode cL_runs 6 = .ok (.iconst (-1), 1) := by decide +kernel
theorem dL_runs_7 : decode cL_runs 7 = .ok (.ireturn, 1) := by decide +kernel
theorem dL_runs_8 : decode cL_runs 8 = .ok (.astore_n 1, 1) := by decide +kernel
theorem dL_runs_9 : decode cL_runs 9 = .ok (.bipush (-2), 2) := by decide +kernel
theorem dL_runs_11 : decode cL_runs 11 = .ok (.ireturn, 1) := by decide +kernel
set_option maxRecDepth 100000 in
set_option maxHeartbeats 4000000 in
theorem A_moor (l : Launch) (hst : l.stackTraces = false) (E : gE) {v1 v2 v3 : Int32} {M : gM} {oc : String ⊕ Int32} {M1 : gM} (hf : f_X6_moor v1 v2 v3 M = some (oc, M1)) (ha : aO ["java/lang/IndexOutOfBoundsException", "java/lang/IllegalArgumentException", "java/lang/IllegalStateException"] oc) : gH l E yL_act (.codeWith yL_act cL_act 6 (some .int) [(0, 56, 118, 90), (57, 73, 118, 90), (74, 82, 118, 90), (83, 88, 118, 90), (89, 94, 118, 90), (95, 100, 118, 90), (101, 106, 118, 90), (107, 111, 118, 90), (112, 117, 118, 90), (0, 56, 122, 92), (57, 73, 122, 92), (74, 82, 122, 92), (83, 88, 122, 92), (89, 94, 122, 92), (95, 100, 122, 92), (101, 106, 122, 92), (107, 111, 122, 92), (112, 117, 122, 92), (0, 56, 127, 94), (57, 73, 127, 94), (74, 82, 127, 94), (83, 88, 127, 94), (89, 94, 127, 94), (95, 100, 127, 94), (101, 106, 127, 94), (107, 111, 127, 94), (112, 117, 127, 94), (0, 56, 132, 96), (57, 73, 132, 96), (74, 82, 132, 96), (83, 88, 132, 96), (89, 94, 132, 96), (95, 100, 132, 96), (101, 106, 132, 96), (107, 111, 132, 96), (112, 117, 132, 96)]) (gRX 13 260 4 24) M [.ref (E.2.1 132), .int 0, .int v1, .int v2, .int v3] (some (.int (aR oc))) M1 4 24 := by
  refine gMetH (by decide +kernel) (Nat.le_of_ble_eq_true rfl) ?_
  intro p e s m args below meth c H locs ls Q hC hN hT hl hI kr
  replace hC : gC p s m args c cL_act 6 RL E := hC
  replace hl : lv_has ls 6 [(0, .ref (E.2.1 132)), (1, .int 0), (2, .int v1), (3, .int v2), (4, .int v3)] := hl
  have hx := hC.1
  have hb := hC.2.1
  refine lv_iload_n hx hb dL_act_0 rfl (lv_at hl 1 rfl) ?_
  refine g_tabK (k := 0) (tgt := 48) hC dL_act_1 rfl (by decide) (by decide) rfl rfl ?_
  refine lv_aload_n hx hb dL_act_48 rfl (lv_at hl 0 rfl) ?_
  refine lv_iload_n hx hb dL_act_49 rfl (lv_at hl 2 rfl) ?_
  refine lv_iload_n hx hb dL_act_50 rfl (lv_at hl 3 rfl) ?_
  refine lv_iload hx hb dL_act_51 (lv_at hl 4 rfl) ?_
  have hm := C_X6_moor l hst E () hf
  rcases oc with er | b
  · refine g_xV (rest := []) hC hI hm Y_X6_moor V_X6_moor w1123 (rcv_X6 hC hI) ⟨rfl, rfl⟩ ⟨Nat.le_of_ble_eq_true rfl, Nat.le_of_ble_eq_true rfl⟩ rfl hl.1 rfl (Nat.le_of_ble_eq_true rfl) dL_act_53 ⟨Nat.le_of_ble_eq_true rfl, Nat.le_of_ble_eq_true rfl⟩ (fun rv H locs ho => nomatch ho) (fun En2 ce q H locs ho hI hce hcv hcl => ?_)
    cases ho
    have hq := ha _ rfl
    rcases List.mem_cons.mp hq with hq | hq
    · subst hq
      refine g_catch2 hC hT [] ⟨0, 56, 118, 90⟩ [⟨57, 73, 118, 90⟩, ⟨74, 82, 118, 90⟩, ⟨83, 88, 118, 90⟩, ⟨89, 94, 118, 90⟩, ⟨95, 100, 118, 90⟩, ⟨101, 106, 118, 90⟩, ⟨107, 111, 118, 90⟩, ⟨112, 117, 118, 90⟩, ⟨0, 56, 122, 92⟩, ⟨57, 73, 122, 92⟩, ⟨74, 82, 122, 92⟩, ⟨83, 88, 122, 92⟩, ⟨89, 94, 122, 92⟩, ⟨95, 100, 122, 92⟩, ⟨101, 106, 122, 92⟩, ⟨107, 111, 122, 92⟩, ⟨112, 117, 122, 92⟩, ⟨0, 56, 127, 94⟩, ⟨57, 73, 127, 94⟩, ⟨74, 82, 127, 94⟩, ⟨83, 88, 127, 94⟩, ⟨89, 94, 127, 94⟩, ⟨95, 100, 127, 94⟩, ⟨101, 106, 127, 94⟩, ⟨107, 111, 127, 94⟩, ⟨112, 117, 127, 94⟩, ⟨0, 56, 132, 96⟩, ⟨57, 73, 132, 96⟩, ⟨74, 82, 132, 96⟩, ⟨83, 88, 132, 96⟩, ⟨89, 94, 132, 96⟩, ⟨95, 100, 132, 96⟩, ⟨101, 106, 132, 96⟩, ⟨107, 111, 132, 96⟩, ⟨112, 117, 132, 96⟩] rfl (fun _ h => absurd h List.not_mem_nil) (by decide) (by decide) w1099 (by decide +kernel) hce hcv hcl ?_
      refine lv_astore (lv' := [(5, .ref q), (0, .ref (E.2.1 132)), (1, .int 0), (2, .int v1), (3, .int v2), (4, .int v3)]) hx hb dL_act_118 hl (by decide) rfl (fun ls hl => ?_)
      refine lv_iconst (v := (-1)) hx hb dL_act_120 (by decide) ?_
      exact kr _ _ _ _ _ _ _ (by decide) hI ⟨Nat.le_of_ble_eq_true rfl, Nat.le_of_ble_eq_true rfl⟩ dL_act_121
    rcases List.mem_cons.mp hq with hq | hq
    · subst hq
      refine g_catch2 hC hT [⟨0, 56, 118, 90⟩, ⟨57, 73, 118, 90⟩, ⟨74, 82, 118, 90⟩, ⟨83, 88, 118, 90⟩, ⟨89, 94, 118, 90⟩, ⟨95, 100, 118, 90⟩, ⟨101, 106, 118, 90⟩, ⟨107, 111, 118, 90⟩, ⟨112, 117, 118, 90⟩] ⟨0, 56, 122, 92⟩ [⟨57, 73, 122, 92⟩, ⟨74, 82, 122, 92⟩, ⟨83, 88, 122, 92⟩, ⟨89, 94, 122, 92⟩, ⟨95, 100, 122, 92⟩, ⟨101, 106, 122, 92⟩, ⟨107, 111, 122, 92⟩, ⟨112, 117, 122, 92⟩, ⟨0, 56, 127, 94⟩, ⟨57, 73, 127, 94⟩, ⟨74, 82, 127, 94⟩, ⟨83, 88, 127, 94⟩, ⟨89, 94, 127, 94⟩, ⟨95, 100, 127, 94⟩, ⟨101, 106, 127, 94⟩, ⟨107, 111, 127, 94⟩, ⟨112, 117, 127, 94⟩, ⟨0, 56, 132, 96⟩, ⟨57, 73, 132, 96⟩, ⟨74, 82, 132, 96⟩, ⟨83, 88, 132, 96⟩, ⟨89, 94, 132, 96⟩, ⟨95, 100, 132, 96⟩, ⟨101, 106, 132, 96⟩, ⟨107, 111, 132, 96⟩, ⟨112, 117, 132, 96⟩] rfl (List.forall_mem_cons.mpr ⟨Or.inr ⟨by decide, _, w1099, hN ("java/lang/IllegalArgumentException", "java/lang/IndexOutOfBoundsException") (by decide +kernel)⟩, (List.forall_mem_cons.mpr ⟨Or.inl (by decide), (List.forall_mem_cons.mpr ⟨Or.inl (by decide), (List.forall_mem_cons.mpr ⟨Or.inl (by decide), (List.forall_mem_cons.mpr ⟨Or.inl (by decide), (List.forall_mem_cons.mpr ⟨Or.inl (by decide), (List.forall_mem_cons.mpr ⟨Or.inl (by decide), (List.forall_mem_cons.mpr ⟨Or.inl (by decide), (List.forall_mem_cons.mpr ⟨Or.inl (by decide), (fun _ h => absurd h List.not_mem_nil)⟩)⟩)⟩)⟩)⟩)⟩)⟩)⟩)⟩) (by decide) (by decide) w1120 (by decide +kernel) hce hcv hcl ?_
      refine lv_astore (lv' := [(5, .ref q), (0, .ref (E.2.1 132)), (1, .int 0), (2, .int v1), (3, .int v2), (4, .int v3)]) hx hb dL_act_122 hl (by decide) rfl (fun ls hl => ?_)
      refine lv_bipush (v := (-2)) hx hb dL_act_124 (by decide) ?_
      exact kr _ _ _ _ _ _ _ (by decide) hI ⟨Nat.le_of_ble_eq_true rfl, Nat.le_of_ble_eq_true rfl⟩ dL_act_126
    rcases List.mem_cons.mp hq with hq | hq
    · subst hq
      refine g_catch2 hC hT [⟨0, 56, 118, 90⟩, ⟨57, 73, 118, 90⟩, ⟨74, 82, 118, 90⟩, ⟨83, 88, 118, 90⟩, ⟨89, 94, 118, 90⟩, ⟨95, 100, 118, 90⟩, ⟨101, 106, 118, 90⟩, ⟨107, 111, 118, 90⟩, ⟨112, 117, 118, 90⟩, ⟨0, 56, 122, 92⟩, ⟨57, 73, 122, 92⟩, ⟨74, 82, 122, 92⟩, ⟨83, 88, 122, 92⟩, ⟨89, 94, 122, 92⟩, ⟨95, 100, 122, 92⟩, ⟨101, 106, 122, 92⟩, ⟨107, 111, 122, 92⟩, ⟨112, 117, 122, 92⟩] ⟨0, 56, 127, 94⟩ [⟨57, 73, 127, 94⟩, ⟨74, 82, 127, 94⟩, ⟨83, 88, 127, 94⟩, ⟨89, 94, 127, 94⟩, ⟨95, 100, 127, 94⟩, ⟨101, 106, 127, 94⟩, ⟨107, 111, 127, 94⟩, ⟨112, 117, 127, 94⟩, ⟨0, 56, 132, 96⟩, ⟨57, 73, 132, 96⟩, ⟨74, 82, 132, 96⟩, ⟨83, 88, 132, 96⟩, ⟨89, 94, 132, 96⟩, ⟨95, 100, 132, 96⟩, ⟨101, 106, 132, 96⟩, ⟨107, 111, 132, 96⟩, ⟨112, 117, 132, 96⟩] rfl (List.forall_mem_cons.mpr ⟨Or.inr ⟨by decide, _, w1099, hN ("java/lang/IllegalStateException", "java/lang/IndexOutOfBoundsException") (by decide +kernel)⟩, (List.forall_mem_cons.mpr ⟨Or.inl (by decide), (List.forall_mem_cons.mpr ⟨Or.inl (by decide), (List.forall_mem_cons.mpr ⟨Or.inl (by decide), (List.forall_mem_cons.mpr ⟨Or.inl (by decide), (List.forall_mem_cons.mpr ⟨Or.inl (by decide), (List.forall_mem_cons.mpr ⟨Or.inl (by decide), (List.forall_mem_cons.mpr ⟨Or.inl (by decide), (List.forall_mem_cons.mpr ⟨Or.inl (by decide), (List.forall_mem_cons.mpr ⟨Or.inr ⟨by decide, _, w1120, hN ("java/lang/IllegalStateException", "java/lang/IllegalArgumentException") (by decide +kernel)⟩, (List.forall_mem_cons.mpr ⟨Or.inl (by decide), (List.forall_mem_cons.mpr ⟨Or.inl (by decide), (List.forall_mem_cons.mpr ⟨Or.inl (by decide), (List.forall_mem_cons.mpr ⟨Or.inl (by decide), (List.forall_mem_cons.mpr ⟨Or.inl (by decide), (List.forall_mem_cons.mpr ⟨Or.inl (by decide), (List.forall_mem_cons.mpr ⟨Or.inl (by decide), (List.forall_mem_cons.mpr ⟨Or.inl (by decide), (fun _ h => absurd h List.not_mem_nil)⟩)⟩)⟩)⟩)⟩)⟩)⟩)⟩)⟩)⟩)⟩)⟩)⟩)⟩)⟩)⟩)⟩)⟩) (by decide) (by decide) w1121 (by decide +kernel) hce hcv hcl ?_
      refine lv_astore (lv' := [(5, .ref q), (0, .ref (E.2.1 132)), (1, .int 0), (2, .int v1), (3, .int v2), (4, .int v3)]) hx hb dL_act_127 hl (by decide) rfl (fun ls hl => ?_)
      refine lv_bipush (v := (-3)) hx hb dL_act_129 (by decide) ?_
      exact kr _ _ _ _ _ _ _ (by decide) hI ⟨Nat.le_of_ble_eq_true rfl, Nat.le_of_ble_eq_true rfl⟩ dL_act_131
    exact absurd hq List.not_mem_nil
  · refine g_xV (rest := []) hC hI hm Y_X6_moor V_X6_moor w1123 (rcv_X6 hC hI) ⟨rfl, rfl⟩ ⟨Nat.le_of_ble_eq_true rfl, Nat.le_of_ble_eq_true rfl⟩ rfl hl.1 rfl (Nat.le_of_ble_eq_true rfl) dL_act_53 ⟨Nat.le_of_ble_eq_true rfl, Nat.le_of_ble_eq_true rfl⟩ (fun rv H locs ho hI => ?_) (fun En ce q H locs ho => nomatch ho)
    cases ho
    exact kr _ _ _ _ _ _ _ rfl hI ⟨Nat.le_of_ble_eq_true rfl, Nat.le_of_ble_eq_true rfl⟩ dL_act_56
set_option maxRecDepth 100000 in
set_option maxHeartbeats 4000000 in
theorem A_clear (l : Launch) (hst : l.stackTraces = false) (E : gE) {v1 v2 v3 : Int32} {M : gM} {oc : String ⊕ Bool} {M1 : gM} (hf : f_X6_clear v1 v2 v3 M = some (oc, M1)) (ha : aO ["java/lang/IndexOutOfBoundsException", "java/lang/IllegalArgumentException", "java/lang/IllegalStateException"] oc) : gH l E yL_act (.codeWith yL_act cL_act 6 (some .int) [(0, 56, 118, 90), (57, 73, 118, 90), (74, 82, 118, 90), (83, 88, 118, 90), (89, 94, 118, 90), (95, 100, 118, 90), (101, 106, 118, 90), (107, 111, 118, 90), (112, 117, 118, 90), (0, 56, 122, 92), (57, 73, 122, 92), (74, 82, 122, 92), (83, 88, 122, 92), (89, 94, 122, 92), (95, 100, 122, 92), (101, 106, 122, 92), (107, 111, 122, 92), (112, 117, 122, 92), (0, 56, 127, 94), (57, 73, 127, 94), (74, 82, 127, 94), (83, 88, 127, 94), (89, 94, 127, 94), (95, 100, 127, 94), (101, 106, 127, 94), (107, 111, 127, 94), (112, 117, 127, 94), (0, 56, 132, 96), (57, 73, 132, 96), (74, 82, 132, 96), (83, 88, 132, 96), (89, 94, 132, 96), (95, 100, 132, 96), (101, 106, 132, 96), (107, 111, 132, 96), (112, 117, 132, 96)]) (gRX 13 260 4 24) M [.ref (E.2.1 132), .int 1, .int v1, .int v2, .int v3] (some (.int (aR (oc.map id gb)))) M1 4 24 := by
  refine gMetH (by decide +kernel) (Nat.le_of_ble_eq_true rfl) ?_
  intro p e s m args below meth c H locs ls Q hC hN hT hl hI kr
  replace hC : gC p s m args c cL_act 6 RL E := hC
  replace hl : lv_has ls 6 [(0, .ref (E.2.1 132)), (1, .int 1), (2, .int v1), (3, .int v2), (4, .int v3)] := hl
  have hx := hC.1
  have hb := hC.2.1
  refine lv_iload_n hx hb dL_act_0 rfl (lv_at hl 1 rfl) ?_
  refine g_tabK (k := 1) (tgt := 57) hC dL_act_1 rfl (by decide) (by decide) rfl rfl ?_
  refine lv_aload_n hx hb dL_act_57 rfl (lv_at hl 0 rfl) ?_
  refine lv_iload_n hx hb dL_act_58 rfl (lv_at hl 2 rfl) ?_
  refine lv_iload_n hx hb dL_act_59 rfl (lv_at hl 3 rfl) ?_
  refine lv_iload hx hb dL_act_60 (lv_at hl 4 rfl) ?_
  have hm := C_X6_clear l hst E () hf
  rcases oc with er | b
  · refine g_xV (rest := []) hC hI hm Y_X6_clear V_X6_clear w406 (rcv_X6 hC hI) ⟨rfl, rfl⟩ ⟨Nat.le_of_ble_eq_true rfl, Nat.le_of_ble_eq_true rfl⟩ rfl hl.1 rfl (Nat.le_of_ble_eq_true rfl) dL_act_62 ⟨Nat.le_of_ble_eq_true rfl, Nat.le_of_ble_eq_true rfl⟩ (fun rv H locs ho => nomatch ho) (fun En2 ce q H locs ho hI hce hcv hcl => ?_)
    cases ho
    have hq := ha _ rfl
    rcases List.mem_cons.mp hq with hq | hq
    · subst hq
      refine g_catch2 hC hT [⟨0, 56, 118, 90⟩] ⟨57, 73, 118, 90⟩ [⟨74, 82, 118, 90⟩, ⟨83, 88, 118, 90⟩, ⟨89, 94, 118, 90⟩, ⟨95, 100, 118, 90⟩, ⟨101, 106, 118, 90⟩, ⟨107, 111, 118, 90⟩, ⟨112, 117, 118, 90⟩, ⟨0, 56, 122, 92⟩, ⟨57, 73, 122, 92⟩, ⟨74, 82, 122, 92⟩, ⟨83, 88, 122, 92⟩, ⟨89, 94, 122, 92⟩, ⟨95, 100, 122, 92⟩, ⟨101, 106, 122, 92⟩, ⟨107, 111, 122, 92⟩, ⟨112, 117, 122, 92⟩, ⟨0, 56, 127, 94⟩, ⟨57, 73, 127, 94⟩, ⟨74, 82, 127, 94⟩, ⟨83, 88, 127, 94⟩, ⟨89, 94, 127, 94⟩, ⟨95, 100, 127, 94⟩, ⟨101, 106, 127, 94⟩, ⟨107, 111, 127, 94⟩, ⟨112, 117, 127, 94⟩, ⟨0, 56, 132, 96⟩, ⟨57, 73, 132, 96⟩, ⟨74, 82, 132, 96⟩, ⟨83, 88, 132, 96⟩, ⟨89, 94, 132, 96⟩, ⟨95, 100, 132, 96⟩, ⟨101, 106, 132, 96⟩, ⟨107, 111, 132, 96⟩, ⟨112, 117, 132, 96⟩] rfl (List.forall_mem_cons.mpr ⟨Or.inl (by decide), (fun _ h => absurd h List.not_mem_nil)⟩) (by decide) (by decide) w1099 (by decide +kernel) hce hcv hcl ?_
      refine lv_astore (lv' := [(5, .ref q), (0, .ref (E.2.1 132)), (1, .int 1), (2, .int v1), (3, .int v2), (4, .int v3)]) hx hb dL_act_118 hl (by decide) rfl (fun ls hl => ?_)
      refine lv_iconst (v := (-1)) hx hb dL_act_120 (by decide) ?_
      exact kr _ _ _ _ _ _ _ (by decide) hI ⟨Nat.le_of_ble_eq_true rfl, Nat.le_of_ble_eq_true rfl⟩ dL_act_121
    rcases List.mem_cons.mp hq with hq | hq
    · subst hq
      refine g_catch2 hC hT [⟨0, 56, 118, 90⟩, ⟨57, 73, 118, 90⟩, ⟨74, 82, 118, 90⟩, ⟨83, 88, 118, 90⟩, ⟨89, 94, 118, 90⟩, ⟨95, 100, 118, 90⟩, ⟨101, 106, 118, 90⟩, ⟨107, 111, 118, 90⟩, ⟨112, 117, 118, 90⟩, ⟨0, 56, 122, 92⟩] ⟨57, 73, 122, 92⟩ [⟨74, 82, 122, 92⟩, ⟨83, 88, 122, 92⟩, ⟨89, 94, 122, 92⟩, ⟨95, 100, 122, 92⟩, ⟨101, 106, 122, 92⟩, ⟨107, 111, 122, 92⟩, ⟨112, 117, 122, 92⟩, ⟨0, 56, 127, 94⟩, ⟨57, 73, 127, 94⟩, ⟨74, 82, 127, 94⟩, ⟨83, 88, 127, 94⟩, ⟨89, 94, 127, 94⟩, ⟨95, 100, 127, 94⟩, ⟨101, 106, 127, 94⟩, ⟨107, 111, 127, 94⟩, ⟨112, 117, 127, 94⟩, ⟨0, 56, 132, 96⟩, ⟨57, 73, 132, 96⟩, ⟨74, 82, 132, 96⟩, ⟨83, 88, 132, 96⟩, ⟨89, 94, 132, 96⟩, ⟨95, 100, 132, 96⟩, ⟨101, 106, 132, 96⟩, ⟨107, 111, 132, 96⟩, ⟨112, 117, 132, 96⟩] rfl (List.forall_mem_cons.mpr ⟨Or.inl (by decide), (List.forall_mem_cons.mpr ⟨Or.inr ⟨by decide, _, w1099, hN ("java/lang/IllegalArgumentException", "java/lang/IndexOutOfBoundsException") (by decide +kernel)⟩, (List.forall_mem_cons.mpr ⟨Or.inl (by decide), (List.forall_mem_cons.mpr ⟨Or.inl (by decide), (List.forall_mem_cons.mpr ⟨Or.inl (by decide), (List.forall_mem_cons.mpr ⟨Or.inl (by decide), (List.forall_mem_cons.mpr ⟨Or.inl (by decide), (List.forall_mem_cons.mpr ⟨Or.inl (by decide), (List.forall_mem_cons.mpr ⟨Or.inl (by decide), (List.forall_mem_cons.mpr ⟨Or.inl (by decide), (fun _ h => absurd h List.not_mem_nil)⟩)⟩)⟩)⟩)⟩)⟩)⟩)⟩)⟩)⟩) (by decide) (by decide) w1120 (by decide +kernel) hce hcv hcl ?_
      refine lv_astore (lv' := [(5, .ref q), (0, .ref (E.2.1 132)), (1, .int 1), (2, .int v1), (3, .int v2), (4, .int v3)]) hx hb dL_act_122 hl (by decide) rfl (fun ls hl => ?_)
      refine lv_bipush (v := (-2)) hx hb dL_act_124 (by decide) ?_
      exact kr _ _ _ _ _ _ _ (by decide) hI ⟨Nat.le_of_ble_eq_true rfl, Nat.le_of_ble_eq_true rfl⟩ dL_act_126
    rcases List.mem_cons.mp hq with hq | hq
    · subst hq
      refine g_catch2 hC hT [⟨0, 56, 118, 90⟩, ⟨57, 73, 118, 90⟩, ⟨74, 82, 118, 90⟩, ⟨83, 88, 118, 90⟩, ⟨89, 94, 118, 90⟩, ⟨95, 100, 118, 90⟩, ⟨101, 106, 118, 90⟩, ⟨107, 111, 118, 90⟩, ⟨112, 117, 118, 90⟩, ⟨0, 56, 122, 92⟩, ⟨57, 73, 122, 92⟩, ⟨74, 82, 122, 92⟩, ⟨83, 88, 122, 92⟩, ⟨89, 94, 122, 92⟩, ⟨95, 100, 122, 92⟩, ⟨101, 106, 122, 92⟩, ⟨107, 111, 122, 92⟩, ⟨112, 117, 122, 92⟩, ⟨0, 56, 127, 94⟩] ⟨57, 73, 127, 94⟩ [⟨74, 82, 127, 94⟩, ⟨83, 88, 127, 94⟩, ⟨89, 94, 127, 94⟩, ⟨95, 100, 127, 94⟩, ⟨101, 106, 127, 94⟩, ⟨107, 111, 127, 94⟩, ⟨112, 117, 127, 94⟩, ⟨0, 56, 132, 96⟩, ⟨57, 73, 132, 96⟩, ⟨74, 82, 132, 96⟩, ⟨83, 88, 132, 96⟩, ⟨89, 94, 132, 96⟩, ⟨95, 100, 132, 96⟩, ⟨101, 106, 132, 96⟩, ⟨107, 111, 132, 96⟩, ⟨112, 117, 132, 96⟩] rfl (List.forall_mem_cons.mpr ⟨Or.inl (by decide), (List.forall_mem_cons.mpr ⟨Or.inr ⟨by decide, _, w1099, hN ("java/lang/IllegalStateException", "java/lang/IndexOutOfBoundsException") (by decide +kernel)⟩, (List.forall_mem_cons.mpr ⟨Or.inl (by decide), (List.forall_mem_cons.mpr ⟨Or.inl (by decide), (List.forall_mem_cons.mpr ⟨Or.inl (by decide), (List.forall_mem_cons.mpr ⟨Or.inl (by decide), (List.forall_mem_cons.mpr ⟨Or.inl (by decide), (List.forall_mem_cons.mpr ⟨Or.inl (by decide), (List.forall_mem_cons.mpr ⟨Or.inl (by decide), (List.forall_mem_cons.mpr ⟨Or.inl (by decide), (List.forall_mem_cons.mpr ⟨Or.inr ⟨by decide, _, w1120, hN ("java/lang/IllegalStateException", "java/lang/IllegalArgumentException") (by decide +kernel)⟩, (List.forall_mem_cons.mpr ⟨Or.inl (by decide), (List.forall_mem_cons.mpr ⟨Or.inl (by decide), (List.forall_mem_cons.mpr ⟨Or.inl (by decide), (List.forall_mem_cons.mpr ⟨Or.inl (by decide), (List.forall_mem_cons.mpr ⟨Or.inl (by decide), (List.forall_mem_cons.mpr ⟨Or.inl (by decide), (List.forall_mem_cons.mpr ⟨Or.inl (by decide), (List.forall_mem_cons.mpr ⟨Or.inl (by decide), (fun _ h => absurd h List.not_mem_nil)⟩)⟩)⟩)⟩)⟩)⟩)⟩)⟩)⟩)⟩)⟩)⟩)⟩)⟩)⟩)⟩)⟩)⟩)⟩) (by decide) (by decide) w1121 (by decide +kernel) hce hcv hcl ?_
      refine lv_astore (lv' := [(5, .ref q), (0, .ref (E.2.1 132)), (1, .int 1), (2, .int v1), (3, .int v2), (4, .int v3)]) hx hb dL_act_127 hl (by decide) rfl (fun ls hl => ?_)
      refine lv_bipush (v := (-3)) hx hb dL_act_129 (by decide) ?_
      exact kr _ _ _ _ _ _ _ (by decide) hI ⟨Nat.le_of_ble_eq_true rfl, Nat.le_of_ble_eq_true rfl⟩ dL_act_131
    exact absurd hq List.not_mem_nil
  · refine g_xV (rest := []) hC hI hm Y_X6_clear V_X6_clear w406 (rcv_X6 hC hI) ⟨rfl, rfl⟩ ⟨Nat.le_of_ble_eq_true rfl, Nat.le_of_ble_eq_true rfl⟩ rfl hl.1 rfl (Nat.le_of_ble_eq_true rfl) dL_act_62 ⟨Nat.le_of_ble_eq_true rfl, Nat.le_of_ble_eq_true rfl⟩ (fun rv H locs ho hI => ?_) (fun En ce q H locs ho => nomatch ho)
    cases ho
    rcases b with _ | _
    · refine lv_if_eq (tgt := 72) hx hb dL_act_65 rfl (fun _ => ?_) (fun h => absurd rfl h)
      refine lv_iconst (v := 0) hx hb dL_act_72 (by decide) ?_
      exact kr _ _ _ _ _ _ _ rfl hI ⟨Nat.le_of_ble_eq_true rfl, Nat.le_of_ble_eq_true rfl⟩ dL_act_73
    · refine lv_if_eq (tgt := 72) hx hb dL_act_65 rfl (fun h => absurd h (by decide)) (fun _ => ?_)
      refine lv_iconst (v := 1) hx hb dL_act_68 (by decide) ?_
      refine lv_goto (tgt := 73) hx hb dL_act_69 rfl ?_
      exact kr _ _ _ _ _ _ _ rfl hI ⟨Nat.le_of_ble_eq_true rfl, Nat.le_of_ble_eq_true rfl⟩ dL_act_73
set_option maxRecDepth 100000 in
set_option maxHeartbeats 4000000 in
theorem A_move (l : Launch) (hst : l.stackTraces = false) (E : gE) {v1 v2 v3 : Int32} {M : gM} {oc : String ⊕ Int32} {M1 : gM} (hf : f_X6_move v1 v2 v3 M = some (oc, M1)) (ha : aO ["java/lang/IndexOutOfBoundsException", "java/lang/IllegalArgumentException", "java/lang/IllegalStateException"] oc) : gH l E yL_act (.codeWith yL_act cL_act 6 (some .int) [(0, 56, 118, 90), (57, 73, 118, 90), (74, 82, 118, 90), (83, 88, 118, 90), (89, 94, 118, 90), (95, 100, 118, 90), (101, 106, 118, 90), (107, 111, 118, 90), (112, 117, 118, 90), (0, 56, 122, 92), (57, 73, 122, 92), (74, 82, 122, 92), (83, 88, 122, 92), (89, 94, 122, 92), (95, 100, 122, 92), (101, 106, 122, 92), (107, 111, 122, 92), (112, 117, 122, 92), (0, 56, 127, 94), (57, 73, 127, 94), (74, 82, 127, 94), (83, 88, 127, 94), (89, 94, 127, 94), (95, 100, 127, 94), (101, 106, 127, 94), (107, 111, 127, 94), (112, 117, 127, 94), (0, 56, 132, 96), (57, 73, 132, 96), (74, 82, 132, 96), (83, 88, 132, 96), (89, 94, 132, 96), (95, 100, 132, 96), (101, 106, 132, 96), (107, 111, 132, 96), (112, 117, 132, 96)]) (gRX 13 260 4 24) M [.ref (E.2.1 132), .int 2, .int v1, .int v2, .int v3] (some (.int (aR oc))) M1 4 24 := by
  refine gMetH (by decide +kernel) (Nat.le_of_ble_eq_true rfl) ?_
  intro p e s m args below meth c H locs ls Q hC hN hT hl hI kr
  replace hC : gC p s m args c cL_act 6 RL E := hC
  replace hl : lv_has ls 6 [(0, .ref (E.2.1 132)), (1, .int 2), (2, .int v1), (3, .int v2), (4, .int v3)] := hl
  have hx := hC.1
  have hb := hC.2.1
  refine lv_iload_n hx hb dL_act_0 rfl (lv_at hl 1 rfl) ?_
  refine g_tabK (k := 2) (tgt := 74) hC dL_act_1 rfl (by decide) (by decide) rfl rfl ?_
  refine lv_aload_n hx hb dL_act_74 rfl (lv_at hl 0 rfl) ?_
  refine lv_iload_n hx hb dL_act_75 rfl (lv_at hl 2 rfl) ?_
  refine lv_iload_n hx hb dL_act_76 rfl (lv_at hl 3 rfl) ?_
  refine lv_iload hx hb dL_act_77 (lv_at hl 4 rfl) ?_
  have hm := C_X6_move l hst E () hf
  rcases oc with er | b
  · refine g_xV (rest := []) hC hI hm Y_X6_move V_X6_move w450 (rcv_X6 hC hI) ⟨rfl, rfl⟩ ⟨Nat.le_of_ble_eq_true rfl, Nat.le_of_ble_eq_true rfl⟩ rfl hl.1 rfl (Nat.le_of_ble_eq_true rfl) dL_act_79 ⟨Nat.le_of_ble_eq_true rfl, Nat.le_of_ble_eq_true rfl⟩ (fun rv H locs ho => nomatch ho) (fun En2 ce q H locs ho hI hce hcv hcl => ?_)
    cases ho
    have hq := ha _ rfl
    rcases List.mem_cons.mp hq with hq | hq
    · subst hq
      refine g_catch2 hC hT [⟨0, 56, 118, 90⟩, ⟨57, 73, 118, 90⟩] ⟨74, 82, 118, 90⟩ [⟨83, 88, 118, 90⟩, ⟨89, 94, 118, 90⟩, ⟨95, 100, 118, 90⟩, ⟨101, 106, 118, 90⟩, ⟨107, 111, 118, 90⟩, ⟨112, 117, 118, 90⟩, ⟨0, 56, 122, 92⟩, ⟨57, 73, 122, 92⟩, ⟨74, 82, 122, 92⟩, ⟨83, 88, 122, 92⟩, ⟨89, 94, 122, 92⟩, ⟨95, 100, 122, 92⟩, ⟨101, 106, 122, 92⟩, ⟨107, 111, 122, 92⟩, ⟨112, 117, 122, 92⟩, ⟨0, 56, 127, 94⟩, ⟨57, 73, 127, 94⟩, ⟨74, 82, 127, 94⟩, ⟨83, 88, 127, 94⟩, ⟨89, 94, 127, 94⟩, ⟨95, 100, 127, 94⟩, ⟨101, 106, 127, 94⟩, ⟨107, 111, 127, 94⟩, ⟨112, 117, 127, 94⟩, ⟨0, 56, 132, 96⟩, ⟨57, 73, 132, 96⟩, ⟨74, 82, 132, 96⟩, ⟨83, 88, 132, 96⟩, ⟨89, 94, 132, 96⟩, ⟨95, 100, 132, 96⟩, ⟨101, 106, 132, 96⟩, ⟨107, 111, 132, 96⟩, ⟨112, 117, 132, 96⟩] rfl (List.forall_mem_cons.mpr ⟨Or.inl (by decide), (List.forall_mem_cons.mpr ⟨Or.inl (by decide), (fun _ h => absurd h List.not_mem_nil)⟩)⟩) (by decide) (by decide) w1099 (by decide +kernel) hce hcv hcl ?_
      refine lv_astore (lv' := [(5, .ref q), (0, .ref (E.2.1 132)), (1, .int 2), (2, .int v1), (3, .int v2), (4, .int v3)]) hx hb dL_act_118 hl (by decide) rfl (fun ls hl => ?_)
      refine lv_iconst (v := (-1)) hx hb dL_act_120 (by decide) ?_
      exact kr _ _ _ _ _ _ _ (by decide) hI ⟨Nat.le_of_ble_eq_true rfl, Nat.le_of_ble_eq_true rfl⟩ dL_act_121
    rcases List.mem_cons.mp hq with hq | hq
    · subst hq
      refine g_catch2 hC hT [⟨0, 56, 118, 90⟩, ⟨57, 73, 118, 90⟩, ⟨74, 82, 118, 90⟩, ⟨83, 88, 118, 90⟩, ⟨89, 94, 118, 90⟩, ⟨95, 100, 118, 90⟩, ⟨101, 106, 118, 90⟩, ⟨107, 111, 118, 90⟩, ⟨112, 117, 118, 90⟩, ⟨0, 56, 122, 92⟩, ⟨57, 73, 122, 92⟩] ⟨74, 82, 122, 92⟩ [⟨83, 88, 122, 92⟩, ⟨89, 94, 122, 92⟩, ⟨95, 100, 122, 92⟩, ⟨101, 106, 122, 92⟩, ⟨107, 111, 122, 92⟩, ⟨112, 117, 122, 92⟩, ⟨0, 56, 127, 94⟩, ⟨57, 73, 127, 94⟩, ⟨74, 82, 127, 94⟩, ⟨83, 88, 127, 94⟩, ⟨89, 94, 127, 94⟩, ⟨95, 100, 127, 94⟩, ⟨101, 106, 127, 94⟩, ⟨107, 111, 127, 94⟩, ⟨112, 117, 127, 94⟩, ⟨0, 56, 132, 96⟩, ⟨57, 73, 132, 96⟩, ⟨74, 82, 132, 96⟩, ⟨83, 88, 132, 96⟩, ⟨89, 94, 132, 96⟩, ⟨95, 100, 132, 96⟩, ⟨101, 106, 132, 96⟩, ⟨107, 111, 132, 96⟩, ⟨112, 117, 132, 96⟩] rfl (List.forall_mem_cons.mpr ⟨Or.inl (by decide), (List.forall_mem_cons.mpr ⟨Or.inl (by decide), (List.forall_mem_cons.mpr ⟨Or.inr ⟨by decide, _, w1099, hN ("java/lang/IllegalArgumentException", "java/lang/IndexOutOfBoundsException") (by decide +kernel)⟩, (List.forall_mem_cons.mpr ⟨Or.inl (by decide), (List.forall_mem_cons.mpr ⟨Or.inl (by decide), (List.forall_mem_cons.mpr ⟨Or.inl (by decide), (List.forall_mem_cons.mpr ⟨Or.inl (by decide), (List.forall_mem_cons.mpr ⟨Or.inl (by decide), (List.forall_mem_cons.mpr ⟨Or.inl (by decide), (List.forall_mem_cons.mpr ⟨Or.inl (by decide), (List.forall_mem_cons.mpr ⟨Or.inl (by decide), (fun _ h => absurd h List.not_mem_nil)⟩)⟩)⟩)⟩)⟩)⟩)⟩)⟩)⟩)⟩)⟩) (by decide) (by decide) w1120 (by decide +kernel) hce hcv hcl ?_
      refine lv_astore (lv' := [(5, .ref q), (0, .ref (E.2.1 132)), (1, .int 2), (2, .int v1), (3, .int v2), (4, .int v3)]) hx hb dL_act_122 hl (by decide) rfl (fun ls hl => ?_)
      refine lv_bipush (v := (-2)) hx hb dL_act_124 (by decide) ?_
      exact kr _ _ _ _ _ _ _ (by decide) hI ⟨Nat.le_of_ble_eq_true rfl, Nat.le_of_ble_eq_true rfl⟩ dL_act_126
    rcases List.mem_cons.mp hq with hq | hq
    · subst hq
      refine g_catch2 hC hT [⟨0, 56, 118, 90⟩, ⟨57, 73, 118, 90⟩, ⟨74, 82, 118, 90⟩, ⟨83, 88, 118, 90⟩, ⟨89, 94, 118, 90⟩, ⟨95, 100, 118, 90⟩, ⟨101, 106, 118, 90⟩, ⟨107, 111, 118, 90⟩, ⟨112, 117, 118, 90⟩, ⟨0, 56, 122, 92⟩, ⟨57, 73, 122, 92⟩, ⟨74, 82, 122, 92⟩, ⟨83, 88, 122, 92⟩, ⟨89, 94, 122, 92⟩, ⟨95, 100, 122, 92⟩, ⟨101, 106, 122, 92⟩, ⟨107, 111, 122, 92⟩, ⟨112, 117, 122, 92⟩, ⟨0, 56, 127, 94⟩, ⟨57, 73, 127, 94⟩] ⟨74, 82, 127, 94⟩ [⟨83, 88, 127, 94⟩, ⟨89, 94, 127, 94⟩, ⟨95, 100, 127, 94⟩, ⟨101, 106, 127, 94⟩, ⟨107, 111, 127, 94⟩, ⟨112, 117, 127, 94⟩, ⟨0, 56, 132, 96⟩, ⟨57, 73, 132, 96⟩, ⟨74, 82, 132, 96⟩, ⟨83, 88, 132, 96⟩, ⟨89, 94, 132, 96⟩, ⟨95, 100, 132, 96⟩, ⟨101, 106, 132, 96⟩, ⟨107, 111, 132, 96⟩, ⟨112, 117, 132, 96⟩] rfl (List.forall_mem_cons.mpr ⟨Or.inl (by decide), (List.forall_mem_cons.mpr ⟨Or.inl (by decide), (List.forall_mem_cons.mpr ⟨Or.inr ⟨by decide, _, w1099, hN ("java/lang/IllegalStateException", "java/lang/IndexOutOfBoundsException") (by decide +kernel)⟩, (List.forall_mem_cons.mpr ⟨Or.inl (by decide), (List.forall_mem_cons.mpr ⟨Or.inl (by decide), (List.forall_mem_cons.mpr ⟨Or.inl (by decide), (List.forall_mem_cons.mpr ⟨Or.inl (by decide), (List.forall_mem_cons.mpr ⟨Or.inl (by decide), (List.forall_mem_cons.mpr ⟨Or.inl (by decide), (List.forall_mem_cons.mpr ⟨Or.inl (by decide), (List.forall_mem_cons.mpr ⟨Or.inl (by decide), (List.forall_mem_cons.mpr ⟨Or.inr ⟨by decide, _, w1120, hN ("java/lang/IllegalStateException", "java/lang/IllegalArgumentException") (by decide +kernel)⟩, (List.forall_mem_cons.mpr ⟨Or.inl (by decide), (List.forall_mem_cons.mpr ⟨Or.inl (by decide), (List.forall_mem_cons.mpr ⟨Or.inl (by decide), (List.forall_mem_cons.mpr ⟨Or.inl (by decide), (List.forall_mem_cons.mpr ⟨Or.inl (by decide), (List.forall_mem_cons.mpr ⟨Or.inl (by decide), (List.forall_mem_cons.mpr ⟨Or.inl (by decide), (List.forall_mem_cons.mpr ⟨Or.inl (by decide), (fun _ h => absurd h List.not_mem_nil)⟩)⟩)⟩)⟩)⟩)⟩)⟩)⟩)⟩)⟩)⟩)⟩)⟩)⟩)⟩)⟩)⟩)⟩)⟩)⟩) (by decide) (by decide) w1121 (by decide +kernel) hce hcv hcl ?_
      refine lv_astore (lv' := [(5, .ref q), (0, .ref (E.2.1 132)), (1, .int 2), (2, .int v1), (3, .int v2), (4, .int v3)]) hx hb dL_act_127 hl (by decide) rfl (fun ls hl => ?_)
      refine lv_bipush (v := (-3)) hx hb dL_act_129 (by decide) ?_
      exact kr _ _ _ _ _ _ _ (by decide) hI ⟨Nat.le_of_ble_eq_true rfl, Nat.le_of_ble_eq_true rfl⟩ dL_act_131
    exact absurd hq List.not_mem_nil
  · refine g_xV (rest := []) hC hI hm Y_X6_move V_X6_move w450 (rcv_X6 hC hI) ⟨rfl, rfl⟩ ⟨Nat.le_of_ble_eq_true rfl, Nat.le_of_ble_eq_true rfl⟩ rfl hl.1 rfl (Nat.le_of_ble_eq_true rfl) dL_act_79 ⟨Nat.le_of_ble_eq_true rfl, Nat.le_of_ble_eq_true rfl⟩ (fun rv H locs ho hI => ?_) (fun En ce q H locs ho => nomatch ho)
    cases ho
    exact kr _ _ _ _ _ _ _ rfl hI ⟨Nat.le_of_ble_eq_true rfl, Nat.le_of_ble_eq_true rfl⟩ dL_act_82
set_option maxRecDepth 100000 in
set_option maxHeartbeats 4000000 in
theorem A_deliver (l : Launch) (hst : l.stackTraces = false) (E : gE) {v1 v2 v3 : Int32} {M : gM} {oc : String ⊕ Int32} {M1 : gM} (hf : f_X6_deliver v1 M = some (oc, M1)) (ha : aO ["java/util/NoSuchElementException"] oc) : gH l E yL_act (.codeWith yL_act cL_act 6 (some .int) [(0, 56, 118, 90), (57, 73, 118, 90), (74, 82, 118, 90), (83, 88, 118, 90), (89, 94, 118, 90), (95, 100, 118, 90), (101, 106, 118, 90), (107, 111, 118, 90), (112, 117, 118, 90), (0, 56, 122, 92), (57, 73, 122, 92), (74, 82, 122, 92), (83, 88, 122, 92), (89, 94, 122, 92), (95, 100, 122, 92), (101, 106, 122, 92), (107, 111, 122, 92), (112, 117, 122, 92), (0, 56, 127, 94), (57, 73, 127, 94), (74, 82, 127, 94), (83, 88, 127, 94), (89, 94, 127, 94), (95, 100, 127, 94), (101, 106, 127, 94), (107, 111, 127, 94), (112, 117, 127, 94), (0, 56, 132, 96), (57, 73, 132, 96), (74, 82, 132, 96), (83, 88, 132, 96), (89, 94, 132, 96), (95, 100, 132, 96), (101, 106, 132, 96), (107, 111, 132, 96), (112, 117, 132, 96)]) (gRX 13 260 4 24) M [.ref (E.2.1 132), .int 3, .int v1, .int v2, .int v3] (some (.int (aR oc))) M1 4 24 := by
  refine gMetH (by decide +kernel) (Nat.le_of_ble_eq_true rfl) ?_
  intro p e s m args below meth c H locs ls Q hC hN hT hl hI kr
  replace hC : gC p s m args c cL_act 6 RL E := hC
  replace hl : lv_has ls 6 [(0, .ref (E.2.1 132)), (1, .int 3), (2, .int v1), (3, .int v2), (4, .int v3)] := hl
  have hx := hC.1
  have hb := hC.2.1
  refine lv_iload_n hx hb dL_act_0 rfl (lv_at hl 1 rfl) ?_
  refine g_tabK (k := 3) (tgt := 83) hC dL_act_1 rfl (by decide) (by decide) rfl rfl ?_
  refine lv_aload_n hx hb dL_act_83 rfl (lv_at hl 0 rfl) ?_
  refine lv_iload_n hx hb dL_act_84 rfl (lv_at hl 2 rfl) ?_
  have hm := C_X6_deliver l hst E () hf
  rcases oc with er | b
  · refine g_xV (rest := []) hC hI hm Y_X6_deliver V_X6_deliver w466 (rcv_X6 hC hI) ⟨rfl, rfl⟩ ⟨Nat.le_of_ble_eq_true rfl, Nat.le_of_ble_eq_true rfl⟩ rfl hl.1 rfl (Nat.le_of_ble_eq_true rfl) dL_act_85 ⟨Nat.le_of_ble_eq_true rfl, Nat.le_of_ble_eq_true rfl⟩ (fun rv H locs ho => nomatch ho) (fun En2 ce q H locs ho hI hce hcv hcl => ?_)
    cases ho
    have hq := ha _ rfl
    rcases List.mem_cons.mp hq with hq | hq
    · subst hq
      refine g_catch2 hC hT [⟨0, 56, 118, 90⟩, ⟨57, 73, 118, 90⟩, ⟨74, 82, 118, 90⟩, ⟨83, 88, 118, 90⟩, ⟨89, 94, 118, 90⟩, ⟨95, 100, 118, 90⟩, ⟨101, 106, 118, 90⟩, ⟨107, 111, 118, 90⟩, ⟨112, 117, 118, 90⟩, ⟨0, 56, 122, 92⟩, ⟨57, 73, 122, 92⟩, ⟨74, 82, 122, 92⟩, ⟨83, 88, 122, 92⟩, ⟨89, 94, 122, 92⟩, ⟨95, 100, 122, 92⟩, ⟨101, 106, 122, 92⟩, ⟨107, 111, 122, 92⟩, ⟨112, 117, 122, 92⟩, ⟨0, 56, 127, 94⟩, ⟨57, 73, 127, 94⟩, ⟨74, 82, 127, 94⟩, ⟨83, 88, 127, 94⟩, ⟨89, 94, 127, 94⟩, ⟨95, 100, 127, 94⟩, ⟨101, 106, 127, 94⟩, ⟨107, 111, 127, 94⟩, ⟨112, 117, 127, 94⟩, ⟨0, 56, 132, 96⟩, ⟨57, 73, 132, 96⟩, ⟨74, 82, 132, 96⟩] ⟨83, 88, 132, 96⟩ [⟨89, 94, 132, 96⟩, ⟨95, 100, 132, 96⟩, ⟨101, 106, 132, 96⟩, ⟨107, 111, 132, 96⟩, ⟨112, 117, 132, 96⟩] rfl (List.forall_mem_cons.mpr ⟨Or.inl (by decide), (List.forall_mem_cons.mpr ⟨Or.inl (by decide), (List.forall_mem_cons.mpr ⟨Or.inl (by decide), (List.forall_mem_cons.mpr ⟨Or.inr ⟨by decide, _, w1099, hN ("java/util/NoSuchElementException", "java/lang/IndexOutOfBoundsException") (by decide +kernel)⟩, (List.forall_mem_cons.mpr ⟨Or.inl (by decide), (List.forall_mem_cons.mpr ⟨Or.inl (by decide), (List.forall_mem_cons.mpr ⟨Or.inl (by decide), (List.forall_mem_cons.mpr ⟨Or.inl (by decide), (List.forall_mem_cons.mpr ⟨Or.inl (by decide), (List.forall_mem_cons.mpr ⟨Or.inl (by decide), (List.forall_mem_cons.mpr ⟨Or.inl (by decide), (List.forall_mem_cons.mpr ⟨Or.inl (by decide), (List.forall_mem_cons.mpr ⟨Or.inr ⟨by decide, _, w1120, hN ("java/util/NoSuchElementException", "java/lang/IllegalArgumentException") (by decide +kernel)⟩, (List.forall_mem_cons.mpr ⟨Or.inl (by decide), (List.forall_mem_cons.mpr ⟨Or.inl (by decide), (List.forall_mem_cons.mpr ⟨Or.inl (by decide), (List.forall_mem_cons.mpr ⟨Or.inl (by decide), (List.forall_mem_cons.mpr ⟨Or.inl (by decide), (List.forall_mem_cons.mpr ⟨Or.inl (by decide), (List.forall_mem_cons.mpr ⟨Or.inl (by decide), (List.forall_mem_cons.mpr ⟨Or.inl (by decide), (List.forall_mem_cons.mpr ⟨Or.inr ⟨by decide, _, w1121, hN ("java/util/NoSuchElementException", "java/lang/IllegalStateException") (by decide +kernel)⟩, (List.forall_mem_cons.mpr ⟨Or.inl (by decide), (List.forall_mem_cons.mpr ⟨Or.inl (by decide), (List.forall_mem_cons.mpr ⟨Or.inl (by decide), (List.forall_mem_cons.mpr ⟨Or.inl (by decide), (List.forall_mem_cons.mpr ⟨Or.inl (by decide), (List.forall_mem_cons.mpr ⟨Or.inl (by decide), (List.forall_mem_cons.mpr ⟨Or.inl (by decide), (List.forall_mem_cons.mpr ⟨Or.inl (by decide), (fun _ h => absurd h List.not_mem_nil)⟩)⟩)⟩)⟩)⟩)⟩)⟩)⟩)⟩)⟩)⟩)⟩)⟩)⟩)⟩)⟩)⟩)⟩)⟩)⟩)⟩)⟩)⟩)⟩)⟩)⟩)⟩)⟩)⟩)⟩) (by decide) (by decide) w1122 (by decide +kernel) hce hcv hcl ?_
      refine lv_astore (lv' := [(5, .ref q), (0, .ref (E.2.1 132)), (1, .int 3), (2, .int v1), (3, .int v2), (4, .int v3)]) hx hb dL_act_132 hl (by decide) rfl (fun ls hl => ?_)
      refine lv_bipush (v := (-4)) hx hb dL_act_134 (by decide) ?_
      exact kr _ _ _ _ _ _ _ (by decide) hI ⟨Nat.le_of_ble_eq_true rfl, Nat.le_of_ble_eq_true rfl⟩ dL_act_136
    exact absurd hq List.not_mem_nil
  · refine g_xV (rest := []) hC hI hm Y_X6_deliver V_X6_deliver w466 (rcv_X6 hC hI) ⟨rfl, rfl⟩ ⟨Nat.le_of_ble_eq_true rfl, Nat.le_of_ble_eq_true rfl⟩ rfl hl.1 rfl (Nat.le_of_ble_eq_true rfl) dL_act_85 ⟨Nat.le_of_ble_eq_true rfl, Nat.le_of_ble_eq_true rfl⟩ (fun rv H locs ho hI => ?_) (fun En ce q H locs ho => nomatch ho)
    cases ho
    exact kr _ _ _ _ _ _ _ rfl hI ⟨Nat.le_of_ble_eq_true rfl, Nat.le_of_ble_eq_true rfl⟩ dL_act_88
set_option maxRecDepth 100000 in
set_option maxHeartbeats 4000000 in
theorem A_leave (l : Launch) (hst : l.stackTraces = false) (E : gE) {v1 v2 v3 : Int32} {M : gM} {oc : String ⊕ Int32} {M1 : gM} (hf : f_X6_leave v1 M = some (oc, M1)) (ha : aO ["java/lang/IndexOutOfBoundsException", "java/lang/IllegalStateException"] oc) : gH l E yL_act (.codeWith yL_act cL_act 6 (some .int) [(0, 56, 118, 90), (57, 73, 118, 90), (74, 82, 118, 90), (83, 88, 118, 90), (89, 94, 118, 90), (95, 100, 118, 90), (101, 106, 118, 90), (107, 111, 118, 90), (112, 117, 118, 90), (0, 56, 122, 92), (57, 73, 122, 92), (74, 82, 122, 92), (83, 88, 122, 92), (89, 94, 122, 92), (95, 100, 122, 92), (101, 106, 122, 92), (107, 111, 122, 92), (112, 117, 122, 92), (0, 56, 127, 94), (57, 73, 127, 94), (74, 82, 127, 94), (83, 88, 127, 94), (89, 94, 127, 94), (95, 100, 127, 94), (101, 106, 127, 94), (107, 111, 127, 94), (112, 117, 127, 94), (0, 56, 132, 96), (57, 73, 132, 96), (74, 82, 132, 96), (83, 88, 132, 96), (89, 94, 132, 96), (95, 100, 132, 96), (101, 106, 132, 96), (107, 111, 132, 96), (112, 117, 132, 96)]) (gRX 13 260 4 24) M [.ref (E.2.1 132), .int 4, .int v1, .int v2, .int v3] (some (.int (aR oc))) M1 4 24 := by
  refine gMetH (by decide +kernel) (Nat.le_of_ble_eq_true rfl) ?_
  intro p e s m args below meth c H locs ls Q hC hN hT hl hI kr
  replace hC : gC p s m args c cL_act 6 RL E := hC
  replace hl : lv_has ls 6 [(0, .ref (E.2.1 132)), (1, .int 4), (2, .int v1), (3, .int v2), (4, .int v3)] := hl
  have hx := hC.1
  have hb := hC.2.1
  refine lv_iload_n hx hb dL_act_0 rfl (lv_at hl 1 rfl) ?_
  refine g_tabK (k := 4) (tgt := 89) hC dL_act_1 rfl (by decide) (by decide) rfl rfl ?_
  refine lv_aload_n hx hb dL_act_89 rfl (lv_at hl 0 rfl) ?_
  refine lv_iload_n hx hb dL_act_90 rfl (lv_at hl 2 rfl) ?_
  have hm := C_X6_leave l hst E () hf
  rcases oc with er | b
  · refine g_xV (rest := []) hC hI hm Y_X6_leave V_X6_leave w507 (rcv_X6 hC hI) ⟨rfl, rfl⟩ ⟨Nat.le_of_ble_eq_true rfl, Nat.le_of_ble_eq_true rfl⟩ rfl hl.1 rfl (Nat.le_of_ble_eq_true rfl) dL_act_91 ⟨Nat.le_of_ble_eq_true rfl, Nat.le_of_ble_eq_true rfl⟩ (fun rv H locs ho => nomatch ho) (fun En2 ce q H locs ho hI hce hcv hcl => ?_)
    cases ho
    have hq := ha _ rfl
    rcases List.mem_cons.mp hq with hq | hq
    · subst hq
      refine g_catch2 hC hT [⟨0, 56, 118, 90⟩, ⟨57, 73, 118, 90⟩, ⟨74, 82, 118, 90⟩, ⟨83, 88, 118, 90⟩] ⟨89, 94, 118, 90⟩ [⟨95, 100, 118, 90⟩, ⟨101, 106, 118, 90⟩, ⟨107, 111, 118, 90⟩, ⟨112, 117, 118, 90⟩, ⟨0, 56, 122, 92⟩, ⟨57, 73, 122, 92⟩, ⟨74, 82, 122, 92⟩, ⟨83, 88, 122, 92⟩, ⟨89, 94, 122, 92⟩, ⟨95, 100, 122, 92⟩, ⟨101, 106, 122, 92⟩, ⟨107, 111, 122, 92⟩, ⟨112, 117, 122, 92⟩, ⟨0, 56, 127, 94⟩, ⟨57, 73, 127, 94⟩, ⟨74, 82, 127, 94⟩, ⟨83, 88, 127, 94⟩, ⟨89, 94, 127, 94⟩, ⟨95, 100, 127, 94⟩, ⟨101, 106, 127, 94⟩, ⟨107, 111, 127, 94⟩, ⟨112, 117, 127, 94⟩, ⟨0, 56, 132, 96⟩, ⟨57, 73, 132, 96⟩, ⟨74, 82, 132, 96⟩, ⟨83, 88, 132, 96⟩, ⟨89, 94, 132, 96⟩, ⟨95, 100, 132, 96⟩, ⟨101, 106, 132, 96⟩, ⟨107, 111, 132, 96⟩, ⟨112, 117, 132, 96⟩] rfl (List.forall_mem_cons.mpr ⟨Or.inl (by decide), (List.forall_mem_cons.mpr ⟨Or.inl (by decide), (List.forall_mem_cons.mpr ⟨Or.inl (by decide), (List.forall_mem_cons.mpr ⟨Or.inl (by decide), (fun _ h => absurd h List.not_mem_nil)⟩)⟩)⟩)⟩) (by decide) (by decide) w1099 (by decide +kernel) hce hcv hcl ?_
      refine lv_astore (lv' := [(5, .ref q), (0, .ref (E.2.1 132)), (1, .int 4), (2, .int v1), (3, .int v2), (4, .int v3)]) hx hb dL_act_118 hl (by decide) rfl (fun ls hl => ?_)
      refine lv_iconst (v := (-1)) hx hb dL_act_120 (by decide) ?_
      exact kr _ _ _ _ _ _ _ (by decide) hI ⟨Nat.le_of_ble_eq_true rfl, Nat.le_of_ble_eq_true rfl⟩ dL_act_121
    rcases List.mem_cons.mp hq with hq | hq
    · subst hq
      refine g_catch2 hC hT [⟨0, 56, 118, 90⟩, ⟨57, 73, 118, 90⟩, ⟨74, 82, 118, 90⟩, ⟨83, 88, 118, 90⟩, ⟨89, 94, 118, 90⟩, ⟨95, 100, 118, 90⟩, ⟨101, 106, 118, 90⟩, ⟨107, 111, 118, 90⟩, ⟨112, 117, 118, 90⟩, ⟨0, 56, 122, 92⟩, ⟨57, 73, 122, 92⟩, ⟨74, 82, 122, 92⟩, ⟨83, 88, 122, 92⟩, ⟨89, 94, 122, 92⟩, ⟨95, 100, 122, 92⟩, ⟨101, 106, 122, 92⟩, ⟨107, 111, 122, 92⟩, ⟨112, 117, 122, 92⟩, ⟨0, 56, 127, 94⟩, ⟨57, 73, 127, 94⟩, ⟨74, 82, 127, 94⟩, ⟨83, 88, 127, 94⟩] ⟨89, 94, 127, 94⟩ [⟨95, 100, 127, 94⟩, ⟨101, 106, 127, 94⟩, ⟨107, 111, 127, 94⟩, ⟨112, 117, 127, 94⟩, ⟨0, 56, 132, 96⟩, ⟨57, 73, 132, 96⟩, ⟨74, 82, 132, 96⟩, ⟨83, 88, 132, 96⟩, ⟨89, 94, 132, 96⟩, ⟨95, 100, 132, 96⟩, ⟨101, 106, 132, 96⟩, ⟨107, 111, 132, 96⟩, ⟨112, 117, 132, 96⟩] rfl (List.forall_mem_cons.mpr ⟨Or.inl (by decide), (List.forall_mem_cons.mpr ⟨Or.inl (by decide), (List.forall_mem_cons.mpr ⟨Or.inl (by decide), (List.forall_mem_cons.mpr ⟨Or.inl (by decide), (List.forall_mem_cons.mpr ⟨Or.inr ⟨by decide, _, w1099, hN ("java/lang/IllegalStateException", "java/lang/IndexOutOfBoundsException") (by decide +kernel)⟩, (List.forall_mem_cons.mpr ⟨Or.inl (by decide), (List.forall_mem_cons.mpr ⟨Or.inl (by decide), (List.forall_mem_cons.mpr ⟨Or.inl (by decide), (List.forall_mem_cons.mpr ⟨Or.inl (by decide), (List.forall_mem_cons.mpr ⟨Or.inl (by decide), (List.forall_mem_cons.mpr ⟨Or.inl (by decide), (List.forall_mem_cons.mpr ⟨Or.inl (by decide), (List.forall_mem_cons.mpr ⟨Or.inl (by decide), (List.forall_mem_cons.mpr ⟨Or.inr ⟨by decide, _, w1120, hN ("java/lang/IllegalStateException", "java/lang/IllegalArgumentException") (by decide +kernel)⟩, (List.forall_mem_cons.mpr ⟨Or.inl (by decide), (List.forall_mem_cons.mpr ⟨Or.inl (by decide), (List.forall_mem_cons.mpr ⟨Or.inl (by decide), (List.forall_mem_cons.mpr ⟨Or.inl (by decide), (List.forall_mem_cons.mpr ⟨Or.inl (by decide), (List.forall_mem_cons.mpr ⟨Or.inl (by decide), (List.forall_mem_cons.mpr ⟨Or.inl (by decide), (List.forall_mem_cons.mpr ⟨Or.inl (by decide), (fun _ h => absurd h List.not_mem_nil)⟩)⟩)⟩)⟩)⟩)⟩)⟩)⟩)⟩)⟩)⟩)⟩)⟩)⟩)⟩)⟩)⟩)⟩)⟩)⟩)⟩)⟩) (by decide) (by decide) w1121 (by decide +kernel) hce hcv hcl ?_
      refine lv_astore (lv' := [(5, .ref q), (0, .ref (E.2.1 132)), (1, .int 4), (2, .int v1), (3, .int v2), (4, .int v3)]) hx hb dL_act_127 hl (by decide) rfl (fun ls hl => ?_)
      refine lv_bipush (v := (-3)) hx hb dL_act_129 (by decide) ?_
      exact kr _ _ _ _ _ _ _ (by decide) hI ⟨Nat.le_of_ble_eq_true rfl, Nat.le_of_ble_eq_true rfl⟩ dL_act_131
    exact absurd hq List.not_mem_nil
  · refine g_xV (rest := []) hC hI hm Y_X6_leave V_X6_leave w507 (rcv_X6 hC hI) ⟨rfl, rfl⟩ ⟨Nat.le_of_ble_eq_true rfl, Nat.le_of_ble_eq_true rfl⟩ rfl hl.1 rfl (Nat.le_of_ble_eq_true rfl) dL_act_91 ⟨Nat.le_of_ble_eq_true rfl, Nat.le_of_ble_eq_true rfl⟩ (fun rv H locs ho hI => ?_) (fun En ce q H locs ho => nomatch ho)
    cases ho
    exact kr _ _ _ _ _ _ _ rfl hI ⟨Nat.le_of_ble_eq_true rfl, Nat.le_of_ble_eq_true rfl⟩ dL_act_94
set_option maxRecDepth 100000 in
set_option maxHeartbeats 4000000 in
theorem A_pass (l : Launch) (hst : l.stackTraces = false) (E : gE) {v1 v2 v3 : Int32} {M : gM} {oc : String ⊕ Int32} {M1 : gM} (hf : f_X6_pass v1 M = some (oc, M1)) (ha : aO ["java/lang/IllegalArgumentException"] oc) : gH l E yL_act (.codeWith yL_act cL_act 6 (some .int) [(0, 56, 118, 90), (57, 73, 118, 90), (74, 82, 118, 90), (83, 88, 118, 90), (89, 94, 118, 90), (95, 100, 118, 90), (101, 106, 118, 90), (107, 111, 118, 90), (112, 117, 118, 90), (0, 56, 122, 92), (57, 73, 122, 92), (74, 82, 122, 92), (83, 88, 122, 92), (89, 94, 122, 92), (95, 100, 122, 92), (101, 106, 122, 92), (107, 111, 122, 92), (112, 117, 122, 92), (0, 56, 127, 94), (57, 73, 127, 94), (74, 82, 127, 94), (83, 88, 127, 94), (89, 94, 127, 94), (95, 100, 127, 94), (101, 106, 127, 94), (107, 111, 127, 94), (112, 117, 127, 94), (0, 56, 132, 96), (57, 73, 132, 96), (74, 82, 132, 96), (83, 88, 132, 96), (89, 94, 132, 96), (95, 100, 132, 96), (101, 106, 132, 96), (107, 111, 132, 96), (112, 117, 132, 96)]) (gRX 13 260 4 24) M [.ref (E.2.1 132), .int 5, .int v1, .int v2, .int v3] (some (.int (aR oc))) M1 4 24 := by
  refine gMetH (by decide +kernel) (Nat.le_of_ble_eq_true rfl) ?_
  intro p e s m args below meth c H locs ls Q hC hN hT hl hI kr
  replace hC : gC p s m args c cL_act 6 RL E := hC
  replace hl : lv_has ls 6 [(0, .ref (E.2.1 132)), (1, .int 5), (2, .int v1), (3, .int v2), (4, .int v3)] := hl
  have hx := hC.1
  have hb := hC.2.1
  refine lv_iload_n hx hb dL_act_0 rfl (lv_at hl 1 rfl) ?_
  refine g_tabK (k := 5) (tgt := 95) hC dL_act_1 rfl (by decide) (by decide) rfl rfl ?_
  refine lv_aload_n hx hb dL_act_95 rfl (lv_at hl 0 rfl) ?_
  refine lv_iload_n hx hb dL_act_96 rfl (lv_at hl 2 rfl) ?_
  have hm := C_X6_pass l hst E () hf
  rcases oc with er | b
  · refine g_xV (rest := []) hC hI hm Y_X6_pass V_X6_pass w538 (rcv_X6 hC hI) ⟨rfl, rfl⟩ ⟨Nat.le_of_ble_eq_true rfl, Nat.le_of_ble_eq_true rfl⟩ rfl hl.1 rfl (Nat.le_of_ble_eq_true rfl) dL_act_97 ⟨Nat.le_of_ble_eq_true rfl, Nat.le_of_ble_eq_true rfl⟩ (fun rv H locs ho => nomatch ho) (fun En2 ce q H locs ho hI hce hcv hcl => ?_)
    cases ho
    have hq := ha _ rfl
    rcases List.mem_cons.mp hq with hq | hq
    · subst hq
      refine g_catch2 hC hT [⟨0, 56, 118, 90⟩, ⟨57, 73, 118, 90⟩, ⟨74, 82, 118, 90⟩, ⟨83, 88, 118, 90⟩, ⟨89, 94, 118, 90⟩, ⟨95, 100, 118, 90⟩, ⟨101, 106, 118, 90⟩, ⟨107, 111, 118, 90⟩, ⟨112, 117, 118, 90⟩, ⟨0, 56, 122, 92⟩, ⟨57, 73, 122, 92⟩, ⟨74, 82, 122, 92⟩, ⟨83, 88, 122, 92⟩, ⟨89, 94, 122, 92⟩] ⟨95, 100, 122, 92⟩ [⟨101, 106, 122, 92⟩, ⟨107, 111, 122, 92⟩, ⟨112, 117, 122, 92⟩, ⟨0, 56, 127, 94⟩, ⟨57, 73, 127, 94⟩, ⟨74, 82, 127, 94⟩, ⟨83, 88, 127, 94⟩, ⟨89, 94, 127, 94⟩, ⟨95, 100, 127, 94⟩, ⟨101, 106, 127, 94⟩, ⟨107, 111, 127, 94⟩, ⟨112, 117, 127, 94⟩, ⟨0, 56, 132, 96⟩, ⟨57, 73, 132, 96⟩, ⟨74, 82, 132, 96⟩, ⟨83, 88, 132, 96⟩, ⟨89, 94, 132, 96⟩, ⟨95, 100, 132, 96⟩, ⟨101, 106, 132, 96⟩, ⟨107, 111, 132, 96⟩, ⟨112, 117, 132, 96⟩] rfl (List.forall_mem_cons.mpr ⟨Or.inl (by decide), (List.forall_mem_cons.mpr ⟨Or.inl (by decide), (List.forall_mem_cons.mpr ⟨Or.inl (by decide), (List.forall_mem_cons.mpr ⟨Or.inl (by decide), (List.forall_mem_cons.mpr ⟨Or.inl (by decide), (List.forall_mem_cons.mpr ⟨Or.inr ⟨by decide, _, w1099, hN ("java/lang/IllegalArgumentException", "java/lang/IndexOutOfBoundsException") (by decide +kernel)⟩, (List.forall_mem_cons.mpr ⟨Or.inl (by decide), (List.forall_mem_cons.mpr ⟨Or.inl (by decide), (List.forall_mem_cons.mpr ⟨Or.inl (by decide), (List.forall_mem_cons.mpr ⟨Or.inl (by decide), (List.forall_mem_cons.mpr ⟨Or.inl (by decide), (List.forall_mem_cons.mpr ⟨Or.inl (by decide), (List.forall_mem_cons.mpr ⟨Or.inl (by decide), (List.forall_mem_cons.mpr ⟨Or.inl (by decide), (fun _ h => absurd h List.not_mem_nil)⟩)⟩)⟩)⟩)⟩)⟩)⟩)⟩)⟩)⟩)⟩)⟩)⟩)⟩) (by decide) (by decide) w1120 (by decide +kernel) hce hcv hcl ?_
      refine lv_astore (lv' := [(5, .ref q), (0, .ref (E.2.1 132)), (1, .int 5), (2, .int v1), (3, .int v2), (4, .int v3)]) hx hb dL_act_122 hl (by decide) rfl (fun ls hl => ?_)
      refine lv_bipush (v := (-2)) hx hb dL_act_124 (by decide) ?_
      exact kr _ _ _ _ _ _ _ (by decide) hI ⟨Nat.le_of_ble_eq_true rfl, Nat.le_of_ble_eq_true rfl⟩ dL_act_126
    exact absurd hq List.not_mem_nil
  · refine g_xV (rest := []) hC hI hm Y_X6_pass V_X6_pass w538 (rcv_X6 hC hI) ⟨rfl, rfl⟩ ⟨Nat.le_of_ble_eq_true rfl, Nat.le_of_ble_eq_true rfl⟩ rfl hl.1 rfl (Nat.le_of_ble_eq_true rfl) dL_act_97 ⟨Nat.le_of_ble_eq_true rfl, Nat.le_of_ble_eq_true rfl⟩ (fun rv H locs ho hI => ?_) (fun En ce q H locs ho => nomatch ho)
    cases ho
    exact kr _ _ _ _ _ _ _ rfl hI ⟨Nat.le_of_ble_eq_true rfl, Nat.le_of_ble_eq_true rfl⟩ dL_act_100
set_option maxRecDepth 100000 in
set_option maxHeartbeats 4000000 in
theorem A_mostUrgent (l : Launch) (hst : l.stackTraces = false) (E : gE) {v1 v2 v3 : Int32} {M : gM} {oc : String ⊕ Int32} {M1 : gM} (hf : f_X6_mostUrgent  M = some (oc, M1)) (ha : aO ["java/util/NoSuchElementException"] oc) : gH l E yL_act (.codeWith yL_act cL_act 6 (some .int) [(0, 56, 118, 90), (57, 73, 118, 90), (74, 82, 118, 90), (83, 88, 118, 90), (89, 94, 118, 90), (95, 100, 118, 90), (101, 106, 118, 90), (107, 111, 118, 90), (112, 117, 118, 90), (0, 56, 122, 92), (57, 73, 122, 92), (74, 82, 122, 92), (83, 88, 122, 92), (89, 94, 122, 92), (95, 100, 122, 92), (101, 106, 122, 92), (107, 111, 122, 92), (112, 117, 122, 92), (0, 56, 127, 94), (57, 73, 127, 94), (74, 82, 127, 94), (83, 88, 127, 94), (89, 94, 127, 94), (95, 100, 127, 94), (101, 106, 127, 94), (107, 111, 127, 94), (112, 117, 127, 94), (0, 56, 132, 96), (57, 73, 132, 96), (74, 82, 132, 96), (83, 88, 132, 96), (89, 94, 132, 96), (95, 100, 132, 96), (101, 106, 132, 96), (107, 111, 132, 96), (112, 117, 132, 96)]) (gRX 13 260 4 24) M [.ref (E.2.1 132), .int 7, .int v1, .int v2, .int v3] (some (.int (aR oc))) M1 4 24 := by
  refine gMetH (by decide +kernel) (Nat.le_of_ble_eq_true rfl) ?_
  intro p e s m args below meth c H locs ls Q hC hN hT hl hI kr
  replace hC : gC p s m args c cL_act 6 RL E := hC
  replace hl : lv_has ls 6 [(0, .ref (E.2.1 132)), (1, .int 7), (2, .int v1), (3, .int v2), (4, .int v3)] := hl
  have hx := hC.1
  have hb := hC.2.1
  refine lv_iload_n hx hb dL_act_0 rfl (lv_at hl 1 rfl) ?_
  refine g_tabK (k := 7) (tgt := 107) hC dL_act_1 rfl (by decide) (by decide) rfl rfl ?_
  refine lv_aload_n hx hb dL_act_107 rfl (lv_at hl 0 rfl) ?_
  have hm := C_X6_mostUrgent l hst E () hf
  rcases oc with er | b
  · refine g_xV (rest := []) hC hI hm Y_X6_mostUrgent V_X6_mostUrgent w597 (rcv_X6 hC hI) ⟨rfl, rfl⟩ ⟨Nat.le_of_ble_eq_true rfl, Nat.le_of_ble_eq_true rfl⟩ rfl hl.1 rfl (Nat.le_of_ble_eq_true rfl) dL_act_108 ⟨Nat.le_of_ble_eq_true rfl, Nat.le_of_ble_eq_true rfl⟩ (fun rv H locs ho => nomatch ho) (fun En2 ce q H locs ho hI hce hcv hcl => ?_)
    cases ho
    have hq := ha _ rfl
    rcases List.mem_cons.mp hq with hq | hq
    · subst hq
      refine g_catch2 hC hT [⟨0, 56, 118, 90⟩, ⟨57, 73, 118, 90⟩, ⟨74, 82, 118, 90⟩, ⟨83, 88, 118, 90⟩, ⟨89, 94, 118, 90⟩, ⟨95, 100, 118, 90⟩, ⟨101, 106, 118, 90⟩, ⟨107, 111, 118, 90⟩, ⟨112, 117, 118, 90⟩, ⟨0, 56, 122, 92⟩, ⟨57, 73, 122, 92⟩, ⟨74, 82, 122, 92⟩, ⟨83, 88, 122, 92⟩, ⟨89, 94, 122, 92⟩, ⟨95, 100, 122, 92⟩, ⟨101, 106, 122, 92⟩, ⟨107, 111, 122, 92⟩, ⟨112, 117, 122, 92⟩, ⟨0, 56, 127, 94⟩, ⟨57, 73, 127, 94⟩, ⟨74, 82, 127, 94⟩, ⟨83, 88, 127, 94⟩, ⟨89, 94, 127, 94⟩, ⟨95, 100, 127, 94⟩, ⟨101, 106, 127, 94⟩, ⟨107, 111, 127, 94⟩, ⟨112, 117, 127, 94⟩, ⟨0, 56, 132, 96⟩, ⟨57, 73, 132, 96⟩, ⟨74, 82, 132, 96⟩, ⟨83, 88, 132, 96⟩, ⟨89, 94, 132, 96⟩, ⟨95, 100, 132, 96⟩, ⟨101, 106, 132, 96⟩] ⟨107, 111, 132, 96⟩ [⟨112, 117, 132, 96⟩] rfl (List.forall_mem_cons.mpr ⟨Or.inl (by decide), (List.forall_mem_cons.mpr ⟨Or.inl (by decide), (List.forall_mem_cons.mpr ⟨Or.inl (by decide), (List.forall_mem_cons.mpr ⟨Or.inl (by decide), (List.forall_mem_cons.mpr ⟨Or.inl (by decide), (List.forall_mem_cons.mpr ⟨Or.inl (by decide), (List.forall_mem_cons.mpr ⟨Or.inl (by decide), (List.forall_mem_cons.mpr ⟨Or.inr ⟨by decide, _, w1099, hN ("java/util/NoSuchElementException", "java/lang/IndexOutOfBoundsException") (by decide +kernel)⟩, (List.forall_mem_cons.mpr ⟨Or.inl (by decide), (List.forall_mem_cons.mpr ⟨Or.inl (by decide), (List.forall_mem_cons.mpr ⟨Or.inl (by decide), (List.forall_mem_cons.mpr ⟨Or.inl (by decide), (List.forall_mem_cons.mpr ⟨Or.inl (by decide), (List.forall_mem_cons.mpr ⟨Or.inl (by decide), (List.forall_mem_cons.mpr ⟨Or.inl (by decide), (List.forall_mem_cons.mpr ⟨Or.inl (by decide), (List.forall_mem_cons.mpr ⟨Or.inr ⟨by decide, _, w1120, hN ("java/util/NoSuchElementException", "java/lang/IllegalArgumentException") (by decide +kernel)⟩, (List.forall_mem_cons.mpr ⟨Or.inl (by decide), (List.forall_mem_cons.mpr ⟨Or.inl (by decide), (List.forall_mem_cons.mpr ⟨Or.inl (by decide), (List.forall_mem_cons.mpr ⟨Or.inl (by decide), (List.forall_mem_cons.mpr ⟨Or.inl (by decide), (List.forall_mem_cons.mpr ⟨Or.inl (by decide), (List.forall_mem_cons.mpr ⟨Or.inl (by decide), (List.forall_mem_cons.mpr ⟨Or.inl (by decide), (List.forall_mem_cons.mpr ⟨Or.inr ⟨by decide, _, w1121, hN ("java/util/NoSuchElementException", "java/lang/IllegalStateException") (by decide +kernel)⟩, (List.forall_mem_cons.mpr ⟨Or.inl (by decide), (List.forall_mem_cons.mpr ⟨Or.inl (by decide), (List.forall_mem_cons.mpr ⟨Or.inl (by decide), (List.forall_mem_cons.mpr ⟨Or.inl (by decide), (List.forall_mem_cons.mpr ⟨Or.inl (by decide), (List.forall_mem_cons.mpr ⟨Or.inl (by decide), (List.forall_mem_cons.mpr ⟨Or.inl (by decide), (List.forall_mem_cons.mpr ⟨Or.inl (by decide), (fun _ h => absurd h List.not_mem_nil)⟩)⟩)⟩)⟩)⟩)⟩)⟩)⟩)⟩)⟩)⟩)⟩)⟩)⟩)⟩)⟩)⟩)⟩)⟩)⟩)⟩)⟩)⟩)⟩)⟩)⟩)⟩)⟩)⟩)⟩)⟩)⟩)⟩)⟩) (by decide) (by decide) w1122 (by decide +kernel) hce hcv hcl ?_
      refine lv_astore (lv' := [(5, .ref q), (0, .ref (E.2.1 132)), (1, .int 7), (2, .int v1), (3, .int v2), (4, .int v3)]) hx hb dL_act_132 hl (by decide) rfl (fun ls hl => ?_)
      refine lv_bipush (v := (-4)) hx hb dL_act_134 (by decide) ?_
      exact kr _ _ _ _ _ _ _ (by decide) hI ⟨Nat.le_of_ble_eq_true rfl, Nat.le_of_ble_eq_true rfl⟩ dL_act_136
    exact absurd hq List.not_mem_nil
  · refine g_xV (rest := []) hC hI hm Y_X6_mostUrgent V_X6_mostUrgent w597 (rcv_X6 hC hI) ⟨rfl, rfl⟩ ⟨Nat.le_of_ble_eq_true rfl, Nat.le_of_ble_eq_true rfl⟩ rfl hl.1 rfl (Nat.le_of_ble_eq_true rfl) dL_act_108 ⟨Nat.le_of_ble_eq_true rfl, Nat.le_of_ble_eq_true rfl⟩ (fun rv H locs ho hI => ?_) (fun En ce q H locs ho => nomatch ho)
    cases ho
    exact kr _ _ _ _ _ _ _ rfl hI ⟨Nat.le_of_ble_eq_true rfl, Nat.le_of_ble_eq_true rfl⟩ dL_act_111
set_option maxRecDepth 100000 in
set_option maxHeartbeats 4000000 in
theorem A_stow (l : Launch) (hst : l.stackTraces = false) (E : gE) {v1 v2 v3 v4 : Int32} {M : gM} {oc : String ⊕ Int32} {M1 : gM} (hf : f_X6_stow v1 v2 v3 v4 M = some (oc, M1)) (ha : aO ["java/lang/IndexOutOfBoundsException", "java/lang/IllegalArgumentException", "java/lang/IllegalStateException"] oc) : gH l E yL_stow (.codeWith yL_stow cL_stow 6 (some .int) [(0, 9, 10, 90), (0, 9, 14, 92), (0, 9, 19, 94)]) (gRX 13 260 4 24) M [.ref (E.2.1 132), .int v1, .int v2, .int v3, .int v4] (some (.int (aR oc))) M1 4 24 := by
  refine gMetH (by decide +kernel) (Nat.le_of_ble_eq_true rfl) ?_
  intro p e s m args below meth c H locs ls Q hC hN hT hl hI kr
  replace hC : gC p s m args c cL_stow 6 RL E := hC
  replace hl : lv_has ls 6 [(0, .ref (E.2.1 132)), (1, .int v1), (2, .int v2), (3, .int v3), (4, .int v4)] := hl
  have hx := hC.1
  have hb := hC.2.1
  refine lv_aload_n hx hb dL_stow_0 rfl (lv_at hl 0 rfl) ?_
  refine lv_iload_n hx hb dL_stow_1 rfl (lv_at hl 1 rfl) ?_
  refine lv_iload_n hx hb dL_stow_2 rfl (lv_at hl 2 rfl) ?_
  refine lv_iload_n hx hb dL_stow_3 rfl (lv_at hl 3 rfl) ?_
  refine lv_iload hx hb dL_stow_4 (lv_at hl 4 rfl) ?_
  have hm := C_X6_stow l hst E () hf
  rcases oc with er | b
  · refine g_xV (rest := []) hC hI hm Y_X6_stow V_X6_stow w230 (rcv_X6 hC hI) ⟨rfl, rfl⟩ ⟨Nat.le_of_ble_eq_true rfl, Nat.le_of_ble_eq_true rfl⟩ rfl hl.1 rfl (Nat.le_of_ble_eq_true rfl) dL_stow_6 ⟨Nat.le_of_ble_eq_true rfl, Nat.le_of_ble_eq_true rfl⟩ (fun rv H locs ho => nomatch ho) (fun En2 ce q H locs ho hI hce hcv hcl => ?_)
    cases ho
    have hq := ha _ rfl
    rcases List.mem_cons.mp hq with hq | hq
    · subst hq
      refine g_catch2 hC hT [] ⟨0, 9, 10, 90⟩ [⟨0, 9, 14, 92⟩, ⟨0, 9, 19, 94⟩] rfl (fun _ h => absurd h List.not_mem_nil) (by decide) (by decide) w1099 (by decide +kernel) hce hcv hcl ?_
      refine lv_astore (lv' := [(5, .ref q), (0, .ref (E.2.1 132)), (1, .int v1), (2, .int v2), (3, .int v3), (4, .int v4)]) hx hb dL_stow_10 hl (by decide) rfl (fun ls hl => ?_)
      refine lv_iconst (v := (-1)) hx hb dL_stow_12 (by decide) ?_
      exact kr _ _ _ _ _ _ _ (by decide) hI ⟨Nat.le_of_ble_eq_true rfl, Nat.le_of_ble_eq_true rfl⟩ dL_stow_13
    rcases List.mem_cons.mp hq with hq | hq
    · subst hq
      refine g_catch2 hC hT [⟨0, 9, 10, 90⟩] ⟨0, 9, 14, 92⟩ [⟨0, 9, 19, 94⟩] rfl (List.forall_mem_cons.mpr ⟨Or.inr ⟨by decide, _, w1099, hN ("java/lang/IllegalArgumentException", "java/lang/IndexOutOfBoundsException") (by decide +kernel)⟩, (fun _ h => absurd h List.not_mem_nil)⟩) (by decide) (by decide) w1120 (by decide +kernel) hce hcv hcl ?_
      refine lv_astore (lv' := [(5, .ref q), (0, .ref (E.2.1 132)), (1, .int v1), (2, .int v2), (3, .int v3), (4, .int v4)]) hx hb dL_stow_14 hl (by decide) rfl (fun ls hl => ?_)
      refine lv_bipush (v := (-2)) hx hb dL_stow_16 (by decide) ?_
      exact kr _ _ _ _ _ _ _ (by decide) hI ⟨Nat.le_of_ble_eq_true rfl, Nat.le_of_ble_eq_true rfl⟩ dL_stow_18
    rcases List.mem_cons.mp hq with hq | hq
    · subst hq
      refine g_catch2 hC hT [⟨0, 9, 10, 90⟩, ⟨0, 9, 14, 92⟩] ⟨0, 9, 19, 94⟩ [] rfl (List.forall_mem_cons.mpr ⟨Or.inr ⟨by decide, _, w1099, hN ("java/lang/IllegalStateException", "java/lang/IndexOutOfBoundsException") (by decide +kernel)⟩, (List.forall_mem_cons.mpr ⟨Or.inr ⟨by decide, _, w1120, hN ("java/lang/IllegalStateException", "java/lang/IllegalArgumentException") (by decide +kernel)⟩, (fun _ h => absurd h List.not_mem_nil)⟩)⟩) (by decide) (by decide) w1121 (by decide +kernel) hce hcv hcl ?_
      refine lv_astore (lv' := [(5, .ref q), (0, .ref (E.2.1 132)), (1, .int v1), (2, .int v2), (3, .int v3), (4, .int v4)]) hx hb dL_stow_19 hl (by decide) rfl (fun ls hl => ?_)
      refine lv_bipush (v := (-3)) hx hb dL_stow_21 (by decide) ?_
      exact kr _ _ _ _ _ _ _ (by decide) hI ⟨Nat.le_of_ble_eq_true rfl, Nat.le_of_ble_eq_true rfl⟩ dL_stow_23
    exact absurd hq List.not_mem_nil
  · refine g_xV (rest := []) hC hI hm Y_X6_stow V_X6_stow w230 (rcv_X6 hC hI) ⟨rfl, rfl⟩ ⟨Nat.le_of_ble_eq_true rfl, Nat.le_of_ble_eq_true rfl⟩ rfl hl.1 rfl (Nat.le_of_ble_eq_true rfl) dL_stow_6 ⟨Nat.le_of_ble_eq_true rfl, Nat.le_of_ble_eq_true rfl⟩ (fun rv H locs ho hI => ?_) (fun En ce q H locs ho => nomatch ho)
    cases ho
    exact kr _ _ _ _ _ _ _ rfl hI ⟨Nat.le_of_ble_eq_true rfl, Nat.le_of_ble_eq_true rfl⟩ dL_stow_9
set_option maxRecDepth 100000 in
set_option maxHeartbeats 4000000 in
theorem A_run (l : Launch) (hst : l.stackTraces = false) (E : gE) {M : gM} {oc : String ⊕ Int32} {M1 : gM} (hf : f_X6_run  M = some (oc, M1)) (ha : aO ["java/lang/IllegalArgumentException", "java/lang/IllegalStateException"] oc) : gH l E yL_runs (.codeWith yL_runs cL_runs 2 (some .int) [(0, 4, 5, 92), (0, 4, 8, 94)]) (gRX 13 260 4 24) M [.ref (E.2.1 132)] (some (.int (rR oc))) M1 4 24 := by
  refine gMetH (by decide +kernel) (Nat.le_of_ble_eq_true rfl) ?_
  intro p e s m args below meth c H locs ls Q hC hN hT hl hI kr
  replace hC : gC p s m args c cL_runs 2 RL E := hC
  replace hl : lv_has ls 2 [(0, .ref (E.2.1 132))] := hl
  have hx := hC.1
  have hb := hC.2.1
  refine lv_aload_n hx hb dL_runs_0 rfl (lv_at hl 0 rfl) ?_
  have hm := C_X6_run l hst E () hf
  rcases oc with er | b
  · refine g_xV (rest := []) hC hI hm Y_X6_run V_X6_run w890 (rcv_X6 hC hI) ⟨rfl, rfl⟩ ⟨Nat.le_of_ble_eq_true rfl, Nat.le_of_ble_eq_true rfl⟩ rfl hl.1 rfl (Nat.le_of_ble_eq_true rfl) dL_runs_1 ⟨Nat.le_of_ble_eq_true rfl, Nat.le_of_ble_eq_true rfl⟩ (fun rv H locs ho => nomatch ho) (fun En2 ce q H locs ho hI hce hcv hcl => ?_)
    cases ho
    have hq := ha _ rfl
    rcases List.mem_cons.mp hq with hq | hq
    · subst hq
      refine g_catch2 hC hT [] ⟨0, 4, 5, 92⟩ [⟨0, 4, 8, 94⟩] rfl (fun _ h => absurd h List.not_mem_nil) (by decide) (by decide) w1120 (by decide +kernel) hce hcv hcl ?_
      refine lv_astore_n (lv' := [(1, .ref q), (0, .ref (E.2.1 132))]) hx hb dL_runs_5 rfl hl (by decide) rfl (fun ls hl => ?_)
      refine lv_iconst (v := (-1)) hx hb dL_runs_6 (by decide) ?_
      exact kr _ _ _ _ _ _ _ (by decide) hI ⟨Nat.le_of_ble_eq_true rfl, Nat.le_of_ble_eq_true rfl⟩ dL_runs_7
    rcases List.mem_cons.mp hq with hq | hq
    · subst hq
      refine g_catch2 hC hT [⟨0, 4, 5, 92⟩] ⟨0, 4, 8, 94⟩ [] rfl (List.forall_mem_cons.mpr ⟨Or.inr ⟨by decide, _, w1120, hN ("java/lang/IllegalStateException", "java/lang/IllegalArgumentException") (by decide +kernel)⟩, (fun _ h => absurd h List.not_mem_nil)⟩) (by decide) (by decide) w1121 (by decide +kernel) hce hcv hcl ?_
      refine lv_astore_n (lv' := [(1, .ref q), (0, .ref (E.2.1 132))]) hx hb dL_runs_8 rfl hl (by decide) rfl (fun ls hl => ?_)
      refine lv_bipush (v := (-2)) hx hb dL_runs_9 (by decide) ?_
      exact kr _ _ _ _ _ _ _ (by decide) hI ⟨Nat.le_of_ble_eq_true rfl, Nat.le_of_ble_eq_true rfl⟩ dL_runs_11
    exact absurd hq List.not_mem_nil
  · refine g_xV (rest := []) hC hI hm Y_X6_run V_X6_run w890 (rcv_X6 hC hI) ⟨rfl, rfl⟩ ⟨Nat.le_of_ble_eq_true rfl, Nat.le_of_ble_eq_true rfl⟩ rfl hl.1 rfl (Nat.le_of_ble_eq_true rfl) dL_runs_1 ⟨Nat.le_of_ble_eq_true rfl, Nat.le_of_ble_eq_true rfl⟩ (fun rv H locs ho hI => ?_) (fun En ce q H locs ho => nomatch ho)
    cases ho
    exact kr _ _ _ _ _ _ _ rfl hI ⟨Nat.le_of_ble_eq_true rfl, Nat.le_of_ble_eq_true rfl⟩ dL_runs_4
