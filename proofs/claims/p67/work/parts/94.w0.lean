/-! The law's walk: x and y; laid by wip/p67/gen/w0.py. -/
def ldcR (adK : Nat → Nat) (s : State) : Prop := ∀ q ∈ ([(188, "hours 3;hours 25", 0), (200, "hours 1;hours 101", 1), (208, "leave 3", 2), (210, "mo", 3), (216, "stow 0", 4), (218, "clear 03", 5), (220, "move 01", 6), (222, "hours 1234", 7), (224, "", 8), (226, "leave 0;", 9), (228, "mox", 10), (230, "move 0123", 11), (232, "deliver", 12), (233, "z", 13), (250, "moor 1 7 2;stow 12 ", 14), (258, "/", 15), (260, ";stow 12 20/50;stow 10 ", 16), (323, "B1 d7 h2 0", 17), (329, "B0 -", 18), (334, "3:30/99", 19)] : List (Nat × String × Nat)), vk_R RL q.1 q.2.1 (adK (7 + q.2.2)) s
section LXY
variable {p : Program} {l : Launch} {e : Env} {s : State} {m : MethodId} {args : Array Value} {below : List Frame} {meth : Method} {c : Code} {H : Heap} {locs : List Loc} {Q : State → Prop} {D : va_G} {cid : Nat → ClassId} {J : jA} {Ex Ey Ez : gE} {adK adV : Nat → Nat} {ls : Array Slot} {r : Nat → Int32} {β b : Nat}
set_option maxRecDepth 100000 in
set_option maxHeartbeats 8000000 in
theorem law_a {MB : gM} (hst : l.stackTraces = false) (hC : lC p s m args c cL_law 10 RL D cid J) (hLd : ldcR adK s) (hEx : lE s D cid Ex) (hSx : Ex.2.2.2.2.2 = lss) (hKx : Ex.2.2.2.1 = adK) (hEy : lE s D cid Ey) (g : gSim MB 0 r) (w : gRow β r) (hβ : β ≤ 570) (ch : cH β MB []) (ht : MB 146 1 = nI 0) (hI : jI D s (A0 s) (gwl Ex MB () ++ (gwl Ey MB () ++ ([]))) H locs) (hl : lv_has ls 10 [(2, .ref (Ey.2.1 132)), (1, .ref (Ex.2.1 132)), (0, .ref b)])
    (kk : ∀ (Mx My : gM), xI β r Mx → ∀ (H : Heap) (locs : List Loc) (ls : Array Slot), jI D s (A0 s) (gwl Ex Mx () ++ (gwl Ey My () ++ ([]))) H locs → lv_has ls 10 [(4, .int (stV r)), (3, .int (r 7 + r 8 + r 9)), (2, .ref (Ey.2.1 132)), (1, .ref (Ex.2.1 132)), (0, .ref b)] → W p l e room_1 s m args below meth c H locs 12000 90000 Q (F0 m 106 ls [])) :
    W p l e room_1 s m args below meth c H locs 6000 40000 Q (F0 m 10 ls []) := by
  have hx := hC.1.1.1
  have hb := hC.1.1.2.1
  have hown := hC.1.1.2.2.2.1
  have hts := hC.1.1.2.2.2.2.1
  obtain ⟨M1, M2, M3, M4, x1, x2, x3, x4, x5, ⟨xv, xv8, x6⟩, x7⟩ := x_run g w (by omega) ch ht
  obtain ⟨N1, N2, N3, N4, ⟨y1, y1b, y1e⟩, ⟨y2, y2b, y2e⟩, y3, ⟨y4, y4b, y4e⟩, ⟨y5, y5b, y5e⟩, y6⟩ := y_run g w (by omega) ch
  have w1 := (hpI_ok w (show β ≤ 590 by omega) (n := 3) (by omega)).1
  have w2 := (hpI_ok w1 (show β + 1 ≤ 590 by omega) (n := 25) (by omega)).1
  refine lv_aload_n hx hb dL_law_10 rfl (lv_at hl 1 rfl) ?_
  refine l_call0 (rest := []) (v0 := (.int (r 7 + r 8 + r 9))) (X' := (gwl Ex M1 () ++ (gwl Ey MB () ++ ([])))) hC hEx hI (List.Perm.refl _) (List.Perm.refl _) (C_X6_save l Ex () x1) Y_X6_save V_X6_save w1066 rfl ⟨rfl, rfl⟩ ⟨Nat.le_of_ble_eq_true rfl, Nat.le_of_ble_eq_true rfl⟩ rfl hl.1 rfl (Nat.le_of_ble_eq_true rfl) dL_law_11 ⟨Nat.le_of_ble_eq_true rfl, Nat.le_of_ble_eq_true rfl⟩ (fun H locs (hI : jI D s (A0 s) (gwl Ex M1 () ++ (gwl Ey MB () ++ ([]))) H locs) => ?_)
  refine lv_istore_n (lv' := [(3, .int (r 7 + r 8 + r 9)), (2, .ref (Ey.2.1 132)), (1, .ref (Ex.2.1 132)), (0, .ref b)]) hx hb dL_law_14 rfl hl (by decide) rfl (fun ls hl => ?_)
  refine lv_aload_n hx hb dL_law_15 rfl (lv_at hl 2 rfl) ?_
  refine l_state (rest := []) hst hC hEx hI (List.Perm.refl _) x2 w w1145 ⟨Nat.le_of_ble_eq_true rfl, Nat.le_of_ble_eq_true rfl⟩ hl.1 (Nat.le_of_ble_eq_true rfl) dL_law_16 ⟨Nat.le_of_ble_eq_true rfl, Nat.le_of_ble_eq_true rfl⟩ (fun H locs (hI : jI D s (A0 s) (gwl Ex M1 () ++ (gwl Ey MB () ++ ([]))) H locs) => ?_)
  refine lv_istore (lv' := [(4, .int (stV r)), (3, .int (r 7 + r 8 + r 9)), (2, .ref (Ey.2.1 132)), (1, .ref (Ex.2.1 132)), (0, .ref b)]) hx hb dL_law_19 hl (by decide) rfl (fun ls hl => ?_)
  refine lv_aload_n hx hb dL_law_21 rfl (lv_at hl 3 rfl) ?_
  refine va_ldcS hx hb hown (hLd (188, "hours 3;hours 25", 0) (by decide +kernel)) dL_law_22 ?_
  refine l_callHS (As := [.ref (Ex.2.1 132), .ref (Ex.2.2.2.1 (7 + 0))]) (rest := []) (X' := (gwl Ex M2 () ++ (gwl Ey MB () ++ ([])))) hC hEx hI (List.Perm.refl _) (List.Perm.refl _) (C_put l hst Ex (j := 0) (bs := tx_h325.map nI) (by rw [hSx]; rfl) (Nat.le_of_ble_eq_true rfl) x3) Y_L_put S_L_put w1078 ⟨rfl, rfl⟩ ⟨Nat.le_of_ble_eq_true rfl, Nat.le_of_ble_eq_true rfl⟩ rfl hl.1 (by rw [hKx]; rfl) (Nat.le_of_ble_eq_true rfl) dL_law_24 ⟨Nat.le_of_ble_eq_true rfl, Nat.le_of_ble_eq_true rfl⟩ (fun H locs (hI : jI D s (A0 s) (gwl Ex M2 () ++ (gwl Ey MB () ++ ([]))) H locs) => ?_)
  refine lv_aload_n hx hb dL_law_27 rfl (lv_at hl 3 rfl) ?_
  refine l_callX (rest := []) (v0 := (.int (nI 2))) (X' := (gwl Ex M3 () ++ (gwl Ey MB () ++ ([])))) hC hEx hI (List.Perm.refl _) (List.Perm.refl _) (C_X6_run l hst Ex () x4) Y_X6_run V_X6_run w890 rfl ⟨rfl, rfl⟩ ⟨Nat.le_of_ble_eq_true rfl, Nat.le_of_ble_eq_true rfl⟩ rfl hl.1 rfl (Nat.le_of_ble_eq_true rfl) dL_law_28 ⟨Nat.le_of_ble_eq_true rfl, Nat.le_of_ble_eq_true rfl⟩ (fun H locs (hI : jI D s (A0 s) (gwl Ex M3 () ++ (gwl Ey MB () ++ ([]))) H locs) => ?_)
  refine lv_iconst (v := 2) hx hb dL_law_31 (by decide) ?_
  refine lv_icmp_ne (tgt := 63) hx hb dL_law_32 rfl (fun h => absurd rfl h) (fun _ => ?_)
  refine lv_aload_n hx hb dL_law_35 rfl (lv_at hl 2 rfl) ?_
  refine lv_iconst (v := 3) hx hb dL_law_36 (by decide) ?_
  refine l_callX (rest := []) (v0 := (.int (nI y1))) (X' := (gwl Ex M3 () ++ (gwl Ey N1 () ++ ([])))) hC hEy hI pm2 pm2 (C_X6_pass l hst Ey () y1e) Y_X6_pass V_X6_pass w538 rfl ⟨rfl, rfl⟩ ⟨Nat.le_of_ble_eq_true rfl, Nat.le_of_ble_eq_true rfl⟩ rfl hl.1 rfl (Nat.le_of_ble_eq_true rfl) dL_law_37 ⟨Nat.le_of_ble_eq_true rfl, Nat.le_of_ble_eq_true rfl⟩ (fun H locs (hI : jI D s (A0 s) (gwl Ex M3 () ++ (gwl Ey N1 () ++ ([]))) H locs) => ?_)
  refine lv_if_lt (tgt := 63) hx hb dL_law_40 rfl (fun h => absurd h (nI_pos (by omega))) (fun _ => ?_)
  refine lv_aload_n hx hb dL_law_43 rfl (lv_at hl 2 rfl) ?_
  refine lv_bipush (v := 25) hx hb dL_law_44 (by decide) ?_
  refine l_callX (rest := []) (v0 := (.int (nI y2))) (X' := (gwl Ex M3 () ++ (gwl Ey N2 () ++ ([])))) hC hEy hI pm2 pm2 (C_X6_pass l hst Ey () y2e) Y_X6_pass V_X6_pass w538 rfl ⟨rfl, rfl⟩ ⟨Nat.le_of_ble_eq_true rfl, Nat.le_of_ble_eq_true rfl⟩ rfl hl.1 rfl (Nat.le_of_ble_eq_true rfl) dL_law_46 ⟨Nat.le_of_ble_eq_true rfl, Nat.le_of_ble_eq_true rfl⟩ (fun H locs (hI : jI D s (A0 s) (gwl Ex M3 () ++ (gwl Ey N2 () ++ ([]))) H locs) => ?_)
  refine lv_if_lt (tgt := 63) hx hb dL_law_49 rfl (fun h => absurd h (nI_pos (by omega))) (fun _ => ?_)
  refine lv_aload_n hx hb dL_law_52 rfl (lv_at hl 3 rfl) ?_
  refine l_state (rest := []) hst hC hEx hI (List.Perm.refl _) x5 w2 w1145 ⟨Nat.le_of_ble_eq_true rfl, Nat.le_of_ble_eq_true rfl⟩ hl.1 (Nat.le_of_ble_eq_true rfl) dL_law_53 ⟨Nat.le_of_ble_eq_true rfl, Nat.le_of_ble_eq_true rfl⟩ (fun H locs (hI : jI D s (A0 s) (gwl Ex M3 () ++ (gwl Ey N2 () ++ ([]))) H locs) => ?_)
  refine lv_aload_n hx hb dL_law_56 rfl (lv_at hl 2 rfl) ?_
  refine l_state (rest := [.int (stV (hpI (hpI r 3) 25))]) hst hC hEy hI pm2 y3 w2 w1145 ⟨Nat.le_of_ble_eq_true rfl, Nat.le_of_ble_eq_true rfl⟩ hl.1 (Nat.le_of_ble_eq_true rfl) dL_law_57 ⟨Nat.le_of_ble_eq_true rfl, Nat.le_of_ble_eq_true rfl⟩ (fun H locs (hI : jI D s (A0 s) (gwl Ex M3 () ++ (gwl Ey N2 () ++ ([]))) H locs) => ?_)
  refine lv_icmp_eq (tgt := 65) hx hb dL_law_60 rfl (fun _ => ?_) (fun h => absurd rfl h)
  refine lv_aload_n hx hb dL_law_65 rfl (lv_at hl 3 rfl) ?_
  refine l_callX (rest := []) (v0 := (.int (nI xv))) (X' := (gwl Ex M4 () ++ (gwl Ey N2 () ++ ([])))) hC hEx hI (List.Perm.refl _) (List.Perm.refl _) (C_X6_undo l hst Ex () x6) Y_X6_undo V_X6_undo w1057 rfl ⟨rfl, rfl⟩ ⟨Nat.le_of_ble_eq_true rfl, Nat.le_of_ble_eq_true rfl⟩ rfl hl.1 rfl (Nat.le_of_ble_eq_true rfl) dL_law_66 ⟨Nat.le_of_ble_eq_true rfl, Nat.le_of_ble_eq_true rfl⟩ (fun H locs (hI : jI D s (A0 s) (gwl Ex M4 () ++ (gwl Ey N2 () ++ ([]))) H locs) => ?_)
  refine lv_if_lt (tgt := 104) hx hb dL_law_69 rfl (fun h => absurd h (nI_pos (by omega))) (fun _ => ?_)
  refine lv_aload_n hx hb dL_law_72 rfl (lv_at hl 3 rfl) ?_
  refine l_state (rest := []) hst hC hEx hI (List.Perm.refl _) x7.1 w w1145 ⟨Nat.le_of_ble_eq_true rfl, Nat.le_of_ble_eq_true rfl⟩ hl.1 (Nat.le_of_ble_eq_true rfl) dL_law_73 ⟨Nat.le_of_ble_eq_true rfl, Nat.le_of_ble_eq_true rfl⟩ (fun H locs (hI : jI D s (A0 s) (gwl Ex M4 () ++ (gwl Ey N2 () ++ ([]))) H locs) => ?_)
  refine lv_iload hx hb dL_law_76 (lv_at hl 0 rfl) ?_
  refine lv_icmp_ne (tgt := 104) hx hb dL_law_78 rfl (fun h => absurd rfl h) (fun _ => ?_)
  refine lv_aload_n hx hb dL_law_81 rfl (lv_at hl 2 rfl) ?_
  refine l_callX (rest := []) (v0 := (.int (nI y4))) (X' := (gwl Ex M4 () ++ (gwl Ey N3 () ++ ([])))) hC hEy hI pm2 pm2 (C_X6_undo l hst Ey () y4e) Y_X6_undo V_X6_undo w1057 rfl ⟨rfl, rfl⟩ ⟨Nat.le_of_ble_eq_true rfl, Nat.le_of_ble_eq_true rfl⟩ rfl hl.1 rfl (Nat.le_of_ble_eq_true rfl) dL_law_82 ⟨Nat.le_of_ble_eq_true rfl, Nat.le_of_ble_eq_true rfl⟩ (fun H locs (hI : jI D s (A0 s) (gwl Ex M4 () ++ (gwl Ey N3 () ++ ([]))) H locs) => ?_)
  refine lv_if_lt (tgt := 104) hx hb dL_law_85 rfl (fun h => absurd h (nI_pos (by omega))) (fun _ => ?_)
  refine lv_aload_n hx hb dL_law_88 rfl (lv_at hl 2 rfl) ?_
  refine l_callX (rest := []) (v0 := (.int (nI y5))) (X' := (gwl Ex M4 () ++ (gwl Ey N4 () ++ ([])))) hC hEy hI pm2 pm2 (C_X6_undo l hst Ey () y5e) Y_X6_undo V_X6_undo w1057 rfl ⟨rfl, rfl⟩ ⟨Nat.le_of_ble_eq_true rfl, Nat.le_of_ble_eq_true rfl⟩ rfl hl.1 rfl (Nat.le_of_ble_eq_true rfl) dL_law_89 ⟨Nat.le_of_ble_eq_true rfl, Nat.le_of_ble_eq_true rfl⟩ (fun H locs (hI : jI D s (A0 s) (gwl Ex M4 () ++ (gwl Ey N4 () ++ ([]))) H locs) => ?_)
  refine lv_if_lt (tgt := 104) hx hb dL_law_92 rfl (fun h => absurd h (nI_pos (by omega))) (fun _ => ?_)
  refine lv_aload_n hx hb dL_law_95 rfl (lv_at hl 2 rfl) ?_
  refine l_state (rest := []) hst hC hEy hI pm2 y6 w w1145 ⟨Nat.le_of_ble_eq_true rfl, Nat.le_of_ble_eq_true rfl⟩ hl.1 (Nat.le_of_ble_eq_true rfl) dL_law_96 ⟨Nat.le_of_ble_eq_true rfl, Nat.le_of_ble_eq_true rfl⟩ (fun H locs (hI : jI D s (A0 s) (gwl Ex M4 () ++ (gwl Ey N4 () ++ ([]))) H locs) => ?_)
  refine lv_iload hx hb dL_law_99 (lv_at hl 0 rfl) ?_
  refine lv_icmp_eq (tgt := 106) hx hb dL_law_101 rfl (fun _ => ?_) (fun h => absurd rfl h)
  refine W.widen (show _ ≤ 12000 by first | omega | exact Nat.le_of_ble_eq_true rfl) (show _ ≤ 90000 by first | omega | exact Nat.le_of_ble_eq_true rfl) ?_
  exact kk M4 N4 x7 H locs ls hI hl
set_option maxRecDepth 100000 in
set_option maxHeartbeats 8000000 in
theorem law_b {Mx My : gM} (hst : l.stackTraces = false) (hC : lC p s m args c cL_law 10 RL D cid J) (hLd : ldcR adK s) (hEx : lE s D cid Ex) (hSx : Ex.2.2.2.2.2 = lss) (hKx : Ex.2.2.2.1 = adK) (hx0 : xI β r Mx) (hβ : β ≤ 570) (hI : jI D s (A0 s) (gwl Ex Mx () ++ (gwl Ey My () ++ ([]))) H locs) (hl : lv_has ls 10 [(4, .int (stV r)), (3, .int (r 7 + r 8 + r 9)), (2, .ref (Ey.2.1 132)), (1, .ref (Ex.2.1 132)), (0, .ref b)])
    (kk : ∀ (Mx : gM), xI β r Mx → Mx 132 9 = nI 0 → ∀ (H : Heap) (locs : List Loc) (ls : Array Slot), jI D s (A0 s) (gwl Ex Mx () ++ (gwl Ey My () ++ ([]))) H locs → lv_has ls 10 [(4, .int (stV r)), (3, .int (r 7 + r 8 + r 9)), (2, .ref (Ey.2.1 132)), (1, .ref (Ex.2.1 132)), (0, .ref b)] → W p l e room_1 s m args below meth c H locs 18000 130000 Q (F0 m 173 ls [])) :
    W p l e room_1 s m args below meth c H locs 12000 90000 Q (F0 m 106 ls []) := by
  have hx := hC.1.1.1
  have hb := hC.1.1.2.1
  have hown := hC.1.1.2.2.2.1
  have hts := hC.1.1.2.2.2.2.1
  obtain ⟨M1, M2, a1, a2, a3, a4, a5⟩ := x_1101 hx0 (by omega)
  obtain ⟨M3, M4, b1, b2, b3, b4, b5⟩ := x_lv3 a4
  refine lv_aload_n hx hb dL_law_106 rfl (lv_at hl 3 rfl) ?_
  refine va_ldcS hx hb hown (hLd (200, "hours 1;hours 101", 1) (by decide +kernel)) dL_law_107 ?_
  refine l_callHS (As := [.ref (Ex.2.1 132), .ref (Ex.2.2.2.1 (7 + 1))]) (rest := []) (X' := (gwl Ex M1 () ++ (gwl Ey My () ++ ([])))) hC hEx hI (List.Perm.refl _) (List.Perm.refl _) (C_put l hst Ex (j := 1) (bs := tx_h1101.map nI) (by rw [hSx]; rfl) (Nat.le_of_ble_eq_true rfl) a1) Y_L_put S_L_put w1078 ⟨rfl, rfl⟩ ⟨Nat.le_of_ble_eq_true rfl, Nat.le_of_ble_eq_true rfl⟩ rfl hl.1 (by rw [hKx]; rfl) (Nat.le_of_ble_eq_true rfl) dL_law_109 ⟨Nat.le_of_ble_eq_true rfl, Nat.le_of_ble_eq_true rfl⟩ (fun H locs (hI : jI D s (A0 s) (gwl Ex M1 () ++ (gwl Ey My () ++ ([]))) H locs) => ?_)
  refine lv_aload_n hx hb dL_law_112 rfl (lv_at hl 3 rfl) ?_
  refine l_callHW (n := 1) (rest := []) (X' := (gwl Ex M2 () ++ (gwl Ey My () ++ ([])))) hC hEx hI (List.Perm.refl _) (List.Perm.refl _) (A_run l hst Ex a2 (fun e he => by cases he; decide)) w1364 w0 S_L_runs w1362 ⟨⟨by decide, by decide⟩, by decide +kernel⟩ ⟨rfl, rfl⟩ ⟨Nat.le_of_ble_eq_true rfl, Nat.le_of_ble_eq_true rfl⟩ rfl hl.1 rfl (Nat.le_of_ble_eq_true rfl) dL_law_113 ⟨Nat.le_of_ble_eq_true rfl, Nat.le_of_ble_eq_true rfl⟩ (fun H locs (hI : jI D s (A0 s) (gwl Ex M2 () ++ (gwl Ey My () ++ ([]))) H locs) => ?_)
  refine g_top (v := (-2)) (by decide) ?_
  refine lv_bipush (v := (-2)) hx hb dL_law_116 (by decide) ?_
  refine lv_icmp_ne (tgt := 138) hx hb dL_law_118 rfl (fun h => absurd rfl h) (fun _ => ?_)
  refine lv_aload_n hx hb dL_law_121 rfl (lv_at hl 3 rfl) ?_
  refine l_callX (rest := []) (v0 := (.int (nI 1))) (X' := (gwl Ex M2 () ++ (gwl Ey My () ++ ([])))) hC hEx hI (List.Perm.refl _) (List.Perm.refl _) (C_X6_failedCommand l hst Ex () a3) Y_X6_failedCommand V_X6_failedCommand w1053 rfl ⟨rfl, rfl⟩ ⟨Nat.le_of_ble_eq_true rfl, Nat.le_of_ble_eq_true rfl⟩ rfl hl.1 rfl (Nat.le_of_ble_eq_true rfl) dL_law_122 ⟨Nat.le_of_ble_eq_true rfl, Nat.le_of_ble_eq_true rfl⟩ (fun H locs (hI : jI D s (A0 s) (gwl Ex M2 () ++ (gwl Ey My () ++ ([]))) H locs) => ?_)
  refine lv_iconst (v := 1) hx hb dL_law_125 (by decide) ?_
  refine lv_icmp_ne (tgt := 138) hx hb dL_law_126 rfl (fun h => absurd rfl h) (fun _ => ?_)
  refine lv_aload_n hx hb dL_law_129 rfl (lv_at hl 3 rfl) ?_
  refine l_state (rest := []) hst hC hEx hI (List.Perm.refl _) a4.1 a4.2.1 w1145 ⟨Nat.le_of_ble_eq_true rfl, Nat.le_of_ble_eq_true rfl⟩ hl.1 (Nat.le_of_ble_eq_true rfl) dL_law_130 ⟨Nat.le_of_ble_eq_true rfl, Nat.le_of_ble_eq_true rfl⟩ (fun H locs (hI : jI D s (A0 s) (gwl Ex M2 () ++ (gwl Ey My () ++ ([]))) H locs) => ?_)
  refine lv_iload hx hb dL_law_133 (lv_at hl 0 rfl) ?_
  refine lv_icmp_eq (tgt := 140) hx hb dL_law_135 rfl (fun _ => ?_) (fun h => absurd rfl h)
  refine lv_aload_n hx hb dL_law_140 rfl (lv_at hl 3 rfl) ?_
  refine va_ldcS hx hb hown (hLd (208, "leave 3", 2) (by decide +kernel)) dL_law_141 ?_
  refine l_callHS (As := [.ref (Ex.2.1 132), .ref (Ex.2.2.2.1 (7 + 2))]) (rest := []) (X' := (gwl Ex M3 () ++ (gwl Ey My () ++ ([])))) hC hEx hI (List.Perm.refl _) (List.Perm.refl _) (C_put l hst Ex (j := 2) (bs := tx_lv3.map nI) (by rw [hSx]; rfl) (Nat.le_of_ble_eq_true rfl) b1) Y_L_put S_L_put w1078 ⟨rfl, rfl⟩ ⟨Nat.le_of_ble_eq_true rfl, Nat.le_of_ble_eq_true rfl⟩ rfl hl.1 (by rw [hKx]; rfl) (Nat.le_of_ble_eq_true rfl) dL_law_143 ⟨Nat.le_of_ble_eq_true rfl, Nat.le_of_ble_eq_true rfl⟩ (fun H locs (hI : jI D s (A0 s) (gwl Ex M3 () ++ (gwl Ey My () ++ ([]))) H locs) => ?_)
  refine lv_aload_n hx hb dL_law_146 rfl (lv_at hl 3 rfl) ?_
  refine l_callHW (n := 1) (rest := []) (X' := (gwl Ex M4 () ++ (gwl Ey My () ++ ([])))) hC hEx hI (List.Perm.refl _) (List.Perm.refl _) (A_run l hst Ex b2 (fun e he => by cases he; decide)) w1364 w0 S_L_runs w1362 ⟨⟨by decide, by decide⟩, by decide +kernel⟩ ⟨rfl, rfl⟩ ⟨Nat.le_of_ble_eq_true rfl, Nat.le_of_ble_eq_true rfl⟩ rfl hl.1 rfl (Nat.le_of_ble_eq_true rfl) dL_law_147 ⟨Nat.le_of_ble_eq_true rfl, Nat.le_of_ble_eq_true rfl⟩ (fun H locs (hI : jI D s (A0 s) (gwl Ex M4 () ++ (gwl Ey My () ++ ([]))) H locs) => ?_)
  refine g_top (v := (-2)) (by decide) ?_
  refine lv_bipush (v := (-2)) hx hb dL_law_150 (by decide) ?_
  refine lv_icmp_ne (tgt := 171) hx hb dL_law_152 rfl (fun h => absurd rfl h) (fun _ => ?_)
  refine lv_aload_n hx hb dL_law_155 rfl (lv_at hl 3 rfl) ?_
  refine l_callX (rest := []) (v0 := (.int (nI 0))) (X' := (gwl Ex M4 () ++ (gwl Ey My () ++ ([])))) hC hEx hI (List.Perm.refl _) (List.Perm.refl _) (C_X6_failedCommand l hst Ex () b3) Y_X6_failedCommand V_X6_failedCommand w1053 rfl ⟨rfl, rfl⟩ ⟨Nat.le_of_ble_eq_true rfl, Nat.le_of_ble_eq_true rfl⟩ rfl hl.1 rfl (Nat.le_of_ble_eq_true rfl) dL_law_156 ⟨Nat.le_of_ble_eq_true rfl, Nat.le_of_ble_eq_true rfl⟩ (fun H locs (hI : jI D s (A0 s) (gwl Ex M4 () ++ (gwl Ey My () ++ ([]))) H locs) => ?_)
  refine lv_if_ne (tgt := 171) hx hb dL_law_159 rfl (fun h => absurd rfl h) (fun _ => ?_)
  refine lv_aload_n hx hb dL_law_162 rfl (lv_at hl 3 rfl) ?_
  refine l_state (rest := []) hst hC hEx hI (List.Perm.refl _) b4.1 b4.2.1 w1145 ⟨Nat.le_of_ble_eq_true rfl, Nat.le_of_ble_eq_true rfl⟩ hl.1 (Nat.le_of_ble_eq_true rfl) dL_law_163 ⟨Nat.le_of_ble_eq_true rfl, Nat.le_of_ble_eq_true rfl⟩ (fun H locs (hI : jI D s (A0 s) (gwl Ex M4 () ++ (gwl Ey My () ++ ([]))) H locs) => ?_)
  refine lv_iload hx hb dL_law_166 (lv_at hl 0 rfl) ?_
  refine lv_icmp_eq (tgt := 173) hx hb dL_law_168 rfl (fun _ => ?_) (fun h => absurd rfl h)
  refine W.widen (show _ ≤ 18000 by exact Nat.le_of_ble_eq_true rfl) (show _ ≤ 130000 by exact Nat.le_of_ble_eq_true rfl) ?_
  exact kk M4 b4 b5 H locs ls hI hl
set_option maxRecDepth 100000 in
set_option maxHeartbeats 8000000 in
theorem law_c {Mx My : gM} (hst : l.stackTraces = false) (hC : lC p s m args c cL_law 10 RL D cid J) (hLd : ldcR adK s) (hEx : lE s D cid Ex) (hSx : Ex.2.2.2.2.2 = lss) (hKx : Ex.2.2.2.1 = adK) (hx0 : xI β r Mx) (h9 : Mx 132 9 = nI 0) (hI : jI D s (A0 s) (gwl Ex Mx () ++ (gwl Ey My () ++ ([]))) H locs) (hl : lv_has ls 10 [(4, .int (stV r)), (3, .int (r 7 + r 8 + r 9)), (2, .ref (Ey.2.1 132)), (1, .ref (Ex.2.1 132)), (0, .ref b)])
    (kk : ∀ (Mx : gM), xI β r Mx → ∀ (H : Heap) (locs : List Loc) (ls : Array Slot), jI D s (A0 s) (gwl Ex Mx () ++ (gwl Ey My () ++ ([]))) H locs → lv_has ls 10 [(4, .int (stV r)), (3, .int (r 7 + r 8 + r 9)), (2, .ref (Ey.2.1 132)), (1, .ref (Ex.2.1 132)), (0, .ref b)] → W p l e room_1 s m args below meth c H locs 22000 150000 Q (F0 m 308 ls [])) :
    W p l e room_1 s m args below meth c H locs 18000 130000 Q (F0 m 173 ls []) := by
  have hx := hC.1.1.1
  have hb := hC.1.1.2.1
  have hown := hC.1.1.2.2.2.1
  have hts := hC.1.1.2.2.2.2.1
  obtain ⟨N0, M0, a0, b0, e0, x0, f0⟩ := x_b0 hx0
  refine lv_aload_n hx hb dL_law_173 rfl (lv_at hl 3 rfl) ?_
  refine va_ldcS hx hb hown (hLd (210, "mo", 3) (by decide +kernel)) dL_law_174 ?_
  refine lv_iconst (v := 2) hx hb dL_law_176 (by decide) ?_
  refine g_top (v := nI 2) (by decide) ?_
  refine l_callHS (As := [.ref (Ex.2.1 132), .ref (Ex.2.2.2.1 (7 + 3)), .int (nI 2)]) (rest := []) (X' := (gwl Ex M0 () ++ (gwl Ey My () ++ ([])))) hC hEx hI (List.Perm.refl _) (List.Perm.refl _) (C_fails l hst Ex (j := 3) (bs := tx_b0.map nI) (by rw [hSx]; rfl) (Nat.le_of_ble_eq_true rfl) a0 b0 e0) Y_L_fails S_L_fails w1365 ⟨rfl, rfl⟩ ⟨Nat.le_of_ble_eq_true rfl, Nat.le_of_ble_eq_true rfl⟩ rfl hl.1 (by rw [hKx]; rfl) (Nat.le_of_ble_eq_true rfl) dL_law_177 ⟨Nat.le_of_ble_eq_true rfl, Nat.le_of_ble_eq_true rfl⟩ (fun H locs (hI : jI D s (A0 s) (gwl Ex M0 () ++ (gwl Ey My () ++ ([]))) H locs) => ?_)
  refine lv_if_eq (tgt := 306) hx hb dL_law_180 rfl (fun h => absurd h (by decide)) (fun _ => ?_)
  obtain ⟨N1, M1, a1, b1, e1, x1, f1⟩ := x_b1 x0
  refine lv_aload_n hx hb dL_law_183 rfl (lv_at hl 3 rfl) ?_
  refine va_ldcS hx hb hown (hLd (216, "stow 0", 4) (by decide +kernel)) dL_law_184 ?_
  refine lv_bipush (v := 6) hx hb dL_law_186 (by decide) ?_
  refine g_top (v := nI 6) (by decide) ?_
  refine l_callHS (As := [.ref (Ex.2.1 132), .ref (Ex.2.2.2.1 (7 + 4)), .int (nI 6)]) (rest := []) (X' := (gwl Ex M1 () ++ (gwl Ey My () ++ ([])))) hC hEx hI (List.Perm.refl _) (List.Perm.refl _) (C_fails l hst Ex (j := 4) (bs := tx_b1.map nI) (by rw [hSx]; rfl) (Nat.le_of_ble_eq_true rfl) a1 b1 e1) Y_L_fails S_L_fails w1365 ⟨rfl, rfl⟩ ⟨Nat.le_of_ble_eq_true rfl, Nat.le_of_ble_eq_true rfl⟩ rfl hl.1 (by rw [hKx]; rfl) (Nat.le_of_ble_eq_true rfl) dL_law_188 ⟨Nat.le_of_ble_eq_true rfl, Nat.le_of_ble_eq_true rfl⟩ (fun H locs (hI : jI D s (A0 s) (gwl Ex M1 () ++ (gwl Ey My () ++ ([]))) H locs) => ?_)
  refine lv_if_eq (tgt := 306) hx hb dL_law_191 rfl (fun h => absurd h (by decide)) (fun _ => ?_)
  obtain ⟨N2, M2, a2, b2, e2, x2, f2⟩ := x_b2 x1
  refine lv_aload_n hx hb dL_law_194 rfl (lv_at hl 3 rfl) ?_
  refine va_ldcS hx hb hown (hLd (218, "clear 03", 5) (by decide +kernel)) dL_law_195 ?_
  refine lv_bipush (v := 8) hx hb dL_law_197 (by decide) ?_
  refine g_top (v := nI 8) (by decide) ?_
  refine l_callHS (As := [.ref (Ex.2.1 132), .ref (Ex.2.2.2.1 (7 + 5)), .int (nI 8)]) (rest := []) (X' := (gwl Ex M2 () ++ (gwl Ey My () ++ ([])))) hC hEx hI (List.Perm.refl _) (List.Perm.refl _) (C_fails l hst Ex (j := 5) (bs := tx_b2.map nI) (by rw [hSx]; rfl) (Nat.le_of_ble_eq_true rfl) a2 b2 e2) Y_L_fails S_L_fails w1365 ⟨rfl, rfl⟩ ⟨Nat.le_of_ble_eq_true rfl, Nat.le_of_ble_eq_true rfl⟩ rfl hl.1 (by rw [hKx]; rfl) (Nat.le_of_ble_eq_true rfl) dL_law_199 ⟨Nat.le_of_ble_eq_true rfl, Nat.le_of_ble_eq_true rfl⟩ (fun H locs (hI : jI D s (A0 s) (gwl Ex M2 () ++ (gwl Ey My () ++ ([]))) H locs) => ?_)
  refine lv_if_eq (tgt := 306) hx hb dL_law_202 rfl (fun h => absurd h (by decide)) (fun _ => ?_)
  obtain ⟨N3, M3, a3, b3, e3, x3, f3⟩ := x_b3 x2
  refine lv_aload_n hx hb dL_law_205 rfl (lv_at hl 3 rfl) ?_
  refine va_ldcS hx hb hown (hLd (220, "move 01", 6) (by decide +kernel)) dL_law_206 ?_
  refine lv_bipush (v := 7) hx hb dL_law_208 (by decide) ?_
  refine g_top (v := nI 7) (by decide) ?_
  refine l_callHS (As := [.ref (Ex.2.1 132), .ref (Ex.2.2.2.1 (7 + 6)), .int (nI 7)]) (rest := []) (X' := (gwl Ex M3 () ++ (gwl Ey My () ++ ([])))) hC hEx hI (List.Perm.refl _) (List.Perm.refl _) (C_fails l hst Ex (j := 6) (bs := tx_b3.map nI) (by rw [hSx]; rfl) (Nat.le_of_ble_eq_true rfl) a3 b3 e3) Y_L_fails S_L_fails w1365 ⟨rfl, rfl⟩ ⟨Nat.le_of_ble_eq_true rfl, Nat.le_of_ble_eq_true rfl⟩ rfl hl.1 (by rw [hKx]; rfl) (Nat.le_of_ble_eq_true rfl) dL_law_210 ⟨Nat.le_of_ble_eq_true rfl, Nat.le_of_ble_eq_true rfl⟩ (fun H locs (hI : jI D s (A0 s) (gwl Ex M3 () ++ (gwl Ey My () ++ ([]))) H locs) => ?_)
  refine lv_if_eq (tgt := 306) hx hb dL_law_213 rfl (fun h => absurd h (by decide)) (fun _ => ?_)
  obtain ⟨N4, M4, a4, b4, e4, x4, f4⟩ := x_b4 x3
  refine lv_aload_n hx hb dL_law_216 rfl (lv_at hl 3 rfl) ?_
  refine va_ldcS hx hb hown (hLd (222, "hours 1234", 7) (by decide +kernel)) dL_law_217 ?_
  refine lv_bipush (v := 9) hx hb dL_law_219 (by decide) ?_
  refine g_top (v := nI 9) (by decide) ?_
  refine l_callHS (As := [.ref (Ex.2.1 132), .ref (Ex.2.2.2.1 (7 + 7)), .int (nI 9)]) (rest := []) (X' := (gwl Ex M4 () ++ (gwl Ey My () ++ ([])))) hC hEx hI (List.Perm.refl _) (List.Perm.refl _) (C_fails l hst Ex (j := 7) (bs := tx_b4.map nI) (by rw [hSx]; rfl) (Nat.le_of_ble_eq_true rfl) a4 b4 e4) Y_L_fails S_L_fails w1365 ⟨rfl, rfl⟩ ⟨Nat.le_of_ble_eq_true rfl, Nat.le_of_ble_eq_true rfl⟩ rfl hl.1 (by rw [hKx]; rfl) (Nat.le_of_ble_eq_true rfl) dL_law_221 ⟨Nat.le_of_ble_eq_true rfl, Nat.le_of_ble_eq_true rfl⟩ (fun H locs (hI : jI D s (A0 s) (gwl Ex M4 () ++ (gwl Ey My () ++ ([]))) H locs) => ?_)
  refine lv_if_eq (tgt := 306) hx hb dL_law_224 rfl (fun h => absurd h (by decide)) (fun _ => ?_)
  obtain ⟨N5, M5, a5, b5, e5, x5, f5⟩ := x_b5 x4
  refine lv_aload_n hx hb dL_law_227 rfl (lv_at hl 3 rfl) ?_
  refine va_ldcS hx hb hown (hLd (224, "", 8) (by decide +kernel)) dL_law_228 ?_
  refine lv_iconst (v := 0) hx hb dL_law_230 (by decide) ?_
  refine g_top (v := nI 0) (by decide) ?_
  refine l_callHS (As := [.ref (Ex.2.1 132), .ref (Ex.2.2.2.1 (7 + 8)), .int (nI 0)]) (rest := []) (X' := (gwl Ex M5 () ++ (gwl Ey My () ++ ([])))) hC hEx hI (List.Perm.refl _) (List.Perm.refl _) (C_fails l hst Ex (j := 8) (bs := tx_b5.map nI) (by rw [hSx]; rfl) (Nat.le_of_ble_eq_true rfl) a5 b5 e5) Y_L_fails S_L_fails w1365 ⟨rfl, rfl⟩ ⟨Nat.le_of_ble_eq_true rfl, Nat.le_of_ble_eq_true rfl⟩ rfl hl.1 (by rw [hKx]; rfl) (Nat.le_of_ble_eq_true rfl) dL_law_231 ⟨Nat.le_of_ble_eq_true rfl, Nat.le_of_ble_eq_true rfl⟩ (fun H locs (hI : jI D s (A0 s) (gwl Ex M5 () ++ (gwl Ey My () ++ ([]))) H locs) => ?_)
  refine lv_if_eq (tgt := 306) hx hb dL_law_234 rfl (fun h => absurd h (by decide)) (fun _ => ?_)
  obtain ⟨N6, M6, a6, b6, e6, x6, f6⟩ := x_b6 x5
  refine lv_aload_n hx hb dL_law_237 rfl (lv_at hl 3 rfl) ?_
  refine va_ldcS hx hb hown (hLd (226, "leave 0;", 9) (by decide +kernel)) dL_law_238 ?_
  refine lv_bipush (v := 8) hx hb dL_law_240 (by decide) ?_
  refine g_top (v := nI 8) (by decide) ?_
  refine l_callHS (As := [.ref (Ex.2.1 132), .ref (Ex.2.2.2.1 (7 + 9)), .int (nI 8)]) (rest := []) (X' := (gwl Ex M6 () ++ (gwl Ey My () ++ ([])))) hC hEx hI (List.Perm.refl _) (List.Perm.refl _) (C_fails l hst Ex (j := 9) (bs := tx_b6.map nI) (by rw [hSx]; rfl) (Nat.le_of_ble_eq_true rfl) a6 b6 e6) Y_L_fails S_L_fails w1365 ⟨rfl, rfl⟩ ⟨Nat.le_of_ble_eq_true rfl, Nat.le_of_ble_eq_true rfl⟩ rfl hl.1 (by rw [hKx]; rfl) (Nat.le_of_ble_eq_true rfl) dL_law_242 ⟨Nat.le_of_ble_eq_true rfl, Nat.le_of_ble_eq_true rfl⟩ (fun H locs (hI : jI D s (A0 s) (gwl Ex M6 () ++ (gwl Ey My () ++ ([]))) H locs) => ?_)
  refine lv_if_eq (tgt := 306) hx hb dL_law_245 rfl (fun h => absurd h (by decide)) (fun _ => ?_)
  obtain ⟨N7, M7, a7, b7, e7, x7, f7⟩ := x_b7 x6
  refine lv_aload_n hx hb dL_law_248 rfl (lv_at hl 3 rfl) ?_
  refine va_ldcS hx hb hown (hLd (228, "mox", 10) (by decide +kernel)) dL_law_249 ?_
  refine lv_iconst (v := 2) hx hb dL_law_251 (by decide) ?_
  refine g_top (v := nI 2) (by decide) ?_
  refine l_callHS (As := [.ref (Ex.2.1 132), .ref (Ex.2.2.2.1 (7 + 10)), .int (nI 2)]) (rest := []) (X' := (gwl Ex M7 () ++ (gwl Ey My () ++ ([])))) hC hEx hI (List.Perm.refl _) (List.Perm.refl _) (C_fails l hst Ex (j := 10) (bs := tx_b7.map nI) (by rw [hSx]; rfl) (Nat.le_of_ble_eq_true rfl) a7 b7 e7) Y_L_fails S_L_fails w1365 ⟨rfl, rfl⟩ ⟨Nat.le_of_ble_eq_true rfl, Nat.le_of_ble_eq_true rfl⟩ rfl hl.1 (by rw [hKx]; rfl) (Nat.le_of_ble_eq_true rfl) dL_law_252 ⟨Nat.le_of_ble_eq_true rfl, Nat.le_of_ble_eq_true rfl⟩ (fun H locs (hI : jI D s (A0 s) (gwl Ex M7 () ++ (gwl Ey My () ++ ([]))) H locs) => ?_)
  refine lv_if_eq (tgt := 306) hx hb dL_law_255 rfl (fun h => absurd h (by decide)) (fun _ => ?_)
  obtain ⟨N8, M8, a8, b8, e8, x8, f8⟩ := x_b8 x7
  refine lv_aload_n hx hb dL_law_258 rfl (lv_at hl 3 rfl) ?_
  refine va_ldcS hx hb hown (hLd (230, "move 0123", 11) (by decide +kernel)) dL_law_259 ?_
  refine lv_bipush (v := 8) hx hb dL_law_261 (by decide) ?_
  refine g_top (v := nI 8) (by decide) ?_
  refine l_callHS (As := [.ref (Ex.2.1 132), .ref (Ex.2.2.2.1 (7 + 11)), .int (nI 8)]) (rest := []) (X' := (gwl Ex M8 () ++ (gwl Ey My () ++ ([])))) hC hEx hI (List.Perm.refl _) (List.Perm.refl _) (C_fails l hst Ex (j := 11) (bs := tx_b8.map nI) (by rw [hSx]; rfl) (Nat.le_of_ble_eq_true rfl) a8 b8 e8) Y_L_fails S_L_fails w1365 ⟨rfl, rfl⟩ ⟨Nat.le_of_ble_eq_true rfl, Nat.le_of_ble_eq_true rfl⟩ rfl hl.1 (by rw [hKx]; rfl) (Nat.le_of_ble_eq_true rfl) dL_law_263 ⟨Nat.le_of_ble_eq_true rfl, Nat.le_of_ble_eq_true rfl⟩ (fun H locs (hI : jI D s (A0 s) (gwl Ex M8 () ++ (gwl Ey My () ++ ([]))) H locs) => ?_)
  refine lv_if_eq (tgt := 306) hx hb dL_law_266 rfl (fun h => absurd h (by decide)) (fun _ => ?_)
  obtain ⟨N9, M9, a9, b9, e9, x9, f9⟩ := x_b9 x8
  refine lv_aload_n hx hb dL_law_269 rfl (lv_at hl 3 rfl) ?_
  refine va_ldcS hx hb hown (hLd (232, "deliver", 12) (by decide +kernel)) dL_law_270 ?_
  refine lv_bipush (v := 7) hx hb dL_law_272 (by decide) ?_
  refine g_top (v := nI 7) (by decide) ?_
  refine l_callHS (As := [.ref (Ex.2.1 132), .ref (Ex.2.2.2.1 (7 + 12)), .int (nI 7)]) (rest := []) (X' := (gwl Ex M9 () ++ (gwl Ey My () ++ ([])))) hC hEx hI (List.Perm.refl _) (List.Perm.refl _) (C_fails l hst Ex (j := 12) (bs := tx_b9.map nI) (by rw [hSx]; rfl) (Nat.le_of_ble_eq_true rfl) a9 b9 e9) Y_L_fails S_L_fails w1365 ⟨rfl, rfl⟩ ⟨Nat.le_of_ble_eq_true rfl, Nat.le_of_ble_eq_true rfl⟩ rfl hl.1 (by rw [hKx]; rfl) (Nat.le_of_ble_eq_true rfl) dL_law_274 ⟨Nat.le_of_ble_eq_true rfl, Nat.le_of_ble_eq_true rfl⟩ (fun H locs (hI : jI D s (A0 s) (gwl Ex M9 () ++ (gwl Ey My () ++ ([]))) H locs) => ?_)
  refine lv_if_eq (tgt := 306) hx hb dL_law_277 rfl (fun h => absurd h (by decide)) (fun _ => ?_)
  obtain ⟨N10, M10, a10, b10, e10, x10, f10⟩ := x_b10 x9
  refine lv_aload_n hx hb dL_law_280 rfl (lv_at hl 3 rfl) ?_
  refine va_ldcS hx hb hown (hLd (233, "z", 13) (by decide +kernel)) dL_law_281 ?_
  refine lv_iconst (v := 0) hx hb dL_law_283 (by decide) ?_
  refine g_top (v := nI 0) (by decide) ?_
  refine l_callHS (As := [.ref (Ex.2.1 132), .ref (Ex.2.2.2.1 (7 + 13)), .int (nI 0)]) (rest := []) (X' := (gwl Ex M10 () ++ (gwl Ey My () ++ ([])))) hC hEx hI (List.Perm.refl _) (List.Perm.refl _) (C_fails l hst Ex (j := 13) (bs := tx_b10.map nI) (by rw [hSx]; rfl) (Nat.le_of_ble_eq_true rfl) a10 b10 e10) Y_L_fails S_L_fails w1365 ⟨rfl, rfl⟩ ⟨Nat.le_of_ble_eq_true rfl, Nat.le_of_ble_eq_true rfl⟩ rfl hl.1 (by rw [hKx]; rfl) (Nat.le_of_ble_eq_true rfl) dL_law_284 ⟨Nat.le_of_ble_eq_true rfl, Nat.le_of_ble_eq_true rfl⟩ (fun H locs (hI : jI D s (A0 s) (gwl Ex M10 () ++ (gwl Ey My () ++ ([]))) H locs) => ?_)
  refine lv_if_eq (tgt := 306) hx hb dL_law_287 rfl (fun h => absurd h (by decide)) (fun _ => ?_)
  have g9 : M10 132 9 = nI 0 := by rw [f10, f9, f8, f7, f6, f5, f4, f3, f2, f1, f0]; exact h9
  refine lv_aload_n hx hb dL_law_290 rfl (lv_at hl 3 rfl) ?_
  refine l_callX (rest := []) (v0 := (.int (nI 0))) (X' := (gwl Ex M10 () ++ (gwl Ey My () ++ ([])))) hC hEx hI (List.Perm.refl _) (List.Perm.refl _) (C_X6_failedCommand l hst Ex () (u_failed g9 (by omega))) Y_X6_failedCommand V_X6_failedCommand w1053 rfl ⟨rfl, rfl⟩ ⟨Nat.le_of_ble_eq_true rfl, Nat.le_of_ble_eq_true rfl⟩ rfl hl.1 rfl (Nat.le_of_ble_eq_true rfl) dL_law_291 ⟨Nat.le_of_ble_eq_true rfl, Nat.le_of_ble_eq_true rfl⟩ (fun H locs (hI : jI D s (A0 s) (gwl Ex M10 () ++ (gwl Ey My () ++ ([]))) H locs) => ?_)
  refine lv_if_ne (tgt := 306) hx hb dL_law_294 rfl (fun h => absurd rfl h) (fun _ => ?_)
  refine lv_aload_n hx hb dL_law_297 rfl (lv_at hl 3 rfl) ?_
  refine l_state (rest := []) hst hC hEx hI (List.Perm.refl _) x10.1 x10.2.1 w1145 ⟨Nat.le_of_ble_eq_true rfl, Nat.le_of_ble_eq_true rfl⟩ hl.1 (Nat.le_of_ble_eq_true rfl) dL_law_298 ⟨Nat.le_of_ble_eq_true rfl, Nat.le_of_ble_eq_true rfl⟩ (fun H locs (hI : jI D s (A0 s) (gwl Ex M10 () ++ (gwl Ey My () ++ ([]))) H locs) => ?_)
  refine lv_iload hx hb dL_law_301 (lv_at hl 0 rfl) ?_
  refine lv_icmp_eq (tgt := 308) hx hb dL_law_303 rfl (fun _ => ?_) (fun h => absurd rfl h)
  refine W.widen (show _ ≤ 22000 by exact Nat.le_of_ble_eq_true rfl) (show _ ≤ 150000 by exact Nat.le_of_ble_eq_true rfl) ?_
  exact kk M10 x10 H locs ls hI hl
end LXY
