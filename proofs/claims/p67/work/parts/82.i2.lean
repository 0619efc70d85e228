/-! History: eight states, in a loop. -/
def ZF (cid : Nat → ClassId) (b : Nat → Nat → Nat) (j : Nat) : va_W := (List.range j).flatMap (fun i => Z7 cid (b i))
def ZH (cid : Nat → ClassId) (u : Nat × Nat × (Nat → Nat → Nat)) : va_W := (u.1, .inr (7, [.ref u.2.1, .int 0, .int 0])) :: (u.2.1, .inl (cid 2, 8, .inr (.inr (.inr (.inr (fun i => if i < 8 then some (u.2.2 i 0) else none)))))) :: ZF cid u.2.2 8
theorem ZF_congr {cid : Nat → ClassId} {b b' : Nat → Nat → Nat} : ∀ j, (∀ i, i < j → b i = b' i) → ZF cid b j = ZF cid b' j := by
  intro j h
  unfold ZF
  rw [List.flatMap_def, List.flatMap_def]
  congr 1
  exact List.map_congr_left (fun i hi => by rw [h i (List.mem_range.mp hi)])
theorem ZF_succ (cid : Nat → ClassId) (b : Nat → Nat → Nat) (j : Nat) : ZF cid b (j + 1) = ZF cid b j ++ Z7 cid (b j) := by
  unfold ZF
  rw [List.range_succ, List.flatMap_append]
  simp
theorem ZF_next (cid : Nat → ClassId) (b : Nat → Nat → Nat) (j : Nat) (a : Nat → Nat) : ZF cid (fun i => if i = j then a else b i) (j + 1) = ZF cid b j ++ Z7 cid a := by
  rw [ZF_succ]
  congr 1
  · exact ZF_congr j (fun i hi => by simp [show i ≠ j by omega])
  · simp
theorem ZF_len (cid : Nat → ClassId) (b : Nat → Nat → Nat) : ∀ j, (ZF cid b j).length = 12 * j := by
  intro j
  induction j with
  | zero => rfl
  | succ n ih => rw [ZF_succ, List.length_append, ih]; simp [Z7]; omega
theorem dX1_init_0 : decode cX1_init 0 = .ok (.aload_n 0, 1) := by decide +kernel
theorem dX1_init_1 : decode cX1_init 1 = .ok (.invokespecial 3, 3) := by decide +kernel
theorem dX1_init_4 : decode cX1_init 4 = .ok (.aload_n 0, 1) := by decide +kernel
theorem dX1_init_5 : decode cX1_init 5 = .ok (.bipush 8, 2) := by decide +kernel
theorem dX1_init_7 : decode cX1_init 7 = .ok (.anewarray 9, 3) := by decide +kernel
theorem dX1_init_10 : decode cX1_init 10 = .ok (.putfield 11, 3) := by decide +kernel
theorem dX1_init_13 : decode cX1_init 13 = .ok (.aload_n 0, 1) := by decide +kernel
theorem dX1_init_14 : decode cX1_init 14 = .ok (.iconst 0, 1) := by decide +kernel
theorem dX1_init_15 : decode cX1_init 15 = .ok (.putfield 17, 3) := by decide +kernel
theorem dX1_init_18 : decode cX1_init 18 = .ok (.aload_n 0, 1) := by decide +kernel
theorem dX1_init_19 : decode cX1_init 19 = .ok (.iconst 0, 1) := by decide +kernel
theorem dX1_init_20 : decode cX1_init 20 = .ok (.putfield 21, 3) := by decide +kernel
theorem dX1_init_23 : decode cX1_init 23 = .ok (.iconst 0, 1) := by decide +kernel
theorem dX1_init_24 : decode cX1_init 24 = .ok (.istore_n 1, 1) := by decide +kernel
theorem dX1_init_25 : decode cX1_init 25 = .ok (.iload_n 1, 1) := by decide +kernel
theorem dX1_init_26 : decode cX1_init 26 = .ok (.bipush 8, 2) := by decide +kernel
theorem dX1_init_28 : decode cX1_init 28 = .ok (.if_icmp .ge 22, 3) := by decide +kernel
theorem dX1_init_31 : decode cX1_init 31 = .ok (.aload_n 0, 1) := by decide +kernel
theorem dX1_init_32 : decode cX1_init 32 = .ok (.getfield 11, 3) := by decide +kernel
theorem dX1_init_35 : decode cX1_init 35 = .ok (.iload_n 1, 1) := by decide +kernel
theorem dX1_init_36 : decode cX1_init 36 = .ok (.new 9, 3) := by decide +kernel
theorem dX1_init_39 : decode cX1_init 39 = .ok (.dup, 1) := by decide +kernel
theorem dX1_init_40 : decode cX1_init 40 = .ok (.invokespecial 24, 3) := by decide +kernel
theorem dX1_init_43 : decode cX1_init 43 = .ok (.aastore, 1) := by decide +kernel
theorem dX1_init_44 : decode cX1_init 44 = .ok (.iinc 1 1, 3) := by decide +kernel
theorem dX1_init_47 : decode cX1_init 47 = .ok (.goto (-22), 3) := by decide +kernel
theorem dX1_init_50 : decode cX1_init 50 = .ok (.return_, 1) := by decide +kernel
section IHI
variable {p : Program} {l : Launch} {e : Env} {R : Room} {s : State} {m : MethodId} {args : Array Value} {below : List Frame} {meth : Method} {c : Code} {Q : State → Prop}
variable {D : va_G} {cid : Nat → ClassId}
set_option maxRecDepth 100000 in
set_option maxHeartbeats 4000000 in
theorem i_hist (hC : iC p s m args c cX1_init 2 RX1 D cid) {h qa : Nat} (hRf : R.frames = 3 ∧ R.cells = 97 ∧ R.slots = 3288 ∧ R.locals = 52)
    (kv : ∀ (b : Nat → Nat → Nat) (H : Heap) (locs : List Loc) (ls : Array Slot), iI D s h 7 [.ref qa, .int 0, .int 0] ((qa, .inl (cid 2, 8, .inr (.inr (.inr (.inr (fun i => if i < 8 then some (b i 0) else none)))))) :: ZF cid b 8) H locs → W p l e R s m args below meth c H locs 97 3288 Q (F0 m 50 ls [])) :
    ∀ (n j : Nat) (b : Nat → Nat → Nat) (H : Heap) (locs : List Loc) (ls : Array Slot), j ≤ 8 → 8 - j < n → lv_has ls 2 [(0, .ref h), (1, .int (nI j))] → iI D s h 7 [.ref qa, .int 0, .int 0] ((qa, .inl (cid 2, 8, .inr (.inr (.inr (.inr (fun i => if i < j then some (b i 0) else none)))))) :: ZF cid b j) H locs →
      W p l e R s m args below meth c H locs (1 + 12 * j) (8 + 410 * j) Q (F0 m 25 ls []) := by
  intro n
  induction n with
  | zero => intro j b H locs ls _ hn; omega
  | succ n ih =>
    intro j b H locs ls hj hn hl hI
    have hx := hC.1
    have hb := hC.2.1
    obtain ⟨hRf, hRc, hRs, hRl⟩ := hRf
    refine lv_iload_n hx hb dX1_init_25 rfl (lv_at hl 1 rfl) ?_
    refine lv_bipush (v := 8) hx hb dX1_init_26 (by decide) ?_
    refine lv_icmp_ge (tgt := 50) hx hb dX1_init_28 rfl (fun h1 => ?_) (fun h1 => ?_)
    · have e8 : j = 8 := by
        by_cases q : j < 8
        · exact absurd (show nI 8 ≤ nI j from h1) (nI_ge q (by decide))
        · omega
      subst e8
      exact kv b H locs ls hI
    · have hlt : j < 8 := by
        by_cases q : j < 8
        · exact q
        · exact absurd (show (8 : Int32) ≤ nI j by rw [show j = 8 by omega]; decide) h1
      refine lv_aload_n hx hb dX1_init_31 rfl (lv_at hl 0 rfl) ?_
      refine va_get (D := D) (ci := 7) (v := .ref qa) hx hb hC.2.2.2.2.1 uX1 hC.2.2.2.1 hC.2.2.2.2.2.1 hI.1 0 rfl rfl 0 (by decide) (hC.2.2.2.2.1 _ w136) (fun _ h9 => h9) rfl dX1_init_32 ?_
      refine lv_iload_n hx hb dX1_init_35 rfl (lv_at hl 1 rfl) ?_
      refine i_new hC hI (I_X5 l D cid) rfl uX5 tyX5 tyX5_ok w133 w43 w2 (fun j hj => by revert j; decide) ⟨w46, w2, ⟨by decide, by decide⟩, by decide +kernel⟩ w45 rfl (Or.inl (by decide +kernel)) ⟨rfl, rfl⟩ ⟨by rw [hRf]; decide, by rw [hRl]; decide⟩ hl.1 (Nat.le_of_ble_eq_true rfl) ⟨by rw [hRc]; omega, by rw [hRs]; omega⟩ dX1_init_36 dX1_init_39 dX1_init_40 (fun q a H1 locs1 hp hI => ?_)
      replace hp : a 0 = q := hp
      subst hp
      have hv : (((h, .inr (7, [.ref qa, .int 0, .int 0])) :: (((qa, .inl (cid 2, 8, .inr (.inr (.inr (.inr (fun i => if i < j then some (b i 0) else none)))))) :: ZF cid b j) ++ Z7 cid a)) : va_W)[2 + 12 * j]? = some (a 0, gst (cid 0) a (fun _ => 0) 0 0) := by
        show ((_ :: _ :: (ZF cid b j ++ Z7 cid a) : va_W))[2 + 12 * j]? = _
        rw [show 2 + 12 * j = 12 * j + 1 + 1 by omega, List.getElem?_cons_succ, List.getElem?_cons_succ, List.getElem?_append_right (by rw [ZF_len]; omega), ZF_len, Nat.sub_self]
        rfl
      refine va_astq (A := iB h s.heap.size) hx hb hC.2.2.2.2.2.1 hI.1 hI.2.1 hI.2.2 1 2 (2 + 12 * j) 11 (r := (RX5, TX5, 11)) rfl rfl hv rfl (i := nI j) (vp_in_nI hlt (by omega)) dX1_init_43 (fun H2 locs2 hP hD hS => ?_)
      rw [nI_clamp (by omega)] at hP hD
      have ef : va_up (fun i => if i < j then some (b i 0) else none) j (some (a 0)) = (fun i => if i < j + 1 then some ((fun i => if i = j then a else b i) i 0) else none) := by
        funext i
        unfold va_up
        by_cases h1 : i = j
        · subst h1; simp
        · by_cases h2 : i < j
          · simp [h1, h2, show i < j + 1 by omega]
          · simp [h1, h2, show ¬ i < j + 1 by omega]
      rw [ef] at hP hD
      have hI2 : iI D s h 7 [.ref qa, .int 0, .int 0] ((qa, .inl (cid 2, 8, .inr (.inr (.inr (.inr (fun i => if i < j + 1 then some ((fun i => if i = j then a else b i) i 0) else none)))))) :: ZF cid (fun i => if i = j then a else b i) (j + 1)) H2 locs2 := by
        rw [ZF_next]
        exact ⟨hP, hD, hS⟩
      refine lv_iinc (v := nI (j + 1)) (lv' := [(1, .int (nI (j + 1))), (0, .ref h)]) hx hb dX1_init_44 hl (k := 1) rfl (by rw [nI_succ]; rfl) (by decide) rfl (fun ls hl => ?_)
      refine lv_goto (tgt := 25) hx hb dX1_init_47 rfl ?_
      rw [show 1 + 12 * j + 1 + 11 = 1 + 12 * (j + 1) by omega, show 8 + 410 * j + 11 + 399 = 8 + 410 * (j + 1) by omega]
      exact ih (j + 1) _ H2 locs2 ls (by omega) (by omega) (lv_sub hl [1, 0] rfl) hI2
end IHI
set_option maxRecDepth 100000 in
set_option maxHeartbeats 4000000 in
theorem I_X1 (l : Launch) (D : va_G) (cid : Nat → ClassId) : iM l D cid yX1_init (.code yX1_init cX1_init 2 none) (gRX 3 52 97 3288) 7 [.null, .int 0, .int 0] 97 3288 (α := Nat × Nat × (Nat → Nat → Nat)) (fun h u => u.1 = h) (ZH cid) := by
  refine iMet (by decide +kernel) rfl (Nat.le_of_ble_eq_true rfl) ?_
  intro p e s m args below meth c H locs ls Q h hC hni hl hI kv
  replace hC : iC p s m args c cX1_init 2 RX1 D cid := hC
  have hx := hC.1
  have hb := hC.2.1
  refine i_obj hC hl w132 w40 w41 ⟨Nat.le_of_ble_eq_true rfl, Nat.le_of_ble_eq_true rfl⟩ dX1_init_0 dX1_init_1 ?_
  refine lv_aload_n hx hb dX1_init_4 rfl (lv_at hl 0 rfl) ?_
  refine lv_bipush (v := 8) hx hb dX1_init_5 (by decide) ?_
  refine va_newq (A := iB h s.heap.size) hx hb hC.2.2.2.1 (hC.2.2.2.2.1 _ w133) hC.2.2.2.2.2.2.1 hC.2.2.2.2.2.1 hI.1 hI.2.1 hI.2.2 iB_new (N' := 8) (by decide) rfl (by decide) (Nat.le_of_ble_eq_true rfl) (Nat.le_of_ble_eq_true rfl) dX1_init_7 (fun qa cA H hK hP hD hS => ?_)
  have ec := iid_state hC.2.2.2.2.2 cA (hK.2 5 _ rfl).2
  subst ec
  have hI : iI D s h 7 [.null, .int 0, .int 0] [(qa, .inl (cid 2, 8, .inr (.inr (.inr (.inr (fun _ => none))))))] H locs := ⟨hP, hD, hS⟩
  refine i_put hC hI hni uX1 tyX1 tyX1_ok nmX1 rfl 0 (by decide) w136 rfl rfl (ty := .array (.object "ContainerTerminal$State")) (by decide +kernel) rfl rfl (Nat.le_of_ble_eq_true rfl) dX1_init_10 (fun H locs hI => ?_)
  replace hI : iI D s h 7 [.ref qa, .int 0, .int 0] [(qa, .inl (cid 2, 8, .inr (.inr (.inr (.inr (fun _ => none))))))] H locs := hI
  refine lv_aload_n hx hb dX1_init_13 rfl (lv_at hl 0 rfl) ?_
  refine lv_iconst (v := 0) hx hb dX1_init_14 (by decide) ?_
  refine i_put hC hI hni uX1 tyX1 tyX1_ok nmX1 rfl 1 (by decide) w137 rfl rfl (ty := .int) (by decide +kernel) rfl rfl (Nat.le_of_ble_eq_true rfl) dX1_init_15 (fun H locs hI => ?_)
  replace hI : iI D s h 7 [.ref qa, .int 0, .int 0] [(qa, .inl (cid 2, 8, .inr (.inr (.inr (.inr (fun _ => none))))))] H locs := hI
  refine lv_aload_n hx hb dX1_init_18 rfl (lv_at hl 0 rfl) ?_
  refine lv_iconst (v := 0) hx hb dX1_init_19 (by decide) ?_
  refine i_put hC hI hni uX1 tyX1 tyX1_ok nmX1 rfl 2 (by decide) w138 rfl rfl (ty := .int) (by decide +kernel) rfl rfl (Nat.le_of_ble_eq_true rfl) dX1_init_20 (fun H locs hI => ?_)
  replace hI : iI D s h 7 [.ref qa, .int 0, .int 0] [(qa, .inl (cid 2, 8, .inr (.inr (.inr (.inr (fun _ => none))))))] H locs := hI
  refine lv_iconst (v := 0) hx hb dX1_init_23 (by decide) ?_
  refine lv_istore_n (lv' := [(1, .int 0), (0, .ref h)]) hx hb dX1_init_24 rfl hl (by decide) rfl (fun ls hl => ?_)
  refine i_hist (qa := qa) hC ⟨rfl, rfl, rfl, rfl⟩ (fun b H locs ls hI => ?_) 9 0 (fun _ _ => 0) H locs ls (by omega) (by omega) (lv_sub hl [1, 0] rfl) ?_
  · exact kv (h, qa, b) _ _ _ _ _ _ _ _ rfl rfl hI ⟨Nat.le_of_ble_eq_true rfl, Nat.le_of_ble_eq_true rfl⟩ dX1_init_50
  · have ef : (fun i : Nat => if i < 0 then some ((fun _ _ => 0 : Nat → Nat → Nat) i 0) else none) = (fun _ => none) := by funext i; simp
    rw [ef]
    exact hI
