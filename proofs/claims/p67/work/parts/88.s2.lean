/-! The law's inYard; laid by wip/p67/gen/law67f.py. -/
theorem va_D_iff {A : Nat → Prop} {ws : va_W} : va_D A ws ↔ (ws.map Prod.fst).Nodup ∧ ∀ q ∈ ws, A q.1 := by
  constructor
  · intro h
    refine ⟨?_, fun q hq => ?_⟩
    · rw [List.Nodup, List.pairwise_iff_getElem]
      intro i j hi hj hij e
      rw [List.length_map] at hi hj
      rw [List.getElem_map, List.getElem_map] at e
      have := h.1 i j _ _ (List.getElem?_eq_getElem hi) (List.getElem?_eq_getElem hj) e
      omega
    · obtain ⟨i, hi⟩ := List.getElem?_of_mem hq
      exact h.2 i q hi
  · rintro ⟨h1, h2⟩
    rw [List.Nodup, List.pairwise_iff_getElem] at h1
    refine ⟨fun i j p q hi hj e => ?_, fun k q hk => h2 q (List.mem_of_getElem? hk)⟩
    obtain ⟨li, ei⟩ := List.getElem?_eq_some_iff.mp hi
    obtain ⟨lj, ej⟩ := List.getElem?_eq_some_iff.mp hj
    rcases Nat.lt_trichotomy i j with h | h | h
    · exact absurd (by rw [List.getElem_map, List.getElem_map, ei, ej]; exact e) (h1 i j (by rw [List.length_map]; exact li) (by rw [List.length_map]; exact lj) h)
    · exact h
    · exact absurd (by rw [List.getElem_map, List.getElem_map, ei, ej]; exact e.symm) (h1 j i (by rw [List.length_map]; exact lj) (by rw [List.length_map]; exact li) h)
theorem jI_perm {D : va_G} {s : State} {A : Nat → Prop} {X X' : va_W} {H : Heap} {locs : List Loc} (hp : X.Perm X') (hI : jI D s A X H locs) : jI D s A X' H locs := by
  obtain ⟨h1, h2, h3⟩ := hI
  obtain ⟨d1, d2⟩ := va_D_iff.mp h2
  refine ⟨fun k q hk => ?_, va_D_iff.mpr ⟨(hp.map Prod.fst).nodup_iff.mp d1, fun q hq => d2 q (hp.mem_iff.mpr hq)⟩, h3⟩
  obtain ⟨i, hi⟩ := List.getElem?_of_mem (hp.mem_iff.mpr (List.mem_of_getElem? hk))
  exact h1 i q hi
/-- part of the cells -/
theorem jI_left {D : va_G} {s : State} {A : Nat → Prop} {X Y : va_W} {H : Heap} {locs : List Loc} (hI : jI D s A (X ++ Y) H locs) : jI D s A X H locs := by
  obtain ⟨h1, h2, h3⟩ := hI
  have e : ∀ (k : Nat) (q : Nat × va_E), X[k]? = some q → (X ++ Y)[k]? = some q := fun k q hk => by
    rw [List.getElem?_append_left (List.getElem?_eq_some_iff.mp hk).1]; exact hk
  exact ⟨fun k q hk => h1 k q (e k q hk), ⟨fun i j p q hi hj => h2.1 i j p q (e i p hi) (e j q hj), fun k q hk => h2.2 k q (e k q hk)⟩, h3⟩
theorem j_far {D : va_G} {s : State} {A : Nat → Prop} {X wc : va_W} {H : Heap} {locs : List Loc} (hI : jI D s A (X ++ wc) H locs) {z : Nat × va_E} (hz : z ∈ X) : z.1 < H.size ∧ ¬ va_A wc H.size z.1 := by
  obtain ⟨k, hk⟩ := List.getElem?_of_mem hz
  have h0 : (X ++ wc)[k]? = some z := by
    rw [List.getElem?_append_left (List.getElem?_eq_some_iff.mp hk).1]; exact hk
  have h1 := (hI.1 k z h0).lt
  refine ⟨h1, fun h2 => ?_⟩
  rcases h2 with ⟨j, e9, h2⟩ | h2
  · have hj : (X ++ wc)[X.length + j]? = some (z.1, e9) := by
      rw [List.getElem?_append_right (Nat.le_add_right _ _), Nat.add_sub_cancel_left]; exact h2
    have h3 := hI.2.1.1 k (X.length + j) z (z.1, e9) h0 hj rfl
    have h4 := (List.getElem?_eq_some_iff.mp hk).1
    omega
  · omega
/-- a box that holds v: one that was made, or one of the cache -/
def bxV (J : jA) (B : va_W) (y : Nat) (v : Int32) : Prop := (y, (.inr (2, [.int v]) : va_E)) ∈ B ∨ ∃ k, k < 256 ∧ y = J.1 k ∧ v = vb_c k
theorem bxV.app {J : jA} {B B' : va_W} {y : Nat} {v : Int32} (h : bxV J B y v) : bxV J (B ++ B') y v := h.imp (fun h => List.mem_append_left _ h) id
theorem bxV.box {D : va_G} {s : State} {A : Nat → Prop} {X wc B : va_W} {H : Heap} {locs : List Loc} {J : jA} {y : Nat} {v : Int32} {tys : List (ClassId × FieldType)} (hK : va_K D vwCl tys s) (hJ : gJ J A s s.heap) (hAn : ∀ q : Nat, s.heap.size ≤ q → A q) (hI : jI D s A (X ++ wc) H locs) (hB : ∀ z ∈ B, z ∈ X) (h : bxV J B y v) : jBx s H y ∧ ¬ va_A wc H.size y := by
  rcases h with h | ⟨k, hk, rfl, -⟩
  · have hX := hB _ h
    obtain ⟨i, hi⟩ := List.getElem?_of_mem hX
    have h0 : (X ++ wc)[i]? = some (y, .inr (2, [.int v])) := by
      rw [List.getElem?_append_left (List.getElem?_eq_some_iff.mp hi).1]; exact hi
    exact ⟨va_recv (q := (RJ6, TJ6, 1)) hK hI.1 rfl h0, (j_far hI hX).2⟩
  · obtain ⟨cell, h1, h2, h3, h4⟩ := (hJ.1.2.2.2.1 k hk).kept hI.2.2.2.1
    exact ⟨⟨cell, h1, h2, h3⟩, fun h5 => h4 (jA_in hAn hI _ h5)⟩
/-- a list of n Integers: its cells -/
def lsW (J : jA) (cid : Nat → ClassId) (q n r cap : Nat) (f : Nat → Option Nat) (B : va_W) : va_W :=
  if n = 0 then [(q, .inr (5, [.int (nI 0), .ref J.2.2.1, .int (nI 0)]))] else (q, .inr (5, [.int (nI n), .ref r, .int (nI n)])) :: (r, .inl (cid 4, cap, .inr (.inr (.inr (.inr f))))) :: B
def lsH (J : jA) (n : Nat) (ids : Nat → Int32) (cap : Nat) (f : Nat → Option Nat) (B : va_W) : Prop := n ≤ cap ∧ (cap = 10 ∨ cap = 15) ∧ ∀ j, j < n → ∃ y, f j = some y ∧ bxV J B y (ids j)
theorem lsW_0 {J : jA} {cid : Nat → ClassId} {q r cap : Nat} {f : Nat → Option Nat} {B : va_W} : lsW J cid q 0 r cap f B = [(q, .inr (5, [.int (nI 0), .ref J.2.2.1, .int (nI 0)]))] := rfl
theorem lsW_1 {J : jA} {cid : Nat → ClassId} {q n r cap : Nat} {f : Nat → Option Nat} {B : va_W} (h : 0 < n) : lsW J cid q n r cap f B = (q, .inr (5, [.int (nI n), .ref r, .int (nI n)])) :: (r, .inl (cid 4, cap, .inr (.inr (.inr (.inr f))))) :: B := if_neg (by omega)
/-- what the yard answers -/
def yrdH (n : Nat) (ids : Nat → Int32) (M : gM) : Prop := n ≤ 15 ∧ f_X6_yardCount M = some (nI n) ∧ ∀ k, k < n → f_X6_yardAt (nI k) M = some (.inr (ids k), M)
def yrdQ (E : gE) (M : gM) (J : jA) (n : Nat) (ids : Nat → Int32) : Array Value → State → Outcome → State → Prop := fun _ st oc t =>
  (∃ (q r cap : Nat) (f : Nat → Option Nat) (B : va_W), oc = .returned (some (.ref q)) ∧ lsH J n ids cap f B ∧ gW E M () t ∧ va_P E.1 vwCl (lsW J E.2.2.1 q n r cap f B) t.heap ∧ va_D (fun a => st.heap.size ≤ a) (lsW J E.2.2.1 q n r cap f B)) ∧ va_F (gA E) st t
theorem dL_inYard_0 : decode cL_inYard 0 = .ok (.new 104, 3) := by decide +kernel
theorem dL_inYard_3 : decode cL_inYard 3 = .ok (.dup, 1) := by decide +kernel
theorem dL_inYard_4 : decode cL_inYard 4 = .ok (.invokespecial 106, 3) := by decide +kernel
theorem dL_inYard_7 : decode cL_inYard 7 = .ok (.astore_n 1, 1) := by decide +kernel
theorem dL_inYard_8 : decode cL_inYard 8 = .ok (.iconst 0, 1) := by decide +kernel
theorem dL_inYard_9 : decode cL_inYard 9 = .ok (.istore_n 2, 1) := by decide +kernel
theorem dL_inYard_10 : decode cL_inYard 10 = .ok (.iload_n 2, 1) := by decide +kernel
theorem dL_inYard_11 : decode cL_inYard 11 = .ok (.aload_n 0, 1) := by decide +kernel
theorem dL_inYard_12 : decode cL_inYard 12 = .ok (.invokevirtual 52, 3) := by decide +kernel
theorem dL_inYard_15 : decode cL_inYard 15 = .ok (.if_icmp .ge 22, 3) := by decide +kernel
theorem dL_inYard_18 : decode cL_inYard 18 = .ok (.aload_n 1, 1) := by decide +kernel
theorem dL_inYard_19 : decode cL_inYard 19 = .ok (.aload_n 0, 1) := by decide +kernel
theorem dL_inYard_20 : decode cL_inYard 20 = .ok (.iload_n 2, 1) := by decide +kernel
theorem dL_inYard_21 : decode cL_inYard 21 = .ok (.invokevirtual 55, 3) := by decide +kernel
theorem dL_inYard_24 : decode cL_inYard 24 = .ok (.invokestatic 111, 3) := by decide +kernel
theorem dL_inYard_27 : decode cL_inYard 27 = .ok (.invokevirtual 117, 3) := by decide +kernel
theorem dL_inYard_30 : decode cL_inYard 30 = .ok (.pop, 1) := by decide +kernel
theorem dL_inYard_31 : decode cL_inYard 31 = .ok (.iinc 2 1, 3) := by decide +kernel
theorem dL_inYard_34 : decode cL_inYard 34 = .ok (.goto (-24), 3) := by decide +kernel
theorem dL_inYard_37 : decode cL_inYard 37 = .ok (.aload_n 1, 1) := by decide +kernel
theorem dL_inYard_38 : decode cL_inYard 38 = .ok (.areturn, 1) := by decide +kernel

section GYD
variable {p : Program} {l : Launch} {e : Env} {s : State} {m : MethodId} {args : Array Value} {below : List Frame} {meth : Method} {c : Code} {H : Heap} {locs : List Loc} {cells slots : Nat} {Q : State → Prop} {E : gE} {M : gM} {J : jA} {ls : Array Slot} {ids : Nat → Int32}
set_option maxRecDepth 100000 in
set_option maxHeartbeats 4000000 in
theorem yard_add (hC : sC p s m args c cL_inYard 3 RL E J) {q k r cap : Nat} {f : Nat → Option Nat} {B : va_W} (hk : k < 15) (h : lsH J k ids cap f B) (hcap : k ≤ 10 → cap = 10) (hI : eI E s M (lsW J E.2.2.1 q k r cap f B) H locs) (hl : ls.size = 3) (hcs : cells + 2 ≤ 80 ∧ slots + 41 ≤ 800)
    (kk : ∀ (r' cap' : Nat) (f' : Nat → Option Nat) (B' : va_W) (H : Heap) (locs : List Loc), lsH J (k + 1) ids cap' f' B' → (k + 1 ≤ 10 → cap' = 10) → eI E s M (lsW J E.2.2.1 q (k + 1) r' cap' f' B') H locs → W p l e (gRX 14 320 80 800) s m args below meth c H locs (cells + 2) (slots + 41) Q (F0 m 30 ls [.int 1])) :
    W p l e (gRX 14 320 80 800) s m args below meth c H locs cells slots Q (F0 m 24 ls [.int (ids k), .ref q]) := by
  have hx := hC.1.1
  have hb := hC.1.2.1
  have hK := hC.2.1.2.2.2.2.2.1
  have hAn := hC.2.2.2.1
  have hJ := hC.2.2.1
  refine j_callS (rest := [.ref q]) (gwl E M () ++ lsW J E.2.2.1 q k r cap f B) hC.2 (wc := []) (by rw [List.append_nil]; exact hI) (J_valueOf l E.1 E.2.2.1 J (v := ids k)) (fun _ h => absurd h List.not_mem_nil) Z_J6_valueOf_2dffe ZS_J6_valueOf_2dffe w1205 ⟨rfl, rfl⟩ ⟨Nat.le_of_ble_eq_true rfl, Nat.le_of_ble_eq_true rfl⟩ rfl hl rfl (Nat.le_of_ble_eq_true rfl) dL_inYard_24 ⟨show cells + 1 ≤ 80 by omega, show slots + 1 ≤ 800 by omega⟩ (fun rv u H1 locs1 hp hI1 hk1 => ?_)
  obtain ⟨rfl, hv⟩ := hp
  obtain ⟨X1, y⟩ := u
  replace hI1 : jI E.1 s (eA E s.heap.size) ((gwl E M () ++ lsW J E.2.2.1 q k r cap f B) ++ X1) H1 locs1 := hI1
  replace hv : jVal J (ids k) y X1 := hv
  show W p l e (gRX 14 320 80 800) s m args below meth c H1 locs1 (cells + 1) (slots + 1) Q (F0 m 27 ls [.ref y, .ref q])
  have hyB : ∀ B0 : va_W, bxV J (B0 ++ X1) y (ids k) := fun B0 => by
    rcases hv with ⟨-, k9, h1, h2, h3⟩ | rfl
    · exact Or.inr ⟨k9, h1, h2, h3⟩
    · exact Or.inl (List.mem_append_right _ List.mem_cons_self)
  by_cases h0 : k = 0
  · subst h0
    rw [lsW_0] at hI1
    have hI2 : jI E.1 s (eA E s.heap.size) ((gwl E M () ++ X1) ++ [(q, .inr (5, [.int (nI 0), .ref J.2.2.1, .int (nI 0)]))]) H1 locs1 := jI_perm (by
      rw [List.append_assoc, List.append_assoc]
      exact List.Perm.append_left _ List.perm_append_comm) hI1
    have hbx : ∀ z ∈ [y], jBx s H1 z ∧ ¬ va_A [(q, (.inr (5, [.int (nI 0), .ref J.2.2.1, .int (nI 0)]) : va_E))] H1.size z := fun z hz => by
      rw [List.mem_singleton.mp hz]
      exact bxV.box (B := [] ++ X1) hK hJ hAn hI2 (fun z hz => List.mem_append_right _ hz) (hyB [])
    refine j_callV (rest := []) (gwl E M () ++ X1) hC.2 (wc := [(q, .inr (5, [.int (nI 0), .ref J.2.2.1, .int (nI 0)]))]) hI2 (J_addE l E.1 E.2.2.1 J (bx := [y]) List.mem_cons_self) hbx Z_Jx4a65c_add_9ea2d ZV_Jx4a65c_add_9ea2d w1225 (va_recv (q := (RJx4a65c, TJx4a65c, 3)) (ci := 5) (q0 := ((gwl E M () ++ X1)).length) hK hI2.1 rfl (by rw [List.getElem?_append_right (Nat.le_refl _), Nat.sub_self]; rfl)) ⟨rfl, rfl⟩ ⟨Nat.le_of_ble_eq_true rfl, Nat.le_of_ble_eq_true rfl⟩ rfl hl rfl (Nat.le_of_ble_eq_true rfl) dL_inYard_27 ⟨show cells + 1 + 1 ≤ 80 by omega, show slots + 1 + 40 ≤ 800 by omega⟩ (fun rv u H2 locs2 hp hI3 hk2 => ?_)
    subst hp
    refine kk u 10 (va_up (fun _ => none) 0 (some y)) ([] ++ X1) H2 locs2 ⟨by decide, Or.inl rfl, fun j hj => ?_⟩ (fun _ => rfl) ?_
    · obtain rfl : j = 0 := by omega
      exact ⟨y, if_pos rfl, hyB []⟩
    · rw [lsW_1 (by omega)]
      refine jI_perm ?_ hI3
      rw [List.append_assoc]
      exact List.Perm.append_left _ List.perm_append_comm
  · have h1 : 0 < k := by omega
    obtain ⟨hc1, hc2, hel⟩ := h
    rw [lsW_1 h1] at hI1
    have hI2 : jI E.1 s (eA E s.heap.size) ((gwl E M () ++ (B ++ X1)) ++ [(q, .inr (5, [.int (nI k), .ref r, .int (nI k)])), (r, .inl (E.2.2.1 4, cap, .inr (.inr (.inr (.inr f)))))]) H1 locs1 := jI_perm (by
      rw [List.append_assoc, List.append_assoc]
      refine List.Perm.append_left _ ?_
      show (([(q, (.inr (5, [.int (nI k), .ref r, .int (nI k)]) : va_E)), (r, .inl (E.2.2.1 4, cap, .inr (.inr (.inr (.inr f)))))] ++ B) ++ X1).Perm _
      rw [List.append_assoc]
      exact List.perm_append_comm) hI1
    have hall : ∀ z v, bxV J (B ++ X1) z v → jBx s H1 z ∧ ¬ va_A [(q, (.inr (5, [.int (nI k), .ref r, .int (nI k)]) : va_E)), (r, .inl (E.2.2.1 4, cap, .inr (.inr (.inr (.inr f)))))] H1.size z := fun z v hz => bxV.box (B := B ++ X1) hK hJ hAn hI2 (fun z hz => List.mem_append_right _ hz) hz
    by_cases h10 : k < cap
    · have hc40 : cap ≤ 40 := by omega
      have hbx : ∀ z ∈ [y], jBx s H1 z ∧ ¬ va_A [(q, (.inr (5, [.int (nI k), .ref r, .int (nI k)]) : va_E)), (r, .inl (E.2.2.1 4, cap, .inr (.inr (.inr (.inr f)))))] H1.size z := fun z hz => by
        rw [List.mem_singleton.mp hz]
        exact hall _ _ (hyB B)
      refine j_callV (rest := []) (gwl E M () ++ (B ++ X1)) hC.2 (wc := [(q, .inr (5, [.int (nI k), .ref r, .int (nI k)])), (r, .inl (E.2.2.1 4, cap, .inr (.inr (.inr (.inr f)))))]) hI2 (J_addS l E.1 E.2.2.1 J (bx := [y]) (md := nI k) List.mem_cons_self h10 hc40) hbx Z_Jx4a65c_add_9ea2d ZV_Jx4a65c_add_9ea2d w1225 (va_recv (q := (RJx4a65c, TJx4a65c, 3)) (ci := 5) (q0 := ((gwl E M () ++ (B ++ X1))).length) hK hI2.1 rfl (by rw [List.getElem?_append_right (Nat.le_refl _), Nat.sub_self]; rfl)) ⟨rfl, rfl⟩ ⟨Nat.le_of_ble_eq_true rfl, Nat.le_of_ble_eq_true rfl⟩ rfl hl rfl (Nat.le_of_ble_eq_true rfl) dL_inYard_27 ⟨show cells + 1 + 1 ≤ 80 by omega, show slots + 1 + 40 ≤ 800 by omega⟩ (fun rv u H2 locs2 hp hI3 hk2 => ?_)
      subst hp
      refine kk r cap (va_up f k (some y)) (B ++ X1) H2 locs2 ⟨by omega, hc2, fun j hj => ?_⟩ (fun h9 => hcap (by omega)) ?_
      · by_cases e9 : j = k
        · subst e9
          exact ⟨y, if_pos rfl, hyB B⟩
        · obtain ⟨z, h2, h3⟩ := hel j (by omega)
          exact ⟨z, (if_neg e9).trans h2, h3.app⟩
      · rw [lsW_1 (by omega)]
        refine jI_perm ?_ hI3
        rw [List.append_assoc, show nI k + 1 = nI (k + 1) from nI_add k 1]
        exact List.Perm.append_left _ List.perm_append_comm
    · have ek : k = 10 := by omega
      have ec : cap = 10 := hcap (by omega)
      subst ek
      subst ec
      have hf : jEl f 10 (y :: (List.range 10).map (fun j => (f j).getD 0)) := fun i hi => by
        obtain ⟨z, h2, h3⟩ := hel i hi
        exact ⟨z, h2, List.mem_cons_of_mem _ (List.mem_map.mpr ⟨i, List.mem_range.mpr hi, by rw [h2]; rfl⟩)⟩
      have hbx : ∀ z ∈ (y :: (List.range 10).map (fun j => (f j).getD 0)), jBx s H1 z ∧ ¬ va_A [(q, (.inr (5, [.int (nI 10), .ref r, .int (nI 10)]) : va_E)), (r, .inl (E.2.2.1 4, 10, .inr (.inr (.inr (.inr f)))))] H1.size z := fun z hz => by
        rcases List.mem_cons.mp hz with rfl | hz
        · exact hall _ _ (hyB B)
        · obtain ⟨i, hi, rfl⟩ := List.mem_map.mp hz
          obtain ⟨z, h2, h3⟩ := hel i (List.mem_range.mp hi)
          rw [h2]
          exact hall z _ h3.app
      refine j_callV (rest := []) (gwl E M () ++ (B ++ X1)) hC.2 (wc := [(q, .inr (5, [.int (nI 10), .ref r, .int (nI 10)])), (r, .inl (E.2.2.1 4, 10, .inr (.inr (.inr (.inr f)))))]) hI2 (J_addG l E.1 E.2.2.1 J (bx := (y :: (List.range 10).map (fun j => (f j).getD 0))) (md := nI 10) List.mem_cons_self hf) hbx Z_Jx4a65c_add_9ea2d ZV_Jx4a65c_add_9ea2d w1225 (va_recv (q := (RJx4a65c, TJx4a65c, 3)) (ci := 5) (q0 := ((gwl E M () ++ (B ++ X1))).length) hK hI2.1 rfl (by rw [List.getElem?_append_right (Nat.le_refl _), Nat.sub_self]; rfl)) ⟨rfl, rfl⟩ ⟨Nat.le_of_ble_eq_true rfl, Nat.le_of_ble_eq_true rfl⟩ rfl hl rfl (Nat.le_of_ble_eq_true rfl) dL_inYard_27 ⟨show cells + 1 + 1 ≤ 80 by omega, show slots + 1 + 40 ≤ 800 by omega⟩ (fun rv u H2 locs2 hp hI3 hk2 => ?_)
      subst hp
      refine kk u 15 (va_up (va_cpy f (fun _ => none) 0 0 10) 10 (some y)) (B ++ X1) H2 locs2 ⟨by decide, Or.inr rfl, fun j hj => ?_⟩ (fun h9 => by omega) ?_
      · by_cases e9 : j = 10
        · subst e9
          exact ⟨y, if_pos rfl, hyB B⟩
        · obtain ⟨z, h2, h3⟩ := hel j (by omega)
          refine ⟨z, (if_neg e9).trans ?_, h3.app⟩
          rw [pk_cpy_in (by omega) (by omega), show 0 + (j - 0) = j by omega]
          exact h2
      · rw [lsW_1 (by omega)]
        refine jI_perm ?_ hI3
        rw [List.append_assoc, show nI 10 + 1 = nI 11 by decide]
        exact List.Perm.append_left _ List.perm_append_comm
set_option maxRecDepth 100000 in
set_option maxHeartbeats 4000000 in
theorem yard_loop (hst : l.stackTraces = false) (hC : sC p s m args c cL_inYard 3 RL E J) {n q : Nat} (h : yrdH n ids M)
    (kv : ∀ (r cap : Nat) (f : Nat → Option Nat) (B : va_W) (H : Heap) (locs : List Loc) (ls : Array Slot), lsH J n ids cap f B → eI E s M (lsW J E.2.2.1 q n r cap f B) H locs → lv_has ls 3 [(1, .ref q)] → W p l e (gRX 14 320 80 800) s m args below meth c H locs (2 + 3 * n) (10 + 50 * n) Q (F0 m 37 ls [])) :
    ∀ (d k r cap : Nat) (f : Nat → Option Nat) (B : va_W) (H : Heap) (locs : List Loc) (ls : Array Slot), k + d = n → lsH J k ids cap f B → (k ≤ 10 → cap = 10) → eI E s M (lsW J E.2.2.1 q k r cap f B) H locs → lv_has ls 3 [(2, .int (nI k)), (0, .ref (E.2.1 132)), (1, .ref q)] → W p l e (gRX 14 320 80 800) s m args below meth c H locs (2 + 3 * k) (10 + 50 * k) Q (F0 m 10 ls []) := by
  obtain ⟨hn, hyc, hya⟩ := h
  intro d
  induction d with
  | zero =>
    intro k r cap f B H locs ls hk hL hcap hI hl
    have ek : k = n := by omega
    subst ek
    have hx := hC.1.1
    have hb := hC.1.2.1
    refine lv_iload_n hx hb dL_inYard_10 rfl (lv_at hl 0 rfl) ?_
    refine lv_aload_n hx hb dL_inYard_11 rfl (lv_at hl 1 rfl) ?_
    refine e_call0 (rest := [.int (nI k)]) hC.1 hI (C_X6_yardCount l E () hyc) Y_X6_yardCount V_X6_yardCount w778 (e_recv6 hC.1 hI) ⟨rfl, rfl⟩ ⟨Nat.le_of_ble_eq_true rfl, Nat.le_of_ble_eq_true rfl⟩ rfl hl.1 rfl (Nat.le_of_ble_eq_true rfl) dL_inYard_12 ⟨show 2 + 3 * k + 0 ≤ 80 by omega, show 10 + 50 * k + 0 ≤ 800 by omega⟩ (fun H locs hI => ?_)
    refine lv_icmp_ge (tgt := 37) hx hb dL_inYard_15 rfl (fun _ => ?_) (fun h => absurd (Int32.le_refl _) h)
    exact kv r cap f B H locs ls hL hI (lv_sub hl [2] rfl)
  | succ d ih =>
    intro k r cap f B H locs ls hk hL hcap hI hl
    have hx := hC.1.1
    have hb := hC.1.2.1
    have hlt : k < n := by omega
    refine lv_iload_n hx hb dL_inYard_10 rfl (lv_at hl 0 rfl) ?_
    refine lv_aload_n hx hb dL_inYard_11 rfl (lv_at hl 1 rfl) ?_
    refine e_call0 (rest := [.int (nI k)]) hC.1 hI (C_X6_yardCount l E () hyc) Y_X6_yardCount V_X6_yardCount w778 (e_recv6 hC.1 hI) ⟨rfl, rfl⟩ ⟨Nat.le_of_ble_eq_true rfl, Nat.le_of_ble_eq_true rfl⟩ rfl hl.1 rfl (Nat.le_of_ble_eq_true rfl) dL_inYard_12 ⟨show 2 + 3 * k + 0 ≤ 80 by omega, show 10 + 50 * k + 0 ≤ 800 by omega⟩ (fun H locs hI => ?_)
    refine lv_icmp_ge (tgt := 37) hx hb dL_inYard_15 rfl (fun h => absurd h (nI_ge hlt (by omega))) (fun _ => ?_)
    refine lv_aload_n hx hb dL_inYard_18 rfl (lv_at hl 2 rfl) ?_
    refine lv_aload_n hx hb dL_inYard_19 rfl (lv_at hl 1 rfl) ?_
    refine lv_iload_n hx hb dL_inYard_20 rfl (lv_at hl 0 rfl) ?_
    refine e_callX (rest := [.ref q]) hC.1 hI (C_X6_yardAt l hst E () (hya k hlt)) Y_X6_yardAt V_X6_yardAt w782 (e_recv6 hC.1 hI) ⟨rfl, rfl⟩ ⟨Nat.le_of_ble_eq_true rfl, Nat.le_of_ble_eq_true rfl⟩ rfl hl.1 rfl (Nat.le_of_ble_eq_true rfl) dL_inYard_21 ⟨show 2 + 3 * k + 1 ≤ 80 by omega, show 10 + 50 * k + 6 ≤ 800 by omega⟩ (fun H locs hI => ?_)
    refine yard_add hC (show k < 15 by omega) hL hcap hI hl.1 ⟨by omega, by omega⟩ (fun r cap f B H locs hL hcap hI => ?_)
    refine lv_pop hx hb dL_inYard_30 rfl ?_
    refine lv_iinc (k := 0) (v := nI (k + 1)) (lv' := [(2, .int (nI (k + 1))), (0, .ref (E.2.1 132)), (1, .ref q)]) hx hb dL_inYard_31 hl rfl (by rw [nI_succ]; rfl) (by decide) rfl (fun ls hl => ?_)
    refine lv_goto (tgt := 10) hx hb dL_inYard_34 (by decide) ?_
    refine W.widen (show _ ≤ 2 + 3 * (k + 1) by omega) (show _ ≤ 10 + 50 * (k + 1) by omega) ?_
    exact ih (k + 1) r cap f B H locs ls (by omega) hL hcap hI hl
end GYD
set_option maxRecDepth 100000 in
set_option maxHeartbeats 4000000 in
theorem C_inYard (l : Launch) (hst : l.stackTraces = false) (E : gE) (J : jA) {M : gM} {n : Nat} {ids : Nat → Int32} (h : yrdH n ids M) (sz : Nat) : Met l yL_inYard (gWs (.code yL_inYard cL_inYard 3 (some (.object "java/util/ArrayList")))) (gRX 14 320 80 800) (va_Pc [.ref (E.2.1 132)] (sPre E M J sz)) (yrdQ E M J n ids) 80 800 (eA E sz) := by
  refine sMet (by decide +kernel) (Nat.le_of_ble_eq_true rfl) ?_
  intro p e s m args below meth c H locs ls hsz hC hr hlocks hl hI
  subst hsz
  replace hC : sC p s m args c cL_inYard 3 RL E J := hC
  replace hl : lv_has ls 3 [(0, .ref (E.2.1 132))] := hl
  have hx := hC.1.1
  have hb := hC.1.2.1
  have hown := hC.1.2.2.2.1
  have hts := hC.1.2.2.2.2.1
  have hK := hC.2.1.2.2.2.2.2.1
  have hAn := hC.2.2.2.1
  replace hI : jI E.1 s (eA E s.heap.size) (gwl E M ()) H locs := by rw [← gwl_nil E M]; exact hI
  refine va_new (ci := 5) (fs := [.int 0, .null, .int 0]) hx hb hts uJli tyJx4a65c tyJx4a65c_ok hown (hts _ w1176) (hts _ w1177) (hts _ w21) hK hI.1 hI.2.1 hI.2.2 hAn rfl (fun j hj => by revert j; decide) (Nat.le_of_ble_eq_true rfl) (Nat.le_of_ble_eq_true rfl) dL_inYard_0 (fun q H hP hD hS => ?_)
  have hI : jI E.1 s (eA E s.heap.size) (gwl E M () ++ [(q, .inr (5, [.int 0, .null, .int 0]))]) H locs := ⟨hP, hD, hS⟩
  refine lv_dup hx hb dL_inYard_3 rfl ?_
  refine j_callI (rest := [.ref q]) (gwl E M ()) hC.2 hI (J_ArrayList l E.1 E.2.2.1 J) (fun _ h => absurd h List.not_mem_nil) Z_Jx4a65c_init_da8c8 rfl ZI_Jx4a65c_init_da8c8 w1178 ⟨rfl, rfl⟩ ⟨Nat.le_of_ble_eq_true rfl, Nat.le_of_ble_eq_true rfl⟩ rfl hl.1 rfl (Nat.le_of_ble_eq_true rfl) dL_inYard_4 ⟨Nat.le_of_ble_eq_true rfl, Nat.le_of_ble_eq_true rfl⟩ (fun rv u H locs hp hI _ => ?_)
  subst hp
  refine lv_astore_n (lv' := [(1, .ref q), (0, .ref (E.2.1 132))]) hx hb dL_inYard_7 rfl hl (by decide) rfl (fun ls hl => ?_)
  refine lv_iconst (v := 0) hx hb dL_inYard_8 (by decide) ?_
  refine lv_istore_n (lv' := [(2, .int (nI 0)), (1, .ref q), (0, .ref (E.2.1 132))]) hx hb dL_inYard_9 rfl hl (by decide) rfl (fun ls hl => ?_)
  refine W.widen (show _ ≤ 2 + 3 * 0 by decide) (show _ ≤ 10 + 50 * 0 by decide) ?_
  have hn := h.1
  refine yard_loop hst hC h (fun r cap f B H locs ls hL hI hl => ?_) n 0 0 10 (fun _ => none) [] H locs ls (by omega) ⟨by decide, Or.inl rfl, fun j hj => absurd hj (Nat.not_lt_zero _)⟩ (fun _ => rfl) hI (lv_sub hl [0, 2, 1] rfl)
  refine lv_aload_n hx hb dL_inYard_37 rfl (lv_at hl 0 rfl) ?_
  refine W.widen (show _ ≤ 80 by omega) (show _ ≤ 800 by omega) ?_
  have hw : ∀ (k : Nat) (z : Nat × va_E), (lsW J E.2.2.1 q n r cap f B)[k]? = some z → (gwl E M () ++ lsW J E.2.2.1 q n r cap f B)[142 + k]? = some z := fun k z h => by
    rw [List.getElem?_append_right (by rw [gwl_len]; omega), gwl_len, Nat.add_sub_cancel_left]; exact h
  refine W.aret hx hb hr (Or.inl ⟨_, rfl⟩) (Or.inr ⟨_, rfl⟩) (fun t ht hWm => ⟨⟨q, r, cap, f, B, rfl, hL, eW_at hC.1.2.2.2.2.2 hI ht hWm, fun k z hz => by rw [ht]; exact hI.1 _ _ (hw k z hz), ⟨fun i j y z hi hj e9 => ?_, fun k z hz => ?_⟩⟩, e_F hI ht⟩) hI.2.2.2.2 dL_inYard_38
  · have := hI.2.1.1 _ _ _ _ (hw i y hi) (hw j z hj) e9
    omega
  · rcases hI.2.1.2 _ _ (hw k z hz) with h9 | h9
    · exfalso
      obtain ⟨i, hi, e9⟩ := h9
      have h2 := hI.2.1.1 (142 + k) (gdn i) _ _ (hw k z hz) (by rw [List.getElem?_append_left (by rw [gwl_len]; exact gdn_lt hi)]; exact gwl_get hi) e9
      have := gdn_lt hi
      omega
    · exact h9
