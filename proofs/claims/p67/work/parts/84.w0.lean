/-! The world of a terminal that has just been made. -/
def wM0 : gM := fun a => if a = 132 then (fun k => if k = 8 then -1 else if k = 9 then -1 else 0) else if a = 150 then (fun k => if k = 9 then -1 else if k = 10 then -1 else 0) else fun _ => 0
theorem wM0_inv : gInv 0 wM0 := by
  refine gInv_0 (fun a k h1 h2 => ?_) rfl rfl rfl rfl
  unfold wM0
  by_cases a1 : a = 132
  · subst a1
    rw [if_pos rfl]
    have k8 : k ≠ 8 := fun q => h1 ⟨rfl, Or.inl q⟩
    have k9 : k ≠ 9 := fun q => h1 ⟨rfl, Or.inr q⟩
    show (if k = 8 then (-1 : Int32) else if k = 9 then -1 else 0) = nI 0
    rw [if_neg k8, if_neg k9]
    rfl
  · rw [if_neg a1]
    by_cases a2 : a = 150
    · subst a2
      rw [if_pos rfl]
      have k9 : k ≠ 9 := fun q => h2 ⟨rfl, Or.inl q⟩
      have k10 : k ≠ 10 := fun q => h2 ⟨rfl, Or.inr q⟩
      show (if k = 9 then (-1 : Int32) else if k = 10 then -1 else 0) = nI 0
      rw [if_neg k9, if_neg k10]
      rfl
    · rw [if_neg a2]
      rfl
theorem wM0_z {i : Nat} (h1 : i ≠ 132) (h2 : i ≠ 150) : wM0 i = fun _ => 0 := by
  unfold wM0
  rw [if_neg h1, if_neg h2]
theorem lk_l {α : Type} {a b : List α} {k : Nat} {q : α} (h : a[k]? = some q) : (a ++ b)[k]? = some q := by
  rw [List.getElem?_append_left (List.getElem?_eq_some_iff.mp h).1]; exact h
theorem lk_r {α : Type} {a b : List α} {k : Nat} {q : α} (n : Nat) (hn : a.length = n) (h : b[k]? = some q) : (a ++ b)[n + k]? = some q := by
  subst hn
  rw [List.getElem?_append_right (by omega), show a.length + k - a.length = k by omega]; exact h
theorem Z7_get {cid : Nat → ClassId} {a : Nat → Nat} {k : Nat} (h : k < 12) : (Z7 cid a)[k]? = some (a k, gst (cid 0) a (fun _ => 0) 0 k) := by
  unfold Z7
  rw [List.getElem?_map, List.getElem?_range h]
  rfl
theorem Z7_len (cid : Nat → ClassId) (a : Nat → Nat) : (Z7 cid a).length = 12 := by simp [Z7]
theorem ZF_get {cid : Nat → ClassId} {b : Nat → Nat → Nat} : ∀ j t k, t < j → k < 12 → (ZF cid b j)[12 * t + k]? = some (b t k, gst (cid 0) (b t) (fun _ => 0) 0 k) := by
  intro j
  induction j with
  | zero => intro t k h; omega
  | succ n ih =>
    intro t k h hk
    rw [ZF_succ]
    by_cases e : t = n
    · subst e
      exact lk_r _ (ZF_len cid b t) (Z7_get hk)
    · exact lk_l (ih t k (by omega) hk)
theorem gst_congr {cI : ClassId} {ad a : Nat → Nat} {r : Nat → Int32} {o k : Nat} (h : ∀ j, j < 12 → ad (o + j) = a j) (hr : r = fun _ => 0) (hk : k < 12) : gst cI ad r o k = gst cI a (fun _ => 0) 0 k := by
  subst hr
  match k, hk with
  | 0, _ =>
    show (Sum.inr (11, [.ref (ad (o + 1)), .ref (ad (o + 8)), .ref (ad (o + 9)), .ref (ad (o + 10)), .ref (ad (o + 11)), .int 0, .int 0, .int 0, .int 0, .int 0, .int 0]) : va_E) = _
    rw [h 1 (by decide), h 8 (by decide), h 9 (by decide), h 10 (by decide), h 11 (by decide)]
    rfl
  | 1, _ =>
    show (Sum.inr (6, [.ref (ad (o + 2)), .ref (ad (o + 3)), .ref (ad (o + 4)), .ref (ad (o + 5)), .ref (ad (o + 6)), .ref (ad (o + 7)), .int 0]) : va_E) = _
    rw [h 2 (by decide), h 3 (by decide), h 4 (by decide), h 5 (by decide), h 6 (by decide), h 7 (by decide)]
    rfl
  | 2, _ => rfl
  | 3, _ => rfl
  | 4, _ => rfl
  | 5, _ => rfl
  | 6, _ => rfl
  | 7, _ => rfl
  | 8, _ => rfl
  | 9, _ => rfl
  | 10, _ => rfl
  | 11, _ => rfl
section ASM
variable {D : va_G} {cid adK adV : Nat → Nat} {ss : List (List Int32)} {u1 u2 u3 u6 u7 : Nat → Nat} {u4 : Nat × Nat × (Nat → Nat → Nat)} {u5 : Nat → Nat} {h : Nat}
def wad (u1 u2 u3 u6 u7 : Nat → Nat) (u4 : Nat × Nat × (Nat → Nat → Nat)) (u5 : Nat → Nat) (h : Nat) : Nat → Nat := fun i =>
  if i < 12 then u1 i else if i < 24 then u2 (i - 12) else if i < 36 then u3 (i - 24) else if i < 132 then u4.2.2 ((i - 36) / 12) ((i - 36) % 12) else if i = 132 then h else if i = 133 then u4.1 else if i = 134 then u4.2.1 else if i = 135 then u5 0 else if i = 136 then u5 1 else if i = 137 then u5 2 else if i < 148 then u6 (i - 146) else u7 (i - 148)
def wbig (cid : Nat → Nat) (u1 u2 u3 u6 u7 : Nat → Nat) (u4 : Nat × Nat × (Nat → Nat → Nat)) (u5 : Nat → Nat) (h : Nat) : va_W := ZT cid (u1, u2, u3, u4, u5, u6, u7, h)
def wpos (i : Nat) : Nat := if i < 36 then i + 1 else if i < 132 then i + 3 else if i = 132 then 0 else if i = 133 then 37 else if i = 134 then 38 else if i < 138 then i else i - 8
abbrev wE (D : va_G) (cid adK adV : Nat → Nat) (ss : List (List Int32)) (ad : Nat → Nat) : gE := (D, ad, cid, adK, adV, ss)
theorem ZH_len (cid : Nat → Nat) (u : Nat × Nat × (Nat → Nat → Nat)) : (ZH cid u).length = 98 := by
  unfold ZH
  rw [List.length_cons, List.length_cons, ZF_len]
theorem ZP_len (cid : Nat → Nat) (u : Nat → Nat) : (ZP cid u).length = 3 := rfl
theorem ZT_len : (ZT cid (u1, u2, u3, u4, u5, u6, u7, h)).length = 142 := by
  unfold ZT
  simp only [List.length_cons, List.length_append, Z7_len, ZH_len, ZP_len, List.length_nil]
  rfl
theorem tl_len2 : (([] ++ Z7 cid u1 : va_W)).length = 12 := by simp only [List.length_append, Z7_len, List.length_nil]
theorem tl_len3 : ((([] ++ Z7 cid u1) ++ Z7 cid u2 : va_W)).length = 24 := by simp only [List.length_append, Z7_len, List.length_nil]
theorem tl_len4 : (((([] ++ Z7 cid u1) ++ Z7 cid u2) ++ Z7 cid u3 : va_W)).length = 36 := by simp only [List.length_append, Z7_len, List.length_nil]
theorem tl_len5 : ((((([] ++ Z7 cid u1) ++ Z7 cid u2) ++ Z7 cid u3) ++ ZH cid u4 : va_W)).length = 134 := by simp only [List.length_append, Z7_len, ZH_len, List.length_nil]
theorem tl_len6 : (((((([] ++ Z7 cid u1) ++ Z7 cid u2) ++ Z7 cid u3) ++ ZH cid u4) ++ ZP cid u5 : va_W)).length = 137 := by simp only [List.length_append, Z7_len, ZH_len, ZP_len, List.length_nil]
theorem tl_len7 : ((((((([] ++ Z7 cid u1) ++ Z7 cid u2) ++ Z7 cid u3) ++ ZH cid u4) ++ ZP cid u5) ++ ZI cid u6 : va_W)).length = 139 := by
  simp only [List.length_append, Z7_len, ZH_len, ZP_len, List.length_nil]
  rfl
/-- a place of the class's own cells but the first -/
theorem big_tl {k : Nat} {q : Nat × va_E} (hk : (((((((([] ++ Z7 cid u1) ++ Z7 cid u2) ++ Z7 cid u3) ++ ZH cid u4) ++ ZP cid u5) ++ ZI cid u6) ++ ZL cid u7 : va_W))[k]? = some q) : (wbig cid u1 u2 u3 u6 u7 u4 u5 h)[k + 1]? = some q := by
  unfold wbig ZT
  rw [List.getElem?_cons_succ]
  exact hk
theorem big_st1 {k : Nat} (hk : k < 12) : (wbig cid u1 u2 u3 u6 u7 u4 u5 h)[k + 1]? = some (u1 k, gst (cid 0) u1 (fun _ => 0) 0 k) := big_tl (lk_l (lk_l (lk_l (lk_l (lk_l (lk_l (Z7_get hk)))))))
theorem big_st2 {k : Nat} (hk : k < 12) : (wbig cid u1 u2 u3 u6 u7 u4 u5 h)[12 + k + 1]? = some (u2 k, gst (cid 0) u2 (fun _ => 0) 0 k) := big_tl (lk_l (lk_l (lk_l (lk_l (lk_l (lk_r 12 tl_len2 (Z7_get hk)))))))
theorem big_st3 {k : Nat} (hk : k < 12) : (wbig cid u1 u2 u3 u6 u7 u4 u5 h)[24 + k + 1]? = some (u3 k, gst (cid 0) u3 (fun _ => 0) 0 k) := big_tl (lk_l (lk_l (lk_l (lk_l (lk_r 24 tl_len3 (Z7_get hk))))))
theorem big_H {k : Nat} {q : Nat × va_E} (hk : (ZH cid u4)[k]? = some q) : (wbig cid u1 u2 u3 u6 u7 u4 u5 h)[36 + k + 1]? = some q := big_tl (lk_l (lk_l (lk_l (lk_r 36 tl_len4 hk))))
theorem big_P {k : Nat} {q : Nat × va_E} (hk : (ZP cid u5)[k]? = some q) : (wbig cid u1 u2 u3 u6 u7 u4 u5 h)[134 + k + 1]? = some q := big_tl (lk_l (lk_l (lk_r 134 tl_len5 hk)))
theorem big_I {k : Nat} {q : Nat × va_E} (hk : (ZI cid u6)[k]? = some q) : (wbig cid u1 u2 u3 u6 u7 u4 u5 h)[137 + k + 1]? = some q := big_tl (lk_l (lk_r 137 tl_len6 hk))
theorem big_L {k : Nat} {q : Nat × va_E} (hk : (ZL cid u7)[k]? = some q) : (wbig cid u1 u2 u3 u6 u7 u4 u5 h)[139 + k + 1]? = some q := big_tl (lk_r 139 tl_len7 hk)
theorem wad_1 {k : Nat} (hk : k < 12) : wad u1 u2 u3 u6 u7 u4 u5 h k = u1 k := by unfold wad; rw [if_pos hk]
theorem wad_2 {k : Nat} (hk : k < 12) : wad u1 u2 u3 u6 u7 u4 u5 h (12 + k) = u2 k := by unfold wad; rw [if_neg (by omega), if_pos (by omega), show 12 + k - 12 = k by omega]
theorem wad_3 {k : Nat} (hk : k < 12) : wad u1 u2 u3 u6 u7 u4 u5 h (24 + k) = u3 k := by unfold wad; rw [if_neg (by omega), if_neg (by omega), if_pos (by omega), show 24 + k - 24 = k by omega]
theorem wad_h {t k : Nat} (ht : t < 8) (hk : k < 12) : wad u1 u2 u3 u6 u7 u4 u5 h (36 + 12 * t + k) = u4.2.2 t k := by
  unfold wad
  rw [if_neg (by omega), if_neg (by omega), if_neg (by omega), if_pos (by omega), show (36 + 12 * t + k - 36) / 12 = t by omega, show (36 + 12 * t + k - 36) % 12 = k by omega]
theorem wget_st {o k : Nat} (ad : Nat → Nat) {b : Nat → Nat} (ho : ∃ j, j < 11 ∧ o = 12 * j) (hb : ∀ k, k < 12 → ad (o + k) = b k) (hk : k < 12) (x : gX) : (ad (o + k), gct (wE D cid adK adV ss ad) (wM0 (o + k)) x (o + k)) = (b k, gst (cid 0) b (fun _ => 0) 0 k) := by
  obtain ⟨j, hj, rfl⟩ := ho
  rw [gct_st ⟨j, hj, rfl⟩ hk, hb k hk]
  congr 1
  exact gst_congr hb (wM0_z (by omega) (by omega)) hk
theorem wget : ∀ i, gid i → (wbig cid u1 u2 u3 u6 u7 u4 u5 h)[wpos i]? = some (wad u1 u2 u3 u6 u7 u4 u5 h i, gct (wE D cid adK adV ss (wad u1 u2 u3 u6 u7 u4 u5 h)) (wM0 i) () i) := by
  intro i hi
  obtain ⟨hi1, hi2⟩ := id hi
  by_cases c1 : i < 12
  · have e := wget_st (D := D) (cid := cid) (adK := adK) (adV := adV) (ss := ss) (b := u1) (o := 0) (k := i) (wad u1 u2 u3 u6 u7 u4 u5 h) ⟨0, by decide, rfl⟩ (fun k hk => by rw [Nat.zero_add]; exact wad_1 hk) c1 ()
    rw [Nat.zero_add] at e
    rw [e, show wpos i = i + 1 by unfold wpos; rw [if_pos (by omega)]]
    exact big_st1 c1
  by_cases c2 : i < 24
  · obtain ⟨k, rfl⟩ : ∃ k, i = 12 + k := ⟨i - 12, by omega⟩
    rw [wget_st (D := D) (cid := cid) (adK := adK) (adV := adV) (ss := ss) (b := u2) (o := 12) (wad u1 u2 u3 u6 u7 u4 u5 h) ⟨1, by decide, rfl⟩ (fun k hk => wad_2 hk) (by omega) (), show wpos (12 + k) = 12 + k + 1 by unfold wpos; rw [if_pos (by omega)]]
    exact big_st2 (by omega)
  by_cases c3 : i < 36
  · obtain ⟨k, rfl⟩ : ∃ k, i = 24 + k := ⟨i - 24, by omega⟩
    rw [wget_st (D := D) (cid := cid) (adK := adK) (adV := adV) (ss := ss) (b := u3) (o := 24) (wad u1 u2 u3 u6 u7 u4 u5 h) ⟨2, by decide, rfl⟩ (fun k hk => wad_3 hk) (by omega) (), show wpos (24 + k) = 24 + k + 1 by unfold wpos; rw [if_pos (by omega)]]
    exact big_st3 (by omega)
  by_cases c4 : i < 132
  · obtain ⟨t, k, ht, hk, rfl⟩ : ∃ t k, t < 8 ∧ k < 12 ∧ i = 36 + 12 * t + k := ⟨(i - 36) / 12, (i - 36) % 12, by omega, by omega, by omega⟩
    rw [wget_st (D := D) (cid := cid) (adK := adK) (adV := adV) (ss := ss) (b := u4.2.2 t) (o := 36 + 12 * t) (wad u1 u2 u3 u6 u7 u4 u5 h) ⟨3 + t, by omega, by omega⟩ (fun k hk => wad_h ht hk) hk (), show wpos (36 + 12 * t + k) = 36 + (2 + (12 * t + k)) + 1 by unfold wpos; rw [if_neg (by omega), if_pos (by omega)]; omega]
    refine big_H ?_
    unfold ZH
    rw [show 2 + (12 * t + k) = 12 * t + k + 1 + 1 by omega, List.getElem?_cons_succ, List.getElem?_cons_succ]
    exact ZF_get 8 t k ht hk
  by_cases c5 : i < 138
  · obtain ⟨k, rfl⟩ : ∃ k, i = 132 + k := ⟨i - 132, by omega⟩
    match k, (show k < 6 by omega) with
    | 0, _ => rfl
    | 1, _ => exact big_H (k := 0) rfl
    | 2, _ =>
      refine (big_H (k := 1) rfl).trans ?_
      refine congrArg some ?_
      show (u4.2.1, (Sum.inl (cid 2, 8, .inr (.inr (.inr (.inr (fun i => if i < 8 then some (u4.2.2 i 0) else none))))) : va_E)) = (u4.2.1, (Sum.inl (cid 2, 8, .inr (.inr (.inr (.inr (fun i => if i < 8 then some (wad u1 u2 u3 u6 u7 u4 u5 h (36 + 12 * i)) else none))))) : va_E))
      have ef : (fun i => if i < 8 then some (u4.2.2 i 0) else none) = (fun i => if i < 8 then some (wad u1 u2 u3 u6 u7 u4 u5 h (36 + 12 * i)) else none) := by
        funext j
        by_cases hj : j < 8
        · rw [if_pos hj, if_pos hj]
          exact congrArg some (wad_h (k := 0) hj (by decide)).symm
        · rw [if_neg hj, if_neg hj]
      rw [ef]
    | 3, _ => exact big_P (k := 0) rfl
    | 4, _ => exact big_P (k := 1) rfl
    | 5, _ => exact big_P (k := 2) rfl
  obtain ⟨k, rfl⟩ : ∃ k, i = 146 + k := ⟨i - 146, by omega⟩
  match k, (show k < 4 by omega) with
  | 0, _ => exact big_I (k := 0) rfl
  | 1, _ => exact big_I (k := 1) rfl
  | 2, _ => exact big_L (k := 0) rfl
  | 3, _ => exact big_L (k := 1) rfl
theorem wpos_eq (i : Nat) : (i < 36 ∧ wpos i = i + 1) ∨ (36 ≤ i ∧ i < 132 ∧ wpos i = i + 3) ∨ (i = 132 ∧ wpos i = 0) ∨ (i = 133 ∧ wpos i = 37) ∨ (i = 134 ∧ wpos i = 38) ∨ (135 ≤ i ∧ i < 138 ∧ wpos i = i) ∨ (138 ≤ i ∧ wpos i = i - 8) := by
  unfold wpos
  by_cases c1 : i < 36
  · exact Or.inl ⟨c1, if_pos c1⟩
  rw [if_neg c1]
  by_cases c2 : i < 132
  · exact Or.inr (Or.inl ⟨by omega, c2, if_pos c2⟩)
  rw [if_neg c2]
  by_cases c3 : i = 132
  · exact Or.inr (Or.inr (Or.inl ⟨c3, if_pos c3⟩))
  rw [if_neg c3]
  by_cases c4 : i = 133
  · exact Or.inr (Or.inr (Or.inr (Or.inl ⟨c4, if_pos c4⟩)))
  rw [if_neg c4]
  by_cases c5 : i = 134
  · exact Or.inr (Or.inr (Or.inr (Or.inr (Or.inl ⟨c5, if_pos c5⟩))))
  rw [if_neg c5]
  by_cases c6 : i < 138
  · exact Or.inr (Or.inr (Or.inr (Or.inr (Or.inr (Or.inl ⟨by omega, c6, if_pos c6⟩)))))
  · exact Or.inr (Or.inr (Or.inr (Or.inr (Or.inr (Or.inr ⟨by omega, if_neg c6⟩)))))
theorem wpos_inj {i j : Nat} (hi : gid i) (hj : gid j) (h : wpos i = wpos j) : i = j := by
  obtain ⟨-, hi⟩ := hi
  obtain ⟨-, hj⟩ := hj
  rcases wpos_eq i with a | a | a | a | a | a | a <;> rcases wpos_eq j with b | b | b | b | b | b | b <;> omega
theorem wasm {A : Nat → Prop} {H : Heap} (hP : va_P D vwCl (wbig cid u1 u2 u3 u6 u7 u4 u5 h) H) (hD : va_D A (wbig cid u1 u2 u3 u6 u7 u4 u5 h)) :
    va_P D vwCl (gwl (wE D cid adK adV ss (wad u1 u2 u3 u6 u7 u4 u5 h)) wM0 ()) H ∧ (∀ i j, gid i → gid j → wad u1 u2 u3 u6 u7 u4 u5 h i = wad u1 u2 u3 u6 u7 u4 u5 h j → i = j) ∧ ∀ i, gid i → A (wad u1 u2 u3 u6 u7 u4 u5 h i) := by
  refine ⟨fun k q hk => ?_, fun i j hi hj e => ?_, fun i hi => ?_⟩
  · obtain ⟨h1, rfl⟩ := gwl_some hk
    exact hP _ _ (wget (gup k) h1)
  · exact wpos_inj hi hj (hD.1 _ _ _ _ (wget (D := D) (adK := adK) (adV := adV) (ss := ss) i hi) (wget (D := D) (adK := adK) (adV := adV) (ss := ss) j hj) e)
  · exact hD.2 _ _ (wget (D := D) (adK := adK) (adV := adV) (ss := ss) i hi)
end ASM
