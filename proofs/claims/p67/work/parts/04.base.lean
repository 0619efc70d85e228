/-! The world of this claim as one list of cells: what changes in it is numbers alone, and they stand in one memory, by cell and place. -/
abbrev gM : Type := Nat → Nat → Int32
/-- nothing: where another claim keeps rows of its law's own -/
abbrev gX : Type := Unit
/-- the fields' places, the cells' addresses, the arrays' classes, the Strings' addresses, their rows', and what further Strings hold -/
abbrev gE : Type := va_G × ((Nat → Nat) × ((Nat → ClassId) × ((Nat → Nat) × ((Nat → Nat) × List (List Int32)))))
/-- a row of the memory, written whole -/
def gw (M : gM) (a : Nat) (f : Nat → Int32) : gM := fun b => if b = a then f else M b
theorem gw_same (M : gM) (a : Nat) (f : Nat → Int32) : gw M a f a = f := if_pos rfl
theorem gw_ne {M : gM} {a b : Nat} {f : Nat → Int32} (h : b ≠ a) : gw M a f b = M b := if_neg h
/-- a cell of one of the eleven states; o is the state's first cell, k the place behind it -/
def gst (cI : ClassId) (ad : Nat → Nat) (r : Nat → Int32) (o k : Nat) : va_E := match k with
  | 0 => .inr (11, [.ref (ad (o + 1)), .ref (ad (o + 8)), .ref (ad (o + 9)), .ref (ad (o + 10)), .ref (ad (o + 11)), .int (r 5), .int (r 6), .int (r 7), .int (r 8), .int (r 9), .int (r 10)])
  | 1 => .inr (6, [.ref (ad (o + 2)), .ref (ad (o + 3)), .ref (ad (o + 4)), .ref (ad (o + 5)), .ref (ad (o + 6)), .ref (ad (o + 7)), .int (r 6)])
  | 7 => .inl (cI, 5, .inl r)
  | 8 => .inl (cI, 3, .inl r)
  | 9 => .inl (cI, 3, .inl r)
  | 10 => .inl (cI, 3, .inl r)
  | 11 => .inl (cI, 3, .inl r)
  | _ => .inl (cI, 75, .inl r)
/-- the other cells, from the hundred and thirty-second on -/
def gxt (E : gE) (r : Nat → Int32) (x : gX) (k : Nat) : va_E := match k with
  | 0 => .inr (12, [.ref (E.2.1 0), .ref (E.2.1 12), .ref (E.2.1 24), .int (r 3), .ref (E.2.1 133), .ref (E.2.1 135), .ref (E.2.1 146), .ref (E.2.1 148), .int (r 8), .int (r 9)])
  | 1 => .inr (7, [.ref (E.2.1 134), .int (r 1), .int (r 2)])
  | 2 => .inl (E.2.2.1 2, 8, .inr (.inr (.inr (.inr (fun i => if i < 8 then some (E.2.1 (36 + 12 * i)) else none)))))
  | 3 => .inr (10, [.ref (E.2.1 136), .ref (E.2.1 137), .int (r 2)])
  | 4 => .inl (E.2.2.1 0, 8, .inl r)
  | 5 => .inl (E.2.2.1 0, 32, .inl r)
  | 14 => .inr (8, [.ref (E.2.1 147), .int (r 1), .int (r 2)])
  | 15 => .inl (E.2.2.1 1, 60, .inl r)
  | 16 => .inr (9, [.ref (E.2.1 149), .int (r 1)])
  | 17 => .inl (E.2.2.1 1, 100, .inl r)
  | _ => .inl (E.2.2.1 0, 4, .inl r)
def gct (E : gE) (r : Nat → Int32) (x : gX) (id : Nat) : va_E := if id < 132 then gst (E.2.2.1 0) E.2.1 r (12 * (id / 12)) (id % 12) else gxt E r x (id - 132)
/-- the cells' numbers leave out 138 to 145: places of the list and numbers -/
def gup (i : Nat) : Nat := if i < 138 then i else i + 8
def gdn (i : Nat) : Nat := if i < 138 then i else i - 8
abbrev gid (i : Nat) : Prop := i < 150 ∧ (i < 138 ∨ 146 ≤ i)
theorem gdn_lt {i : Nat} (h : gid i) : gdn i < 142 := by
  unfold gdn
  split <;> omega
theorem gup_dn {i : Nat} (h : gid i) : gup (gdn i) = i := by
  obtain ⟨h1, h2⟩ := h
  unfold gup gdn
  by_cases e : i < 138
  · rw [if_pos e, if_pos e]
  · rw [if_neg e, if_neg (by omega)]; omega
theorem gdn_up (i : Nat) : gdn (gup i) = i := by
  unfold gup gdn
  by_cases e : i < 138
  · rw [if_pos e, if_pos e]
  · rw [if_neg e, if_neg (by omega)]; omega
theorem gup_id {i : Nat} (h : i < 142) : gid (gup i) := by
  unfold gup
  split
  · exact ⟨by omega, by omega⟩
  · exact ⟨by omega, by omega⟩
def gwl (E : gE) (M : gM) (x : gX) : va_W := (List.range 142).map (fun i => (E.2.1 (gup i), gct E (M (gup i)) x (gup i)))
theorem gwl_len (E : gE) (M : gM) (x : gX) : (gwl E M x).length = 142 := by simp [gwl]
theorem gwl_up {E : gE} {M : gM} {x : gX} {j : Nat} (h : j < 142) : (gwl E M x)[j]? = some (E.2.1 (gup j), gct E (M (gup j)) x (gup j)) := by
  simp only [gwl, List.getElem?_map, List.getElem?_range h]
  rfl
theorem gwl_get {E : gE} {M : gM} {x : gX} {id : Nat} (h : gid id) : (gwl E M x)[gdn id]? = some (E.2.1 id, gct E (M id) x id) := by
  rw [gwl_up (gdn_lt h), gup_dn h]
theorem gwl_some {E : gE} {M : gM} {x : gX} {k : Nat} {q : Nat × va_E} (h : (gwl E M x)[k]? = some q) : gid (gup k) ∧ q = (E.2.1 (gup k), gct E (M (gup k)) x (gup k)) := by
  have hl : k < (gwl E M x).length := (List.getElem?_eq_some_iff.mp h).1
  rw [gwl_len] at hl
  rw [gwl_up hl] at h
  exact ⟨gup_id hl, (Option.some.inj h).symm⟩
theorem gwl_eq {E : gE} {M M' : gM} {x x' : gX} {a : Nat} {v : Nat × va_E} (ha : gid a) (h1 : v = (E.2.1 a, gct E (M' a) x' a)) (h2 : ∀ j, gid j → j ≠ a → gct E (M' j) x' j = gct E (M j) x j) : (gwl E M x).set (gdn a) v = gwl E M' x' := by
  apply List.ext_getElem?
  intro j
  by_cases e : j = gdn a
  · subst e
    rw [List.getElem?_set_self (by rw [gwl_len]; exact gdn_lt ha), gwl_get ha, h1]
  · rw [List.getElem?_set_ne (Ne.symm e)]
    by_cases hj : j < 142
    · rw [gwl_up hj, gwl_up hj, h2 (gup j) (gup_id hj) (fun q => e (by rw [← q, gdn_up]))]
    · rw [List.getElem?_eq_none (by rw [gwl_len]; omega), List.getElem?_eq_none (by rw [gwl_len]; omega)]
theorem gwl_set {E : gE} {M : gM} {x : gX} {a : Nat} {f : Nat → Int32} (h : gid a) : (gwl E M x).set (gdn a) (E.2.1 a, gct E f x a) = gwl E (gw M a f) x :=
  gwl_eq h (by rw [gw_same]) (fun j _ hj => by rw [gw_ne hj])
/-- the cells that a method may write -/
def gA (E : gE) : Nat → Prop := fun q => ∃ i, gid i ∧ q = E.2.1 i
def gty (E : gE) : List (ClassId × FieldType) := [(E.2.2.1 0, .int), (E.2.2.1 1, .char), (E.2.2.1 2, .object "ContainerTerminal$State"), (E.2.2.1 3, .byte), (E.2.2.1 4, .object "java/lang/Object")]
/-- the words of the tables that a call keeps -/
def gU : List Cond := lw_tbl.filter goodWord
/-- the words of links within the nest -/
def gNF : List (String × Nat × String × String × String) := [(RX3, 63, RX5, "cargo", "LContainerTerminal$Cargo;"), (RX6, 108, RX5, "cargo", "LContainerTerminal$Cargo;"), (RX3, 52, RX5, "draughts", "[I"), (RX6, 145, RX5, "draughts", "[I"), (RX3, 60, RX5, "dueHours", "[I"), (RX6, 149, RX5, "dueHours", "[I"), (RX3, 70, RX5, "wrongs", "[I"), (RX6, 175, RX5, "wrongs", "[I"), (RX3, 73, RX5, "locks", "[I"), (RX6, 172, RX5, "locks", "[I"), (RX6, 129, RX5, "hour", "I"), (RX6, 261, RX5, "fees", "I"), (RX6, 288, RX5, "nextId", "I"), (RX6, 264, RX5, "cleared", "I"), (RX6, 267, RX5, "delivered", "I"), (RX6, 270, RX5, "wrong", "I"), (RX6, 347, RX1, "count", "I"), (RX2, 22, RX4, "count", "I"), (RX6, 344, RX4, "count", "I"), (RX6, 319, RX2, "length", "I"), (RX6, 333, RX2, "position", "I"), (RX6, 310, RX3, "text", "[C"), (RX6, 295, RX3, "length", "I")]
def gNM : List (String × Nat × MethodName) := [(RX6, 9, yX5_init), (RX5, 11, yX0_init), (RX1, 24, yX5_init), (RX6, 35, yX4_init), (RX6, 42, yX2_init), (RX6, 49, yX3_init), (RX5, 60, yX6_isBerth), (RX5, 67, yX6_isStack), (RX5, 70, yX6_pileOf), (RX0, 76, yX6_pileOf), (RX5, 116, yX6_tideAt), (RX4, 67, yX6_passingFault)]
/-- the texts of the exceptions -/
def gTx : List (Nat × String) := [(355, "there is no such berth or stack"), (357, "an argument is out of range"), (359, "the terminal is not in the state for this"), (361, "there is no such ship or container"), (167, "no ship is moored"), (279, "there were no answers"), (307, "the line has no such index"), (316, "the character is out of range"), (322, "the buffer is full"), (336, "the program is malformed"), (342, "a command failed"), (348, "no change can be undone"), (353, "there is no saved copy")]
/-- the words that the commands are read by: their places in the pool, lengths and bytes -/
def gWd : List (Nat × String) := [(72, "or "), (74, "ve "), (76, "stow "), (78, "clear "), (55, "deliver "), (65, "leave "), (70, "hours ")]
def gWl : List Nat := [3, 3, 5, 6, 8, 6, 6]
def gWb : List (List Int32) := [[111, 114, 32], [118, 101, 32], [115, 116, 111, 119, 32], [99, 108, 101, 97, 114, 32], [100, 101, 108, 105, 118, 101, 114, 32], [108, 101, 97, 118, 101, 32], [104, 111, 117, 114, 115, 32]]
/-- Strings: theirs and the rows' addresses; the first seven are the commands' words -/
def gLs (E : gE) : List Nat := gWl ++ E.2.2.2.2.2.map List.length
def gBs (E : gE) : List (List Int32) := gWb ++ E.2.2.2.2.2
abbrev gNs (E : gE) : Nat := 7 + E.2.2.2.2.2.length
def gStr (E : gE) (A : Nat → Prop) (U : State) (H : Heap) : Prop :=
  (∀ i : Nat, i < gNs E → va_O "java/lang/String" (E.2.2.2.1 i) A U H ∧ va_OF "java/lang/String" "coder" "B" (.int 0) (E.2.2.2.1 i) A U H ∧ va_OF "java/lang/String" "value" "[B" (.ref (E.2.2.2.2.1 i)) (E.2.2.2.1 i) A U H ∧ va_T .byte (E.2.2.2.2.1 i) ((gLs E).getD i 0) (fun j => .int (((gBs E).getD i []).getD j 0)) A U H) ∧
  ∀ t ∈ E.2.2.2.2.2, t.length < 1000 ∧ ∀ b ∈ t, ∃ n, n < 128 ∧ b = nI n
theorem gStr.moved {E : gE} {A : Nat → Prop} {s U : State} {H : Heap} (hm : s.vm.Alike U.vm) (h : gStr E A s H) : gStr E A U H := ⟨fun i hi => by
  obtain ⟨h1, h2, h3, h4⟩ := h.1 i hi
  exact ⟨va_O.moved hm h1, va_OF.moved hm h2, va_OF.moved hm h3, va_T.moved hm h4⟩, h.2⟩
theorem gStr.kept {E : gE} {A : Nat → Prop} {U : State} {H H1 : Heap} (hk : ∀ q : Nat, q < H.size → ¬ A q → H1[q]? = H[q]?) (h : gStr E A U H) : gStr E A U H1 := ⟨fun i hi => by
  obtain ⟨h1, h2, h3, h4⟩ := h.1 i hi
  exact ⟨h1.kept hk, h2.kept hk, h3.kept hk, h4.kept hk⟩, h.2⟩
theorem gStr.narrow {E : gE} {A B : Nat → Prop} {U : State} {H : Heap} (hAB : ∀ q, B q → A q) (h : gStr E A U H) : gStr E B U H := ⟨fun i hi => by
  obtain ⟨h1, h2, h3, h4⟩ := h.1 i hi
  exact ⟨h1.narrow hAB, h2.narrow hAB, h3.narrow hAB, h4.narrow hAB⟩, h.2⟩
/-- what the tables say of the exceptions' classes and no call's words hold -/
def gFw : List Cond := [.castable "java/lang/IndexOutOfBoundsException" "java/lang/IndexOutOfBoundsException", .castable "java/lang/IllegalArgumentException" "java/lang/IllegalArgumentException", .castable "java/lang/IllegalStateException" "java/lang/IllegalStateException", .castable "java/util/NoSuchElementException" "java/util/NoSuchElementException", .castable "java/lang/ArithmeticException" "java/lang/ArithmeticException",
  .declares ⟨"java/lang/RuntimeException", "<init>", "(Ljava/lang/String;)V"⟩, .declares ⟨"java/lang/Exception", "<init>", "(Ljava/lang/String;)V"⟩, .declares ⟨"java/lang/Throwable", "<init>", "(Ljava/lang/String;)V"⟩]
theorem gFw_warm {w : Cond} (hw : w.onTables = true) (hf : w.keepsFace = true) {s U : State} (hW : s.WarmedH U.vm) (h : va_Nw w s) : va_Nw w U := va_tabs hw (rfl : (s.setVm U.vm).vm = U.vm) (Cond.before_shiftedFace (args := #[]) (State.Shifted.of_warmed hW) _ hf h)
theorem gFw_ok : ∀ w ∈ gFw, w.onTables = true ∧ w.keepsFace = true := by decide +kernel
/-- what stays as it is: the tables, the addresses, the links, Throwable's two statics, the String constants -/
def gS0 (E : gE) (U : State) (H : Heap) : Prop :=
  va_K E.1 vwCl (gty E) U ∧ (∀ i j, gid i → gid j → E.2.1 i = E.2.1 j → i = j) ∧ (∀ q ∈ gNF, va_Nw (.fieldLinkNest q.1 q.2.1 q.2.2.1 q.2.2.2.1 q.2.2.2.2 "ContainerTerminal") U) ∧ (∀ q ∈ gNM, va_Nw (.methodLinkNest q.1 q.2.1 q.2.2 "ContainerTerminal") U) ∧
  (vx_Zq Bundle.tN "UNASSIGNED_STACK" Bundle.steD (gA E) U H ∧ vx_Zq Bundle.tN "SUPPRESSED_SENTINEL" Bundle.listD (gA E) U H) ∧ (∀ q ∈ gTx, ∃ a, vk_R RX6 q.1 q.2 a U) ∧ (∀ (k : Nat) (q : Nat × String), gWd[k]? = some q → vk_R RX2 q.1 q.2 (E.2.2.2.1 k) U) ∧ gStr E (gA E) U H ∧
  (∀ w ∈ gFw, va_Nw w U) ∧ va_Z "java/lang/String" "COMPACT_STRINGS" "Z" (.int 1) (gA E) U H ∧ va_Zq "jdk/internal/util/Preconditions" "SIOOBE_FORMATTER" "Ljava/util/function/BiFunction;" (gA E) U H
theorem gS0.warm {E : gE} {s U : State} {H : Heap} (hW : s.WarmedH U.vm) (h : gS0 E s H) : gS0 E U H := by
  obtain ⟨h1, h2, h3, h4, ⟨h5, h6⟩, h7, h8, h9, h10, h11, h12⟩ := h
  exact ⟨va_K.moved hW.alike h1, h2, fun q hq => va_Nw.warmF hW (h3 q hq), fun q hq => va_Nw.warmM hW (h4 q hq), ⟨vx_Zq.moved hW.alike h5, vx_Zq.moved hW.alike h6⟩,
    fun q hq => by obtain ⟨a, ha⟩ := h7 q hq; exact ⟨a, ha.warm hW⟩, fun k q hq => (h8 k q hq).warm hW, gStr.moved hW.alike h9, fun w hw => gFw_warm (gFw_ok w hw).1 (gFw_ok w hw).2 hW (h10 w hw), h11.moved hW.alike, h12.moved hW.alike⟩
theorem gS0.same {E : gE} {s U : State} {H : Heap} (hv : U.vm = s.vm) (h : gS0 E s H) : gS0 E U H := by
  have hA : s.vm.Alike U.vm := by rw [hv]; exact Vm.Alike.refl _
  obtain ⟨h1, h2, h3, h4, ⟨h5, h6⟩, h7, h8, h9, h10, h11, h12⟩ := h
  exact ⟨va_K.moved hA h1, h2, fun q hq => va_Nw.same rfl hv.symm (h3 q hq), fun q hq => va_Nw.same rfl hv.symm (h4 q hq), ⟨vx_Zq.moved hA h5, vx_Zq.moved hA h6⟩,
    fun q hq => by obtain ⟨a, ha⟩ := h7 q hq; exact ⟨a, ha.same hv⟩, fun k q hq => (h8 k q hq).same hv, gStr.moved hA h9, fun w hw => va_Nw.same (gFw_ok w hw).1 hv.symm (h10 w hw), h11.moved hA, h12.moved hA⟩
theorem gS0.kept {E : gE} {U : State} {H H1 : Heap} (h : gS0 E U H) (hq : ∀ a : Nat, a < H.size → ¬ gA E a → H1[a]? = H[a]?) : gS0 E U H1 := by
  obtain ⟨h1, h2, h3, h4, ⟨h5, h6⟩, h7, h8, h9, h10, h11, h12⟩ := h
  exact ⟨h1, h2, h3, h4, ⟨h5.kept hq, h6.kept hq⟩, h7, h8, gStr.kept hq h9, h10, h11.kept hq, h12.kept hq⟩
/-- the world at a state -/
def gW (E : gE) (M : gM) (x : gX) (U : State) : Prop := va_P E.1 vwCl (gwl E M x) U.heap ∧ gS0 E U U.heap
/-- the world within a method that began at s -/
def gI (E : gE) (s : State) (M : gM) (x : gX) (H : Heap) (locs : List Loc) : Prop := va_P E.1 vwCl (gwl E M x) H ∧ va_S (gA E) s.heap H locs
/-- what holds all through a method -/
def gC (p : Program) (s : State) (m : MethodId) (args : Array Value) (c : Code) (cc : ByteArray) (nL : Nat) (own : String) (E : gE) : Prop :=
  p.tables.exec = Jvm.exec ∧ c.code = cc ∧ c.maxLocals = nL ∧ s.vm.findClass own = some m.cls ∧ (∀ w ∈ gU, w.before args s = true) ∧ gS0 E s s.heap
theorem gD_of {E : gE} {U : State} {H : Heap} (h : gS0 E U H) (M : gM) (x : gX) : va_D (gA E) (gwl E M x) := by
  refine ⟨fun i j p q hi hj hpq => ?_, fun k q hk => ?_⟩
  · obtain ⟨h1, rfl⟩ := gwl_some hi
    obtain ⟨h2, rfl⟩ := gwl_some hj
    have e := h.2.1 _ _ h1 h2 hpq
    rw [← gdn_up i, e, gdn_up]
  · obtain ⟨h1, rfl⟩ := gwl_some hk
    exact ⟨_, h1, rfl⟩
