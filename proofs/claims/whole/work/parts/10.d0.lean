def f_X6_isBerth  (v0 : Int32) (M : gM) : Option (Bool) := (if v0 < 0 then some false else (if 3 ≤ v0 then some false else some true))
def f_X6_isStack  (v0 : Int32) (M : gM) : Option (Bool) := (if v0 < 0 then some false else (if 4 ≤ v0 then some false else some true))
def f_X6_pileOf  (v0 : Int32) (v1 : Int32) (M : gM) : Option (Int32) := some ((v0 * 4) + v1)
def f_J9_floorMod_7cf53  (v0 : Int32) (v1 : Int32) (M : gM) : Option (Int32) := if v1 = 0 then none else gLet (v0 - v0 / v1 * v1) fun z2 => (if 0 ≤ (v0 ^^^ v1) then some z2 else (if z2 = 0 then some z2 else some (z2 + v1)))
def f_X6_tideAt  (v0 : Int32) (M : gM) : Option (Int32) := (f_J9_floorMod_7cf53 v0 12 M).bind fun r1 => (if 6 < r1 then some (12 - r1) else some r1)
def f_X6_passingFault  (v0 : Int32) (M : gM) : Option (Int32) := (if v0 < 1 then some 2 else (if v0 ≤ 100 then some 0 else some 2))
def f_X0_height_L4 (o : Nat) (M : gM) (v1 : Int32) : Nat → Int32 → Int32 → Option (Int32)
  | 0, _, _ => none
  | n + 1, v3, v2 => (if (M (o + 1) 6) ≤ v3 then some v2 else (if 75 ≤ v3 then some v2 else if gin v3 75 then (if (M (o + 5) v3.toNatClampNeg) = v1 then f_X0_height_L4 o M v1 n (v3 + 1) (v2 + 1) else f_X0_height_L4 o M v1 n (v3 + 1) v2) else none))
def f_X0_height (o : Nat) (v1 : Int32) (M : gM) : Option (Int32) := f_X0_height_L4 o M v1 gF 0 0
def f_X0_rowOf_L2 (o : Nat) (M : gM) (v1 : Int32) : Nat → Int32 → Option (Int32)
  | 0, _ => none
  | n + 1, v2 => (if (M (o + 1) 6) ≤ v2 then some (-1) else (if 75 ≤ v2 then some (-1) else if gin v2 75 then (if (M (o + 2) v2.toNatClampNeg) = v1 then some v2 else f_X0_rowOf_L2 o M v1 n (v2 + 1)) else none))
def f_X0_rowOf (o : Nat) (v1 : Int32) (M : gM) : Option (Int32) := f_X0_rowOf_L2 o M v1 gF 0
def f_X0_hasRow (o : Nat) (v1 : Int32) (M : gM) : Option (Bool) := (if v1 < 0 then some false else (if (M (o + 1) 6) ≤ v1 then some false else (if 75 ≤ v1 then some false else some true)))
def f_X0_pile (o : Nat) (v1 : Int32) (M : gM) : Option (Int32) := (f_X0_hasRow o v1 M).bind fun r1 => (if (gb r1) = 0 then some (-1) else if gin v1 75 then some (M (o + 5) v1.toNatClampNeg) else none)
def f_X0_yardRowOf (o : Nat) (v1 : Int32) (M : gM) : Option (Int32) := (f_X0_rowOf o v1 M).bind fun r1 => (f_X0_pile o r1 M).bind fun r3 => (if r3 = 12 then some r1 else some (-1))
def f_X0_loadOf_L4 (o : Nat) (M : gM) (v1 : Int32) : Nat → Int32 → Int32 → Option (Int32)
  | 0, _, _ => none
  | n + 1, v3, v2 => (if 4 ≤ v3 then some v2 else (f_X6_pileOf v1 v3 M).bind fun r2 => (f_X0_height o r2 M).bind fun r4 => gLet (v2 + r4) fun z6 => f_X0_loadOf_L4 o M v1 n (v3 + 1) z6)
def f_X0_loadOf (o : Nat) (v1 : Int32) (M : gM) : Option (Int32) := f_X0_loadOf_L4 o M v1 gF 0 0
def f_X0_shipRowOf (o : Nat) (v1 : Int32) (M : gM) : Option (Int32) := (f_X0_rowOf o v1 M).bind fun r1 => (f_X0_pile o r1 M).bind fun r3 => (if r3 = 12 then some (-1) else some r1)
def f_X0_weight (o : Nat) (v1 : Int32) (M : gM) : Option (Int32) := (f_X0_hasRow o v1 M).bind fun r1 => (if (gb r1) = 0 then some 0 else if gin v1 75 then some (M (o + 3) v1.toNatClampNeg) else none)
def f_X0_rankOf_L4 (o : Nat) (M : gM) (v1 : Int32) : Nat → Int32 → Int32 → Option (Int32)
  | 0, _, _ => none
  | n + 1, v3, v2 => (if (M (o + 1) 6) ≤ v3 then some v2 else (f_X0_weight o v3 M).bind fun r2 => (f_X0_weight o v1 M).bind fun r4 => (if r4 < r2 then (f_X0_pile o v3 M).bind fun r8 => (if r8 = 12 then f_X0_rankOf_L4 o M v1 n (v3 + 1) v2 else f_X0_rankOf_L4 o M v1 n (v3 + 1) (v2 + 1)) else (f_X0_weight o v3 M).bind fun r11 => (f_X0_weight o v1 M).bind fun r13 => (if r11 = r13 then (if v1 ≤ v3 then f_X0_rankOf_L4 o M v1 n (v3 + 1) v2 else (f_X0_pile o v3 M).bind fun r20 => (if r20 = 12 then f_X0_rankOf_L4 o M v1 n (v3 + 1) v2 else f_X0_rankOf_L4 o M v1 n (v3 + 1) (v2 + 1))) else f_X0_rankOf_L4 o M v1 n (v3 + 1) v2)))
def f_X0_rankOf (o : Nat) (v1 : Int32) (M : gM) : Option (Int32) := f_X0_rankOf_L4 o M v1 gF 0 0
def f_X0_rowByWeight_L2 (o : Nat) (M : gM) (v1 : Int32) : Nat → Int32 → Option (Int32)
  | 0, _ => none
  | n + 1, v2 => (if (M (o + 1) 6) ≤ v2 then some (-1) else (f_X0_pile o v2 M).bind fun r2 => (if r2 = 12 then f_X0_rowByWeight_L2 o M v1 n (v2 + 1) else (f_X0_rankOf o v2 M).bind fun r5 => (if r5 = v1 then some v2 else f_X0_rowByWeight_L2 o M v1 n (v2 + 1))))
def f_X0_rowByWeight (o : Nat) (v1 : Int32) (M : gM) : Option (Int32) := f_X0_rowByWeight_L2 o M v1 gF 0
def f_X0_key (o : Nat) (v1 : Int32) (M : gM) : Option (Int32) := (f_X0_hasRow o v1 M).bind fun r1 => (if (gb r1) = 0 then some 0 else if gin v1 75 then some (M (o + 4) v1.toNatClampNeg) else none)
def f_X0_isFirstWithKey_L2 (o : Nat) (M : gM) (v1 : Int32) : Nat → Int32 → Option (Bool)
  | 0, _ => none
  | n + 1, v2 => (if v1 ≤ v2 then some true else (f_X0_key o v2 M).bind fun r2 => (f_X0_key o v1 M).bind fun r4 => (if r2 = r4 then some false else f_X0_isFirstWithKey_L2 o M v1 n (v2 + 1)))
def f_X0_isFirstWithKey (o : Nat) (v1 : Int32) (M : gM) : Option (Bool) := f_X0_isFirstWithKey_L2 o M v1 gF 0
def f_X0_countKeys_L4 (o : Nat) (M : gM) : Nat → Int32 → Int32 → Option (Int32)
  | 0, _, _ => none
  | n + 1, v2, v1 => (if (M (o + 1) 6) ≤ v2 then some v1 else (f_X0_isFirstWithKey o v2 M).bind fun r2 => (if (gb r2) = 0 then f_X0_countKeys_L4 o M n (v2 + 1) v1 else f_X0_countKeys_L4 o M n (v2 + 1) (v1 + 1)))
def f_X0_countKeys (o : Nat) (M : gM) : Option (Int32) := f_X0_countKeys_L4 o M gF 0 0
def f_X0_areTwins (o : Nat) (v1 : Int32) (v2 : Int32) (M : gM) : Option (Bool) := (f_X0_key o v1 M).bind fun r1 => (f_X0_key o v2 M).bind fun r3 => (if r1 = r3 then (f_X0_weight o v1 M).bind fun r6 => (f_X0_weight o v2 M).bind fun r8 => (if r6 = r8 then some true else some false) else some false)
def f_X0_twinsByPairs_L14 (o : Nat) (M : gM) (v2 : Int32) : Nat → Int32 → Int32 → Option (Int32 × Int32)
  | 0, _, _ => none
  | n + 1, v3, v1 => (if v2 ≤ v3 then some (v3, v1) else (f_X0_areTwins o v3 v2 M).bind fun r3 => (if (gb r3) = 0 then f_X0_twinsByPairs_L14 o M v2 n (v3 + 1) v1 else f_X0_twinsByPairs_L14 o M v2 n (v3 + 1) (v1 + 1)))
def f_X0_twinsByPairs_L4 (o : Nat) (M : gM) : Nat → Int32 → Int32 → Option (Int32)
  | 0, _, _ => none
  | n + 1, v2, v1 => (if (M (o + 1) 6) ≤ v2 then some v1 else (f_X0_twinsByPairs_L14 o M v2 gF 0 v1).bind fun q6 => f_X0_twinsByPairs_L4 o M n (v2 + 1) q6.2)
def f_X0_twinsByPairs (o : Nat) (M : gM) : Option (Int32) := f_X0_twinsByPairs_L4 o M gF 1 0
def f_X0_startsGroup_L2 (o : Nat) (M : gM) (v1 : Int32) : Nat → Int32 → Option (Bool)
  | 0, _ => none
  | n + 1, v2 => (if v1 ≤ v2 then some true else (f_X0_areTwins o v2 v1 M).bind fun r2 => (if (gb r2) = 0 then f_X0_startsGroup_L2 o M v1 n (v2 + 1) else some false))
def f_X0_startsGroup (o : Nat) (v1 : Int32) (M : gM) : Option (Bool) := f_X0_startsGroup_L2 o M v1 gF 0
def f_X0_groupSize_L4 (o : Nat) (M : gM) (v1 : Int32) : Nat → Int32 → Int32 → Option (Int32)
  | 0, _, _ => none
  | n + 1, v3, v2 => (if (M (o + 1) 6) ≤ v3 then some v2 else (f_X0_areTwins o v3 v1 M).bind fun r2 => (if (gb r2) = 0 then f_X0_groupSize_L4 o M v1 n (v3 + 1) v2 else f_X0_groupSize_L4 o M v1 n (v3 + 1) (v2 + 1)))
def f_X0_groupSize (o : Nat) (v1 : Int32) (M : gM) : Option (Int32) := f_X0_groupSize_L4 o M v1 gF 0 0
def f_X0_twinsInGroups_L4 (o : Nat) (M : gM) : Nat → Int32 → Int32 → Option (Int32)
  | 0, _, _ => none
  | n + 1, v2, v1 => (if (M (o + 1) 6) ≤ v2 then some v1 else (f_X0_startsGroup o v2 M).bind fun r2 => (if (gb r2) = 0 then f_X0_twinsInGroups_L4 o M n (v2 + 1) v1 else (f_X0_groupSize o v2 M).bind fun r5 => gLet (v1 + ((r5 * (r5 - 1)) / 2)) fun z7 => f_X0_twinsInGroups_L4 o M n (v2 + 1) z7))
def f_X0_twinsInGroups (o : Nat) (M : gM) : Option (Int32) := f_X0_twinsInGroups_L4 o M gF 0 0
def f_X0_rowAt_L2 (o : Nat) (M : gM) (v1 : Int32) (v2 : Int32) : Nat → Int32 → Option (Int32)
  | 0, _ => none
  | n + 1, v3 => (if (M (o + 1) 6) ≤ v3 then some (-1) else (if 75 ≤ v3 then some (-1) else if gin v3 75 then (if (M (o + 5) v3.toNatClampNeg) = v1 then if gin v3 75 then (if (M (o + 6) v3.toNatClampNeg) = v2 then some v3 else f_X0_rowAt_L2 o M v1 v2 n (v3 + 1)) else none else f_X0_rowAt_L2 o M v1 v2 n (v3 + 1)) else none))
def f_X0_rowAt (o : Nat) (v1 : Int32) (v2 : Int32) (M : gM) : Option (Int32) := f_X0_rowAt_L2 o M v1 v2 gF 0
def f_X0_onShips (o : Nat) (M : gM) : Option (Int32) := (f_X0_height o 12 M).bind fun r1 => some ((M (o + 1) 6) - r1)
def f_X0_weightByStacks_L19 (o : Nat) (M : gM) (v4 : Int32) (v3 : Int32) (v1 : Int32) : Nat → Int32 → Int32 → Option (Int32 × Int32)
  | 0, _, _ => none
  | n + 1, v5, v2 => (if 5 ≤ v5 then some (v5, v2) else (f_X0_rowAt o v4 v5 M).bind fun r5 => (f_X0_weight o r5 M).bind fun r7 => gLet (v2 + r7) fun z9 => f_X0_weightByStacks_L19 o M v4 v3 v1 n (v5 + 1) z9)
def f_X0_weightByStacks_L4 (o : Nat) (M : gM) (v1 : Int32) : Nat → Int32 → Int32 → Option (Int32)
  | 0, _, _ => none
  | n + 1, v3, v2 => (if 4 ≤ v3 then some v2 else (f_X6_pileOf v1 v3 M).bind fun r2 => (f_X0_weightByStacks_L19 o M r2 v3 v1 gF 0 v2).bind fun q10 => f_X0_weightByStacks_L4 o M v1 n (v3 + 1) q10.2)
def f_X0_weightByStacks (o : Nat) (v1 : Int32) (M : gM) : Option (Int32) := f_X0_weightByStacks_L4 o M v1 gF 0 0
def f_X0_isAt (o : Nat) (v1 : Int32) (v2 : Int32) (M : gM) : Option (Bool) := (f_X0_hasRow o v1 M).bind fun r1 => (if (gb r1) = 0 then some false else if gin v1 75 then (if (M (o + 5) v1.toNatClampNeg) = 12 then some false else if gin v1 75 then (if ((M (o + 5) v1.toNatClampNeg) / 4) = v2 then some true else some false) else none) else none)
def f_X0_weightByIds_L4 (o : Nat) (M : gM) (v1 : Int32) : Nat → Int32 → Int32 → Option (Int32)
  | 0, _, _ => none
  | n + 1, v3, v2 => (if (M (o + 1) 6) ≤ v3 then some v2 else (f_X0_isAt o v3 v1 M).bind fun r2 => (if (gb r2) = 0 then f_X0_weightByIds_L4 o M v1 n (v3 + 1) v2 else (f_X0_weight o v3 M).bind fun r5 => gLet (v2 + r5) fun z7 => f_X0_weightByIds_L4 o M v1 n (v3 + 1) z7))
def f_X0_weightByIds (o : Nat) (v1 : Int32) (M : gM) : Option (Int32) := f_X0_weightByIds_L4 o M v1 gF 0 0
def f_X0_isAbove (o : Nat) (v1 : Int32) (v2 : Int32) (M : gM) : Option (Bool) := (f_X0_hasRow o v1 M).bind fun r1 => (if (gb r1) = 0 then some false else (f_X0_hasRow o v2 M).bind fun r4 => (if (gb r4) = 0 then some false else if gin v1 75 then if gin v2 75 then (if (M (o + 5) v1.toNatClampNeg) = (M (o + 5) v2.toNatClampNeg) then if gin v1 75 then if gin v2 75 then (if (M (o + 6) v1.toNatClampNeg) ≤ (M (o + 6) v2.toNatClampNeg) then some false else some true) else none else none else some false) else none else none))
def f_X0_countAbove_L4 (o : Nat) (M : gM) (v1 : Int32) : Nat → Int32 → Int32 → Option (Int32)
  | 0, _, _ => none
  | n + 1, v3, v2 => (if (M (o + 1) 6) ≤ v3 then some v2 else (f_X0_isAbove o v3 v1 M).bind fun r2 => (if (gb r2) = 0 then f_X0_countAbove_L4 o M v1 n (v3 + 1) v2 else f_X0_countAbove_L4 o M v1 n (v3 + 1) (v2 + 1)))
def f_X0_countAbove (o : Nat) (v1 : Int32) (M : gM) : Option (Int32) := f_X0_countAbove_L4 o M v1 gF 0 0
def f_X0_id (o : Nat) (v1 : Int32) (M : gM) : Option (Int32) := (f_X0_hasRow o v1 M).bind fun r1 => (if (gb r1) = 0 then some (-1) else if gin v1 75 then some (M (o + 2) v1.toNatClampNeg) else none)
def f_X0_copyStack_L8 (o : Nat) (v2 : Int32) (v1 : Int32) : Nat → Int32 → gM → Option (Int32 × gM)
  | 0, _, _ => none
  | n + 1, v3, M => (if v2 ≤ v3 then some (v2, M) else (if 5 ≤ v3 then some (v2, M) else (f_X0_rowAt o v1 v3 M).bind fun r5 => (f_X0_id o r5 M).bind fun r7 => if gin v3 5 then gLet (gs M (o + 7) v3.toNatClampNeg r7) fun M10 => f_X0_copyStack_L8 o v2 v1 n (v3 + 1) M10 else none))
def f_X0_copyStack (o : Nat) (v1 : Int32) (M : gM) : Option (Int32 × gM) := (f_X0_height o v1 M).bind fun r1 => f_X0_copyStack_L8 o r1 v1 gF 0 M
def f_X0_digOnCopy_L12 (o : Nat) (v1 : Int32) : Nat → Int32 → Int32 → gM → Option (Int32 × gM)
  | 0, _, _, _ => none
  | n + 1, v3, v2, M => (if v2 ≤ 0 then some (v3, M) else (if 5 < v2 then some (v3, M) else if gin (v2 - 1) 5 then (f_X0_id o v1 M).bind fun r8 => (if (M (o + 7) ((v2 - 1).toNatClampNeg)) = r8 then some (v3, M) else f_X0_digOnCopy_L12 o v1 n (v3 + 1) (v2 + (-1)) M) else none))
def f_X0_digOnCopy (o : Nat) (v1 : Int32) (M : gM) : Option (Int32 × gM) := (f_X0_pile o v1 M).bind fun r1 => (f_X0_copyStack o r1 M).bind fun r3 => f_X0_digOnCopy_L12 o v1 gF 0 r3.1 r3.2
def f_X0_digsAgree_L2 (o : Nat) : Nat → Int32 → gM → Option (Bool × gM)
  | 0, _, _ => none
  | n + 1, v1, M => (if (M (o + 1) 6) ≤ v1 then some (true, M) else (f_X0_pile o v1 M).bind fun r2 => (if r2 = 12 then f_X0_digsAgree_L2 o n (v1 + 1) M else (f_X0_countAbove o v1 M).bind fun r5 => (f_X0_digOnCopy o v1 M).bind fun r7 => (if r5 = r7.1 then f_X0_digsAgree_L2 o n (v1 + 1) r7.2 else some (false, r7.2))))
def f_X0_digsAgree (o : Nat) (M : gM) : Option (Bool × gM) := f_X0_digsAgree_L2 o gF 0 M
def f_X0_copyFrom (o : Nat) (o1 : Nat) (M : gM) : Option (gM) := gLet (gw M (o + 2) (va_cpy (M (o1 + 2)) (M (o + 2)) 0 0 75)) fun M1 => gLet (gw M1 (o + 3) (va_cpy (M1 (o1 + 3)) (M1 (o + 3)) 0 0 75)) fun M2 => gLet (gw M2 (o + 4) (va_cpy (M2 (o1 + 4)) (M2 (o + 4)) 0 0 75)) fun M3 => gLet (gw M3 (o + 5) (va_cpy (M3 (o1 + 5)) (M3 (o + 5)) 0 0 75)) fun M4 => gLet (gw M4 (o + 6) (va_cpy (M4 (o1 + 6)) (M4 (o + 6)) 0 0 75)) fun M5 => gLet (gs M5 (o + 1) 6 (M5 (o1 + 1) 6)) fun M6 => some M6
def f_X0_add (o : Nat) (v1 : Int32) (v2 : Int32) (v3 : Int32) (v4 : Int32) (M : gM) : Option (gM) := (if (M (o + 1) 6) < 0 then some M else (if (M (o + 1) 6) < 75 then (f_X0_height o v4 M).bind fun r3 => if gin (M (o + 1) 6) 75 then gLet (gs M (o + 2) ((M (o + 1) 6).toNatClampNeg) v1) fun M6 => if gin (M6 (o + 1) 6) 75 then gLet (gs M6 (o + 3) ((M6 (o + 1) 6).toNatClampNeg) v2) fun M8 => if gin (M8 (o + 1) 6) 75 then gLet (gs M8 (o + 4) ((M8 (o + 1) 6).toNatClampNeg) v3) fun M10 => if gin (M10 (o + 1) 6) 75 then gLet (gs M10 (o + 5) ((M10 (o + 1) 6).toNatClampNeg) v4) fun M12 => if gin (M12 (o + 1) 6) 75 then gLet (gs M12 (o + 6) ((M12 (o + 1) 6).toNatClampNeg) r3) fun M14 => gLet (gs M14 (o + 1) 6 ((M14 (o + 1) 6) + 1)) fun M15 => some M15 else none else none else none else none else none else some M))
def f_X0_put (o : Nat) (v1 : Int32) (v2 : Int32) (M : gM) : Option (gM) := (f_X0_hasRow o v1 M).bind fun r1 => (if (gb r1) = 0 then some M else (f_X0_height o v2 M).bind fun r4 => if gin v1 75 then gLet (gs M (o + 6) v1.toNatClampNeg r4) fun M7 => if gin v1 75 then gLet (gs M7 (o + 5) v1.toNatClampNeg v2) fun M9 => some M9 else none else none)
def f_X0_lower (o : Nat) (v1 : Int32) (M : gM) : Option (gM) := (f_X0_hasRow o v1 M).bind fun r1 => (if (gb r1) = 0 then some M else if gin v1 75 then if gin v1 75 then gLet (gs M (o + 6) v1.toNatClampNeg ((M (o + 6) v1.toNatClampNeg) - 1)) fun M6 => some M6 else none else none)
def f_X0_copyRow (o : Nat) (v1 : Int32) (v2 : Int32) (M : gM) : Option (gM) := (f_X0_hasRow o v1 M).bind fun r1 => (if (gb r1) = 0 then some M else (f_X0_hasRow o v2 M).bind fun r4 => (if (gb r4) = 0 then some M else if gin v1 75 then if gin v2 75 then gLet (gs M (o + 2) v2.toNatClampNeg (M (o + 2) v1.toNatClampNeg)) fun M9 => if gin v1 75 then if gin v2 75 then gLet (gs M9 (o + 3) v2.toNatClampNeg (M9 (o + 3) v1.toNatClampNeg)) fun M12 => if gin v1 75 then if gin v2 75 then gLet (gs M12 (o + 4) v2.toNatClampNeg (M12 (o + 4) v1.toNatClampNeg)) fun M15 => if gin v1 75 then if gin v2 75 then gLet (gs M15 (o + 5) v2.toNatClampNeg (M15 (o + 5) v1.toNatClampNeg)) fun M18 => if gin v1 75 then if gin v2 75 then gLet (gs M18 (o + 6) v2.toNatClampNeg (M18 (o + 6) v1.toNatClampNeg)) fun M21 => some M21 else none else none else none else none else none else none else none else none else none else none))
def f_X0_remove_L43 (o : Nat) (v1 : Int32) : Nat → Int32 → gM → Option (gM)
  | 0, _, _ => none
  | n + 1, v2, M => (if (M (o + 1) 6) ≤ v2 then gLet (gs M (o + 1) 6 ((M (o + 1) 6) - 1)) fun M7 => some M7 else (f_X0_copyRow o v2 (v2 - 1) M).bind fun r8 => f_X0_remove_L43 o v1 n (v2 + 1) r8)
def f_X0_remove_L11 (o : Nat) (v1 : Int32) : Nat → Int32 → gM → Option (gM)
  | 0, _, _ => none
  | n + 1, v2, M => (if (M (o + 1) 6) ≤ v2 then gLet (v1 + 1) fun z5 => f_X0_remove_L43 o v1 gF z5 M else (f_X0_isAbove o v2 v1 M).bind fun r10 => (if (gb r10) = 0 then f_X0_remove_L11 o v1 n (v2 + 1) M else (f_X0_lower o v2 M).bind fun r13 => f_X0_remove_L11 o v1 n (v2 + 1) r13))
def f_X0_remove (o : Nat) (v1 : Int32) (M : gM) : Option (gM) := (f_X0_hasRow o v1 M).bind fun r1 => (if (gb r1) = 0 then some M else f_X0_remove_L11 o v1 gF 0 M)
def f_X0_answer (o : Nat) (v1 : Int32) (M : gM) : Option (Int32) := (f_X0_key o v1 M).bind fun r1 => (f_X0_weight o v1 M).bind fun r3 => some (((r1 * 7) + r3) - ((r1 * 7) + r3) / 10 * 10)
def f_X0_level (o : Nat) (v1 : Int32) (M : gM) : Option (Int32) := (f_X0_hasRow o v1 M).bind fun r1 => (if (gb r1) = 0 then some (-1) else if gin v1 75 then some (M (o + 6) v1.toNatClampNeg) else none)
def f_X0_topRow (o : Nat) (v1 : Int32) (M : gM) : Option (Int32) := (f_X0_height o v1 M).bind fun r1 => (f_X0_rowAt o v1 (r1 - 1) M).bind fun r3 => some r3
def f_X0_heaviestRowAbove_L4 (o : Nat) (M : gM) (v1 : Int32) : Nat → Int32 → Int32 → Option (Int32)
  | 0, _, _ => none
  | n + 1, v3, v2 => (if (M (o + 1) 6) ≤ v3 then some v2 else (f_X0_isAbove o v3 v1 M).bind fun r2 => (if (gb r2) = 0 then f_X0_heaviestRowAbove_L4 o M v1 n (v3 + 1) v2 else (if v2 = (-1) then f_X0_heaviestRowAbove_L4 o M v1 n (v3 + 1) v3 else (f_X0_weight o v3 M).bind fun r6 => (f_X0_weight o v2 M).bind fun r8 => (if r6 ≤ r8 then f_X0_heaviestRowAbove_L4 o M v1 n (v3 + 1) v2 else f_X0_heaviestRowAbove_L4 o M v1 n (v3 + 1) v3))))
def f_X0_heaviestRowAbove (o : Nat) (v1 : Int32) (M : gM) : Option (Int32) := f_X0_heaviestRowAbove_L4 o M v1 gF 0 (-1)
def f_X0_lowestStack_L4 (o : Nat) (M : gM) (v1 : Int32) : Nat → Int32 → Int32 → Option (Int32)
  | 0, _, _ => none
  | n + 1, v3, v2 => (if 4 ≤ v3 then some v2 else (f_X6_pileOf v1 v3 M).bind fun r2 => (f_X0_height o r2 M).bind fun r4 => (f_X6_pileOf v1 v2 M).bind fun r6 => (f_X0_height o r6 M).bind fun r8 => (if r8 ≤ r4 then f_X0_lowestStack_L4 o M v1 n (v3 + 1) v2 else f_X0_lowestStack_L4 o M v1 n (v3 + 1) v3))
def f_X0_lowestStack (o : Nat) (v1 : Int32) (M : gM) : Option (Int32) := f_X0_lowestStack_L4 o M v1 gF 1 0
def f_X0_heavyOverLightPairs_L12 (o : Nat) (M : gM) (v3 : Int32) (v1 : Int32) : Nat → Int32 → Int32 → Option (Int32 × Int32)
  | 0, _, _ => none
  | n + 1, v4, v2 => (if v3 ≤ v4 then some (v4, v2) else (f_X0_rowAt o v1 v3 M).bind fun r3 => (f_X0_weight o r3 M).bind fun r5 => (f_X0_rowAt o v1 v4 M).bind fun r7 => (f_X0_weight o r7 M).bind fun r9 => (if r5 ≤ r9 then f_X0_heavyOverLightPairs_L12 o M v3 v1 n (v4 + 1) v2 else f_X0_heavyOverLightPairs_L12 o M v3 v1 n (v4 + 1) (v2 + 1)))
def f_X0_heavyOverLightPairs_L4 (o : Nat) (M : gM) (v1 : Int32) : Nat → Int32 → Int32 → Option (Int32)
  | 0, _, _ => none
  | n + 1, v3, v2 => (if 5 ≤ v3 then some v2 else (f_X0_heavyOverLightPairs_L12 o M v3 v1 gF 0 v2).bind fun q12 => f_X0_heavyOverLightPairs_L4 o M v1 n (v3 + 1) q12.2)
def f_X0_heavyOverLightPairs (o : Nat) (v1 : Int32) (M : gM) : Option (Int32) := f_X0_heavyOverLightPairs_L4 o M v1 gF 1 0
