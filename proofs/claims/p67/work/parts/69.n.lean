/-! A quotient that is a number, said in the kit's word. -/
theorem gn64_of {x : UInt64} (h : gn64 x = true) : vf_n64 x := of_decide_eq_true (p := x &&& 0x7fffffffffffffff ≤ 0x7ff0000000000000) h
theorem gn32_of {x : UInt32} (h : gn32 x = true) : vf_n32 x := of_decide_eq_true (p := x &&& 0x7fffffff ≤ 0x7f800000) h
