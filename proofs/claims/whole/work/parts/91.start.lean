/-! THE START: the heap behind both constructors, computed with no script -/
def qm_X0 : Nat × (Nat → Int32) := (0, fun _ => 0)
def qm_b0 : qm_Hp := qm_new (qm_h0 qm_X0) (Sum.inl 0)
def qm_rn1 : Option (Option qm_V × qm_Hp) := qm_runN qm_Pn 1700 (qm_Pn 163) 0 [(0, qm_R (some (0, 0, 0)))] [] qm_b0
def qm_ln9 (o : Option (Option qm_V × qm_Hp)) : Nat := match o with | some (none, h) => h.1.length | _ => 1000
theorem qm_len1 : qm_ln9 qm_rn1 = 61 := by decide +kernel
def qm_rn2 : Option (Option qm_V × qm_Hp) := match qm_rn1 with
  | some (none, h) => qm_runN qm_Pn 1200 (qm_Pn 57) 0 [(0, qm_R (some (0, 61, 0)))] [] (qm_new h (Sum.inl 9))
  | _ => none
theorem qm_len2 : qm_ln9 qm_rn2 = 78 := by decide +kernel
