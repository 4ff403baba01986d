/-! SMALL METHODS -/
theorem qm_x_iald2v {n : Nat} {lv : qm_Lv} {st : List qm_V} {S : List qm_Sh} {J K : qm_J} {L : qm_Ct Int64} {D : qm_Ct UInt64} {R : qm_Ct (Option qm_Rf)} {X : Nat × (Nat → Int32)} {z v : Int} {r s : Nat} (h0 : 0 ≤ z) (h1 : z < X.1) (h2 : X.1 ≤ 3072) (hv : (X.2 (Int.toNat z)).toInt = v) : qm_St (qm_o_iald n) lv (qm_I (qm_i z) :: qm_R (some (2, r, s)) :: st) (qm_H S J K L D R X) n lv (qm_I (qm_i v) :: st) (qm_H S J K L D R X) := by subst hv; exact qm_x_iald2 h0 h1 h2
theorem qm_v_within10 {v a b : Int} {h : qm_Hp} {Q : Option qm_V → qm_Hp → Prop} (hv : qm_sm v) (ha : qm_sm a) (hb : qm_sm b) (k1 : a ≤ v ∧ v ≤ b → Q (some (qm_I (qm_i 1))) h) (k0 : v < a ∨ b < v → Q (some (qm_I (qm_i 0))) h) : qm_C qm_P 21 [qm_I (qm_i v), qm_I (qm_i a), qm_I (qm_i b)] h Q := by
  refine qm_C.go (cd := qm_P21) (lv := [(0, qm_I (qm_i v)), (1, qm_I (qm_i a)), (2, qm_I (qm_i b))]) rfl rfl ?_
  refine qm_G.s1 rfl (qm_x_iload rfl) ?_
  refine qm_G.s1 rfl (qm_x_iload rfl) ?_
  refine qm_y_icmp_lt rfl ⟨by omega, by omega⟩ ⟨by omega, by omega⟩ (fun c1 => ?_) (fun c1 => ?_)
  · refine qm_G.sp (lv1 := []) rfl rfl (qm_x_pushI 0 rfl) ?_
    exact qm_G.ret rfl rfl (k0 (by omega))
  · refine qm_G.s1 rfl (qm_x_iload rfl) ?_
    refine qm_G.s1 rfl (qm_x_iload rfl) ?_
    refine qm_y_icmp_gt rfl ⟨by omega, by omega⟩ ⟨by omega, by omega⟩ (fun c2 => ?_) (fun c2 => ?_)
    · refine qm_G.sp (lv1 := []) rfl rfl (qm_x_pushI 0 rfl) ?_
      exact qm_G.ret rfl rfl (k0 (by omega))
    · refine qm_G.s1 rfl (qm_x_pushI 1 rfl) ?_
      refine qm_G.s1 rfl (qm_x_goto) ?_
      exact qm_G.ret rfl rfl (k1 (by omega))
theorem qm_v_within10_t {v a b : Int} {h : qm_Hp} {Q : Option qm_V → qm_Hp → Prop} (hv : qm_sm v) (ha : qm_sm a) (hb : qm_sm b) (c : a ≤ v ∧ v ≤ b) (k1 : Q (some (qm_I (qm_i 1))) h) : qm_C qm_P 21 [qm_I (qm_i v), qm_I (qm_i a), qm_I (qm_i b)] h Q := qm_v_within10 hv ha hb (fun _ => k1) (fun n => by omega)
theorem qm_v_within10_f {v a b : Int} {h : qm_Hp} {Q : Option qm_V → qm_Hp → Prop} (hv : qm_sm v) (ha : qm_sm a) (hb : qm_sm b) (c : v < a ∨ b < v) (k0 : Q (some (qm_I (qm_i 0))) h) : qm_C qm_P 21 [qm_I (qm_i v), qm_I (qm_i a), qm_I (qm_i b)] h Q := qm_v_within10 hv ha hb (fun n => by omega) (fun _ => k0)
theorem qm_v_within11 {v a b : Int} {h : qm_Hp} {Q : Option qm_V → qm_Hp → Prop} (hv : qm_sm v) (ha : qm_sm a) (hb : qm_sm b) (k1 : a ≤ v ∧ v ≤ b → Q (some (qm_I (qm_i 1))) h) (k0 : v < a ∨ b < v → Q (some (qm_I (qm_i 0))) h) : qm_C qm_P 28 [qm_I (qm_i v), qm_I (qm_i a), qm_I (qm_i b)] h Q := by
  refine qm_C.go (cd := qm_P28) (lv := [(0, qm_I (qm_i v)), (1, qm_I (qm_i a)), (2, qm_I (qm_i b))]) rfl rfl ?_
  refine qm_G.s1 rfl (qm_x_iload rfl) ?_
  refine qm_G.s1 rfl (qm_x_iload rfl) ?_
  refine qm_y_icmp_lt rfl ⟨by omega, by omega⟩ ⟨by omega, by omega⟩ (fun c1 => ?_) (fun c1 => ?_)
  · refine qm_G.sp (lv1 := []) rfl rfl (qm_x_pushI 0 rfl) ?_
    exact qm_G.ret rfl rfl (k0 (by omega))
  · refine qm_G.s1 rfl (qm_x_iload rfl) ?_
    refine qm_G.s1 rfl (qm_x_iload rfl) ?_
    refine qm_y_icmp_gt rfl ⟨by omega, by omega⟩ ⟨by omega, by omega⟩ (fun c2 => ?_) (fun c2 => ?_)
    · refine qm_G.sp (lv1 := []) rfl rfl (qm_x_pushI 0 rfl) ?_
      exact qm_G.ret rfl rfl (k0 (by omega))
    · refine qm_G.s1 rfl (qm_x_pushI 1 rfl) ?_
      refine qm_G.s1 rfl (qm_x_goto) ?_
      exact qm_G.ret rfl rfl (k1 (by omega))
theorem qm_v_within11_t {v a b : Int} {h : qm_Hp} {Q : Option qm_V → qm_Hp → Prop} (hv : qm_sm v) (ha : qm_sm a) (hb : qm_sm b) (c : a ≤ v ∧ v ≤ b) (k1 : Q (some (qm_I (qm_i 1))) h) : qm_C qm_P 28 [qm_I (qm_i v), qm_I (qm_i a), qm_I (qm_i b)] h Q := qm_v_within11 hv ha hb (fun _ => k1) (fun n => by omega)
theorem qm_v_within11_f {v a b : Int} {h : qm_Hp} {Q : Option qm_V → qm_Hp → Prop} (hv : qm_sm v) (ha : qm_sm a) (hb : qm_sm b) (c : v < a ∨ b < v) (k0 : Q (some (qm_I (qm_i 0))) h) : qm_C qm_P 28 [qm_I (qm_i v), qm_I (qm_i a), qm_I (qm_i b)] h Q := qm_v_within11 hv ha hb (fun n => by omega) (fun _ => k0)
