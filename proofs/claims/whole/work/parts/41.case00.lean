/-! THE LAW, case 0 -/
theorem qm_case0 {S : List qm_Sh} {J K : qm_J} {L : qm_Ct Int64} {D : qm_Ct UInt64} {R : qm_Ct (Option qm_Rf)} {X : Nat × (Nat → Int32)} {k : Nat} {z : Int} {Q : Option qm_V → qm_Hp → Prop} {a1 : Int} {a2 : Int} (hI : qm_Inv S J K L D R k) (hX : X.1 ≤ 3072) (h0 : 0 ≤ z) (h6 : z + 6 ≤ X.1) (e1 : (X.2 (Int.toNat (z + 1))).toInt = a1) (e2 : (X.2 (Int.toNat (z + 2))).toInt = a2) (ih : ∀ (S : List qm_Sh) (J K : qm_J) (L : qm_Ct Int64) (D : qm_Ct UInt64) (R : qm_Ct (Option qm_Rf)), qm_Inv S J K L D R (k + 1) → qm_G qm_P qm_P222 1445 [(0, qm_R (some (2, 0, 0))), (1, qm_R (some (0, 0, 0))), (2, qm_R (some (0, 61, 0))), (3, qm_I (qm_i z))] [] (qm_H S J K L D R X) Q) : qm_G qm_P qm_P222 196 [(0, qm_R (some (2, 0, 0))), (1, qm_R (some (0, 0, 0))), (2, qm_R (some (0, 61, 0))), (3, qm_I (qm_i z))] [] (qm_H S J K L D R X) Q := by
  have hS := hI.sd
  have hR := hI.rd
  have s1 : qm_sm a1 := e1 ▸ qm_i_sml _
  have s2 : qm_sm a2 := e2 ▸ qm_i_sml _
  rcases (show a1 = 0 ∨ a1 = 1 ∨ a1 = 2 ∨ a1 = 3 ∨ a1 = 4 ∨ a1 = 5 ∨ (a1 < 0 ∨ 5 < a1) by omega) with d1 | d1 | d1 | d1 | d1 | d1 | d1
  · subst d1
    refine qm_G.sp (lv1 := [(0, qm_R (some (2, 0, 0))), (1, qm_R (some (0, 0, 0))), (2, qm_R (some (0, 61, 0))), (3, qm_I (qm_i z))]) rfl rfl (qm_x_aload rfl) ?_
    refine qm_G.s1 rfl (qm_x_aload rfl) ?_
    refine qm_G.s1 rfl (qm_x_iload rfl) ?_
    refine qm_G.s1 rfl (qm_x_pushI 1 rfl) ?_
    refine qm_G.s1 rfl (qm_x_iadd) ?_
    refine qm_G.s1 rfl (qm_x_iald2v (v := 0) (by omega) (by omega) hX e1) ?_
    refine qm_G.s1 rfl (qm_x_aload rfl) ?_
    refine qm_G.s1 rfl (qm_x_iload rfl) ?_
    refine qm_G.s1 rfl (qm_x_pushI 2 rfl) ?_
    refine qm_G.s1 rfl (qm_x_iadd) ?_
    refine qm_G.s1 rfl (qm_x_iald2v (v := a2) (by omega) (by omega) hX e2) ?_
    refine qm_G.cm rfl rfl (hS 0 rfl) rfl ?_
    refine qm_C.go (cd := qm_P138) (lv := [(0, qm_R (some (0, 0, 0))), (1, qm_I (qm_i 0)), (2, qm_I (qm_i a2))]) rfl rfl ?_
    refine qm_G.s1 rfl (qm_x_iload rfl) ?_
    refine qm_G.s1 rfl (qm_x_pushI 0 rfl) ?_
    refine qm_G.s1 rfl (qm_x_pushI 5 rfl) ?_
    refine qm_G.cs rfl rfl rfl ?_
    refine qm_v_within10_t ⟨by decide, by decide⟩ ⟨by decide, by decide⟩ ⟨by decide, by decide⟩ (by decide) ⟨_, rfl, ?_⟩
    refine qm_G.s1 rfl (qm_x_if_ne_t ⟨by decide, by decide⟩ (by decide)) ?_
    refine qm_G.sp (lv1 := [(0, qm_R (some (0, 0, 0))), (1, qm_I (qm_i 0)), (2, qm_I (qm_i a2))]) rfl rfl (qm_x_iload rfl) ?_
    refine qm_G.s1 rfl (qm_x_iload rfl) ?_
    refine qm_G.cs rfl rfl rfl ?_
    refine qm_C.go (cd := qm_P92) (lv := [(0, qm_I (qm_i 0)), (1, qm_I (qm_i a2))]) rfl rfl ?_
    refine qm_G.s1 rfl (qm_x_iload rfl) ?_
    refine qm_G.s1 rfl (qm_x_pushI 0 rfl) ?_
    refine qm_G.s1 rfl (qm_x_pushI 5 rfl) ?_
    refine qm_G.cs rfl rfl rfl ?_
    refine qm_v_within10_t ⟨by decide, by decide⟩ ⟨by decide, by decide⟩ ⟨by decide, by decide⟩ (by decide) ⟨_, rfl, ?_⟩
    refine qm_G.s1 rfl (qm_x_if_eq_f ⟨by decide, by decide⟩ (by decide)) ?_
    refine qm_G.s1 rfl (qm_x_iload rfl) ?_
    refine qm_G.s1 rfl (qm_x_push) ?_
    refine qm_G.s1 rfl (qm_x_iload rfl) ?_
    refine qm_G.s1 rfl (qm_x_iald1 (v := 100) rfl rfl (by decide) (by decide) rfl) ?_
    refine qm_G.s1 rfl (qm_x_push) ?_
    refine qm_G.s1 rfl (qm_x_iload rfl) ?_
    refine qm_G.s1 rfl (qm_x_iald1 (v := 9999) rfl rfl (by decide) (by decide) rfl) ?_
    refine qm_G.cs rfl rfl rfl ?_
    refine qm_v_within10 ⟨by omega, by omega⟩ ⟨by decide, by decide⟩ ⟨by decide, by decide⟩ (fun c4 => ⟨_, rfl, ?_⟩) (fun c4 => ⟨_, rfl, ?_⟩)
    · refine qm_G.s1 rfl (qm_x_if_eq_f ⟨by decide, by decide⟩ (by decide)) ?_
      refine qm_G.s1 rfl (qm_x_pushI 1 rfl) ?_
      refine qm_G.s1 rfl (qm_x_goto) ?_
      refine qm_G.ret rfl rfl ⟨_, rfl, ?_⟩
      refine qm_G.s1 rfl (qm_x_if_ne_t ⟨by decide, by decide⟩ (by decide)) ?_
      refine qm_G.sp (lv1 := [(0, qm_R (some (0, 0, 0))), (1, qm_I (qm_i 0)), (2, qm_I (qm_i a2))]) rfl rfl (qm_x_aload rfl) ?_
      refine qm_G.s1 rfl (qm_x_getfR (q := (some (0, 1, 0))) (hS 0 rfl) (hR 0 0 1 rfl rfl)) ?_
      refine qm_G.s1 rfl (qm_x_getfR (q := (some (0, 2, 0))) (hS 1 rfl) (hR 1 0 2 rfl rfl)) ?_
      refine qm_G.s1 rfl (qm_x_getfR (q := (some (0, 3, 0))) (hS 2 rfl) (hR 2 0 3 rfl rfl)) ?_
      refine qm_G.s1 rfl (qm_x_iload rfl) ?_
      have f62_0 : 100 ≤ J 62 0 0 ∧ J 62 0 0 ≤ 9999 := hI.mk.r0
      have f3_0 : J 3 0 0 = J 62 0 0 := hI.mk.set 0 (by decide)
      refine qm_G.s1 rfl (qm_x_iald (v := (J 3 0 0)) (qm_arS hS rfl rfl) rfl (by decide) (by decide) (by decide) rfl) ?_
      refine qm_G.s1 rfl (qm_x_istore (lv' := [(3, qm_I (qm_i (J 3 0 0))), (0, qm_R (some (0, 0, 0))), (1, qm_I (qm_i 0)), (2, qm_I (qm_i a2))]) rfl) ?_
      refine qm_G.s1 rfl (qm_x_aload rfl) ?_
      refine qm_G.s1 rfl (qm_x_getfR (q := (some (0, 1, 0))) (hS 0 rfl) (hR 0 0 1 rfl rfl)) ?_
      refine qm_G.s1 rfl (qm_x_getfR (q := (some (0, 2, 0))) (hS 1 rfl) (hR 1 0 2 rfl rfl)) ?_
      refine qm_G.s1 rfl (qm_x_getfR (q := (some (0, 3, 0))) (hS 2 rfl) (hR 2 0 3 rfl rfl)) ?_
      refine qm_G.s1 rfl (qm_x_iload rfl) ?_
      refine qm_G.s1 rfl (qm_x_iload rfl) ?_
      refine qm_G.s1 rfl (qm_x_iast (qm_arS hS rfl rfl) rfl (by decide) (by decide) (by decide)) ?_
      refine qm_G.s1 rfl (qm_x_iload rfl) ?_
      refine qm_G.ret rfl rfl ⟨_, rfl, ?_⟩
      refine qm_G.s1 rfl (qm_x_aload rfl) ?_
      refine qm_G.s1 rfl (qm_x_aload rfl) ?_
      refine qm_G.s1 rfl (qm_x_iload rfl) ?_
      refine qm_G.s1 rfl (qm_x_pushI 1 rfl) ?_
      refine qm_G.s1 rfl (qm_x_iadd) ?_
      refine qm_G.s1 rfl (qm_x_iald2v (v := 0) (by omega) (by omega) hX e1) ?_
      refine qm_G.s1 rfl (qm_x_aload rfl) ?_
      refine qm_G.s1 rfl (qm_x_iload rfl) ?_
      refine qm_G.s1 rfl (qm_x_pushI 2 rfl) ?_
      refine qm_G.s1 rfl (qm_x_iadd) ?_
      refine qm_G.s1 rfl (qm_x_iald2v (v := a2) (by omega) (by omega) hX e2) ?_
      refine qm_G.cm rfl rfl (hS 61 rfl) rfl ?_
      refine qm_C.go (cd := qm_P142) (lv := [(0, qm_R (some (0, 61, 0))), (1, qm_I (qm_i 0)), (2, qm_I (qm_i a2))]) rfl rfl ?_
      refine qm_G.s1 rfl (qm_x_iload rfl) ?_
      refine qm_G.s1 rfl (qm_x_pushI 0 rfl) ?_
      refine qm_G.s1 rfl (qm_x_pushI 5 rfl) ?_
      refine qm_G.cs rfl rfl rfl ?_
      refine qm_v_within11_t ⟨by decide, by decide⟩ ⟨by decide, by decide⟩ ⟨by decide, by decide⟩ (by decide) ⟨_, rfl, ?_⟩
      refine qm_G.s1 rfl (qm_x_if_ne_t ⟨by decide, by decide⟩ (by decide)) ?_
      refine qm_G.sp (lv1 := [(0, qm_R (some (0, 61, 0))), (1, qm_I (qm_i 0)), (2, qm_I (qm_i a2))]) rfl rfl (qm_x_iload rfl) ?_
      refine qm_G.s1 rfl (qm_x_iload rfl) ?_
      refine qm_G.cs rfl rfl rfl ?_
      refine qm_C.go (cd := qm_P84) (lv := [(0, qm_I (qm_i 0)), (1, qm_I (qm_i a2))]) rfl rfl ?_
      refine qm_G.s1 rfl (qm_x_iload rfl) ?_
      refine qm_G.s1 rfl (qm_x_tsw (t := 40) rfl) ?_
      refine qm_G.sp (lv1 := [(1, qm_I (qm_i a2))]) rfl rfl (qm_x_iload rfl) ?_
      refine qm_G.s1 rfl (qm_x_pushI 100 rfl) ?_
      refine qm_G.s1 rfl (qm_x_pushI 9999 rfl) ?_
      refine qm_G.cs rfl rfl rfl ?_
      refine qm_v_within11_t ⟨by omega, by omega⟩ ⟨by decide, by decide⟩ ⟨by decide, by decide⟩ (by omega) ⟨_, rfl, ?_⟩
      refine qm_G.ret rfl rfl ⟨_, rfl, ?_⟩
      refine qm_G.s1 rfl (qm_x_if_eq_f ⟨by decide, by decide⟩ (by decide)) ?_
      refine qm_G.s1 rfl (qm_x_aload rfl) ?_
      refine qm_G.s1 rfl (qm_x_iload rfl) ?_
      refine qm_G.s1 rfl (qm_x_iload rfl) ?_
      refine qm_G.cm rfl rfl (hS 61 rfl) rfl ?_
      refine qm_C.go (cd := qm_P22) (lv := [(0, qm_R (some (0, 61, 0))), (1, qm_I (qm_i 0)), (2, qm_I (qm_i a2))]) rfl rfl ?_
      refine qm_G.s1 rfl (qm_x_aload rfl) ?_
      refine qm_G.s1 rfl (qm_x_getfR (q := (some (0, 62, 0))) (hS 61 rfl) (hR 61 0 62 rfl rfl)) ?_
      refine qm_G.s1 rfl (qm_x_iload rfl) ?_
      refine qm_G.s1 rfl (qm_x_iald (v := (J 62 0 0)) (qm_arS hS rfl rfl) rfl (by decide) (by decide) (by decide) rfl) ?_
      refine qm_G.s1 rfl (qm_x_istore (lv' := [(3, qm_I (qm_i (J 62 0 0))), (0, qm_R (some (0, 61, 0))), (1, qm_I (qm_i 0)), (2, qm_I (qm_i a2))]) rfl) ?_
      refine qm_G.s1 rfl (qm_x_aload rfl) ?_
      refine qm_G.s1 rfl (qm_x_getfR (q := (some (0, 62, 0))) (hS 61 rfl) (hR 61 0 62 rfl rfl)) ?_
      refine qm_G.s1 rfl (qm_x_iload rfl) ?_
      refine qm_G.s1 rfl (qm_x_iload rfl) ?_
      refine qm_G.s1 rfl (qm_x_iast (qm_arS hS rfl rfl) rfl (by decide) (by decide) (by decide)) ?_
      refine qm_G.s1 rfl (qm_x_iload rfl) ?_
      refine qm_G.ret rfl rfl ⟨_, rfl, ?_⟩
      refine qm_G.s1 rfl (qm_x_goto) ?_
      refine qm_G.ret rfl rfl ⟨_, rfl, ?_⟩
      refine qm_G.s1 rfl (qm_x_icmp_eq_t ⟨by omega, by omega⟩ ⟨by omega, by omega⟩ (by omega)) ?_
      exact ih _ _ _ _ _ _ (qm_U_set0 (by omega) hI)
    · refine qm_G.s1 rfl (qm_x_if_eq_t ⟨by decide, by decide⟩ (by decide)) ?_
      refine qm_G.sp (lv1 := []) rfl rfl (qm_x_pushI 0 rfl) ?_
      refine qm_G.ret rfl rfl ⟨_, rfl, ?_⟩
      refine qm_G.s1 rfl (qm_x_if_ne_f ⟨by decide, by decide⟩ (by decide)) ?_
      refine qm_G.s1 rfl (qm_x_pushI (-2) rfl) ?_
      refine qm_G.ret rfl rfl ⟨_, rfl, ?_⟩
      refine qm_G.s1 rfl (qm_x_aload rfl) ?_
      refine qm_G.s1 rfl (qm_x_aload rfl) ?_
      refine qm_G.s1 rfl (qm_x_iload rfl) ?_
      refine qm_G.s1 rfl (qm_x_pushI 1 rfl) ?_
      refine qm_G.s1 rfl (qm_x_iadd) ?_
      refine qm_G.s1 rfl (qm_x_iald2v (v := 0) (by omega) (by omega) hX e1) ?_
      refine qm_G.s1 rfl (qm_x_aload rfl) ?_
      refine qm_G.s1 rfl (qm_x_iload rfl) ?_
      refine qm_G.s1 rfl (qm_x_pushI 2 rfl) ?_
      refine qm_G.s1 rfl (qm_x_iadd) ?_
      refine qm_G.s1 rfl (qm_x_iald2v (v := a2) (by omega) (by omega) hX e2) ?_
      refine qm_G.cm rfl rfl (hS 61 rfl) rfl ?_
      refine qm_C.go (cd := qm_P142) (lv := [(0, qm_R (some (0, 61, 0))), (1, qm_I (qm_i 0)), (2, qm_I (qm_i a2))]) rfl rfl ?_
      refine qm_G.s1 rfl (qm_x_iload rfl) ?_
      refine qm_G.s1 rfl (qm_x_pushI 0 rfl) ?_
      refine qm_G.s1 rfl (qm_x_pushI 5 rfl) ?_
      refine qm_G.cs rfl rfl rfl ?_
      refine qm_v_within11_t ⟨by decide, by decide⟩ ⟨by decide, by decide⟩ ⟨by decide, by decide⟩ (by decide) ⟨_, rfl, ?_⟩
      refine qm_G.s1 rfl (qm_x_if_ne_t ⟨by decide, by decide⟩ (by decide)) ?_
      refine qm_G.sp (lv1 := [(0, qm_R (some (0, 61, 0))), (1, qm_I (qm_i 0)), (2, qm_I (qm_i a2))]) rfl rfl (qm_x_iload rfl) ?_
      refine qm_G.s1 rfl (qm_x_iload rfl) ?_
      refine qm_G.cs rfl rfl rfl ?_
      refine qm_C.go (cd := qm_P84) (lv := [(0, qm_I (qm_i 0)), (1, qm_I (qm_i a2))]) rfl rfl ?_
      refine qm_G.s1 rfl (qm_x_iload rfl) ?_
      refine qm_G.s1 rfl (qm_x_tsw (t := 40) rfl) ?_
      refine qm_G.sp (lv1 := [(1, qm_I (qm_i a2))]) rfl rfl (qm_x_iload rfl) ?_
      refine qm_G.s1 rfl (qm_x_pushI 100 rfl) ?_
      refine qm_G.s1 rfl (qm_x_pushI 9999 rfl) ?_
      refine qm_G.cs rfl rfl rfl ?_
      refine qm_v_within11_f ⟨by omega, by omega⟩ ⟨by decide, by decide⟩ ⟨by decide, by decide⟩ (by omega) ⟨_, rfl, ?_⟩
      refine qm_G.ret rfl rfl ⟨_, rfl, ?_⟩
      refine qm_G.s1 rfl (qm_x_if_eq_t ⟨by decide, by decide⟩ (by decide)) ?_
      refine qm_G.sp (lv1 := []) rfl rfl (qm_x_pushI (-2) rfl) ?_
      refine qm_G.ret rfl rfl ⟨_, rfl, ?_⟩
      refine qm_G.s1 rfl (qm_x_icmp_eq_t ⟨by decide, by decide⟩ ⟨by decide, by decide⟩ (by decide)) ?_
      exact ih _ _ _ _ _ _ hI.next
  · subst d1
    refine qm_G.sp (lv1 := [(0, qm_R (some (2, 0, 0))), (1, qm_R (some (0, 0, 0))), (2, qm_R (some (0, 61, 0))), (3, qm_I (qm_i z))]) rfl rfl (qm_x_aload rfl) ?_
    refine qm_G.s1 rfl (qm_x_aload rfl) ?_
    refine qm_G.s1 rfl (qm_x_iload rfl) ?_
    refine qm_G.s1 rfl (qm_x_pushI 1 rfl) ?_
    refine qm_G.s1 rfl (qm_x_iadd) ?_
    refine qm_G.s1 rfl (qm_x_iald2v (v := 1) (by omega) (by omega) hX e1) ?_
    refine qm_G.s1 rfl (qm_x_aload rfl) ?_
    refine qm_G.s1 rfl (qm_x_iload rfl) ?_
    refine qm_G.s1 rfl (qm_x_pushI 2 rfl) ?_
    refine qm_G.s1 rfl (qm_x_iadd) ?_
    refine qm_G.s1 rfl (qm_x_iald2v (v := a2) (by omega) (by omega) hX e2) ?_
    refine qm_G.cm rfl rfl (hS 0 rfl) rfl ?_
    refine qm_C.go (cd := qm_P138) (lv := [(0, qm_R (some (0, 0, 0))), (1, qm_I (qm_i 1)), (2, qm_I (qm_i a2))]) rfl rfl ?_
    refine qm_G.s1 rfl (qm_x_iload rfl) ?_
    refine qm_G.s1 rfl (qm_x_pushI 0 rfl) ?_
    refine qm_G.s1 rfl (qm_x_pushI 5 rfl) ?_
    refine qm_G.cs rfl rfl rfl ?_
    refine qm_v_within10_t ⟨by decide, by decide⟩ ⟨by decide, by decide⟩ ⟨by decide, by decide⟩ (by decide) ⟨_, rfl, ?_⟩
    refine qm_G.s1 rfl (qm_x_if_ne_t ⟨by decide, by decide⟩ (by decide)) ?_
    refine qm_G.sp (lv1 := [(0, qm_R (some (0, 0, 0))), (1, qm_I (qm_i 1)), (2, qm_I (qm_i a2))]) rfl rfl (qm_x_iload rfl) ?_
    refine qm_G.s1 rfl (qm_x_iload rfl) ?_
    refine qm_G.cs rfl rfl rfl ?_
    refine qm_C.go (cd := qm_P92) (lv := [(0, qm_I (qm_i 1)), (1, qm_I (qm_i a2))]) rfl rfl ?_
    refine qm_G.s1 rfl (qm_x_iload rfl) ?_
    refine qm_G.s1 rfl (qm_x_pushI 0 rfl) ?_
    refine qm_G.s1 rfl (qm_x_pushI 5 rfl) ?_
    refine qm_G.cs rfl rfl rfl ?_
    refine qm_v_within10_t ⟨by decide, by decide⟩ ⟨by decide, by decide⟩ ⟨by decide, by decide⟩ (by decide) ⟨_, rfl, ?_⟩
    refine qm_G.s1 rfl (qm_x_if_eq_f ⟨by decide, by decide⟩ (by decide)) ?_
    refine qm_G.s1 rfl (qm_x_iload rfl) ?_
    refine qm_G.s1 rfl (qm_x_push) ?_
    refine qm_G.s1 rfl (qm_x_iload rfl) ?_
    refine qm_G.s1 rfl (qm_x_iald1 (v := 1) rfl rfl (by decide) (by decide) rfl) ?_
    refine qm_G.s1 rfl (qm_x_push) ?_
    refine qm_G.s1 rfl (qm_x_iload rfl) ?_
    refine qm_G.s1 rfl (qm_x_iald1 (v := 8) rfl rfl (by decide) (by decide) rfl) ?_
    refine qm_G.cs rfl rfl rfl ?_
    refine qm_v_within10 ⟨by omega, by omega⟩ ⟨by decide, by decide⟩ ⟨by decide, by decide⟩ (fun c11 => ⟨_, rfl, ?_⟩) (fun c11 => ⟨_, rfl, ?_⟩)
    · refine qm_G.s1 rfl (qm_x_if_eq_f ⟨by decide, by decide⟩ (by decide)) ?_
      refine qm_G.s1 rfl (qm_x_pushI 1 rfl) ?_
      refine qm_G.s1 rfl (qm_x_goto) ?_
      refine qm_G.ret rfl rfl ⟨_, rfl, ?_⟩
      refine qm_G.s1 rfl (qm_x_if_ne_t ⟨by decide, by decide⟩ (by decide)) ?_
      refine qm_G.sp (lv1 := [(0, qm_R (some (0, 0, 0))), (1, qm_I (qm_i 1)), (2, qm_I (qm_i a2))]) rfl rfl (qm_x_aload rfl) ?_
      refine qm_G.s1 rfl (qm_x_getfR (q := (some (0, 1, 0))) (hS 0 rfl) (hR 0 0 1 rfl rfl)) ?_
      refine qm_G.s1 rfl (qm_x_getfR (q := (some (0, 2, 0))) (hS 1 rfl) (hR 1 0 2 rfl rfl)) ?_
      refine qm_G.s1 rfl (qm_x_getfR (q := (some (0, 3, 0))) (hS 2 rfl) (hR 2 0 3 rfl rfl)) ?_
      refine qm_G.s1 rfl (qm_x_iload rfl) ?_
      have f62_1 : 1 ≤ J 62 0 1 ∧ J 62 0 1 ≤ 8 := hI.mk.r1
      have f3_1 : J 3 0 1 = J 62 0 1 := hI.mk.set 1 (by decide)
      refine qm_G.s1 rfl (qm_x_iald (v := (J 3 0 1)) (qm_arS hS rfl rfl) rfl (by decide) (by decide) (by decide) rfl) ?_
      refine qm_G.s1 rfl (qm_x_istore (lv' := [(3, qm_I (qm_i (J 3 0 1))), (0, qm_R (some (0, 0, 0))), (1, qm_I (qm_i 1)), (2, qm_I (qm_i a2))]) rfl) ?_
      refine qm_G.s1 rfl (qm_x_aload rfl) ?_
      refine qm_G.s1 rfl (qm_x_getfR (q := (some (0, 1, 0))) (hS 0 rfl) (hR 0 0 1 rfl rfl)) ?_
      refine qm_G.s1 rfl (qm_x_getfR (q := (some (0, 2, 0))) (hS 1 rfl) (hR 1 0 2 rfl rfl)) ?_
      refine qm_G.s1 rfl (qm_x_getfR (q := (some (0, 3, 0))) (hS 2 rfl) (hR 2 0 3 rfl rfl)) ?_
      refine qm_G.s1 rfl (qm_x_iload rfl) ?_
      refine qm_G.s1 rfl (qm_x_iload rfl) ?_
      refine qm_G.s1 rfl (qm_x_iast (qm_arS hS rfl rfl) rfl (by decide) (by decide) (by decide)) ?_
      refine qm_G.s1 rfl (qm_x_iload rfl) ?_
      refine qm_G.ret rfl rfl ⟨_, rfl, ?_⟩
      refine qm_G.s1 rfl (qm_x_aload rfl) ?_
      refine qm_G.s1 rfl (qm_x_aload rfl) ?_
      refine qm_G.s1 rfl (qm_x_iload rfl) ?_
      refine qm_G.s1 rfl (qm_x_pushI 1 rfl) ?_
      refine qm_G.s1 rfl (qm_x_iadd) ?_
      refine qm_G.s1 rfl (qm_x_iald2v (v := 1) (by omega) (by omega) hX e1) ?_
      refine qm_G.s1 rfl (qm_x_aload rfl) ?_
      refine qm_G.s1 rfl (qm_x_iload rfl) ?_
      refine qm_G.s1 rfl (qm_x_pushI 2 rfl) ?_
      refine qm_G.s1 rfl (qm_x_iadd) ?_
      refine qm_G.s1 rfl (qm_x_iald2v (v := a2) (by omega) (by omega) hX e2) ?_
      refine qm_G.cm rfl rfl (hS 61 rfl) rfl ?_
      refine qm_C.go (cd := qm_P142) (lv := [(0, qm_R (some (0, 61, 0))), (1, qm_I (qm_i 1)), (2, qm_I (qm_i a2))]) rfl rfl ?_
      refine qm_G.s1 rfl (qm_x_iload rfl) ?_
      refine qm_G.s1 rfl (qm_x_pushI 0 rfl) ?_
      refine qm_G.s1 rfl (qm_x_pushI 5 rfl) ?_
      refine qm_G.cs rfl rfl rfl ?_
      refine qm_v_within11_t ⟨by decide, by decide⟩ ⟨by decide, by decide⟩ ⟨by decide, by decide⟩ (by decide) ⟨_, rfl, ?_⟩
      refine qm_G.s1 rfl (qm_x_if_ne_t ⟨by decide, by decide⟩ (by decide)) ?_
      refine qm_G.sp (lv1 := [(0, qm_R (some (0, 61, 0))), (1, qm_I (qm_i 1)), (2, qm_I (qm_i a2))]) rfl rfl (qm_x_iload rfl) ?_
      refine qm_G.s1 rfl (qm_x_iload rfl) ?_
      refine qm_G.cs rfl rfl rfl ?_
      refine qm_C.go (cd := qm_P84) (lv := [(0, qm_I (qm_i 1)), (1, qm_I (qm_i a2))]) rfl rfl ?_
      refine qm_G.s1 rfl (qm_x_iload rfl) ?_
      refine qm_G.s1 rfl (qm_x_tsw (t := 50) rfl) ?_
      refine qm_G.sp (lv1 := [(1, qm_I (qm_i a2))]) rfl rfl (qm_x_iload rfl) ?_
      refine qm_G.s1 rfl (qm_x_pushI 1 rfl) ?_
      refine qm_G.s1 rfl (qm_x_pushI 8 rfl) ?_
      refine qm_G.cs rfl rfl rfl ?_
      refine qm_v_within11_t ⟨by omega, by omega⟩ ⟨by decide, by decide⟩ ⟨by decide, by decide⟩ (by omega) ⟨_, rfl, ?_⟩
      refine qm_G.ret rfl rfl ⟨_, rfl, ?_⟩
      refine qm_G.s1 rfl (qm_x_if_eq_f ⟨by decide, by decide⟩ (by decide)) ?_
      refine qm_G.s1 rfl (qm_x_aload rfl) ?_
      refine qm_G.s1 rfl (qm_x_iload rfl) ?_
      refine qm_G.s1 rfl (qm_x_iload rfl) ?_
      refine qm_G.cm rfl rfl (hS 61 rfl) rfl ?_
      refine qm_C.go (cd := qm_P22) (lv := [(0, qm_R (some (0, 61, 0))), (1, qm_I (qm_i 1)), (2, qm_I (qm_i a2))]) rfl rfl ?_
      refine qm_G.s1 rfl (qm_x_aload rfl) ?_
      refine qm_G.s1 rfl (qm_x_getfR (q := (some (0, 62, 0))) (hS 61 rfl) (hR 61 0 62 rfl rfl)) ?_
      refine qm_G.s1 rfl (qm_x_iload rfl) ?_
      refine qm_G.s1 rfl (qm_x_iald (v := (J 62 0 1)) (qm_arS hS rfl rfl) rfl (by decide) (by decide) (by decide) rfl) ?_
      refine qm_G.s1 rfl (qm_x_istore (lv' := [(3, qm_I (qm_i (J 62 0 1))), (0, qm_R (some (0, 61, 0))), (1, qm_I (qm_i 1)), (2, qm_I (qm_i a2))]) rfl) ?_
      refine qm_G.s1 rfl (qm_x_aload rfl) ?_
      refine qm_G.s1 rfl (qm_x_getfR (q := (some (0, 62, 0))) (hS 61 rfl) (hR 61 0 62 rfl rfl)) ?_
      refine qm_G.s1 rfl (qm_x_iload rfl) ?_
      refine qm_G.s1 rfl (qm_x_iload rfl) ?_
      refine qm_G.s1 rfl (qm_x_iast (qm_arS hS rfl rfl) rfl (by decide) (by decide) (by decide)) ?_
      refine qm_G.s1 rfl (qm_x_iload rfl) ?_
      refine qm_G.ret rfl rfl ⟨_, rfl, ?_⟩
      refine qm_G.s1 rfl (qm_x_goto) ?_
      refine qm_G.ret rfl rfl ⟨_, rfl, ?_⟩
      refine qm_G.s1 rfl (qm_x_icmp_eq_t ⟨by omega, by omega⟩ ⟨by omega, by omega⟩ (by omega)) ?_
      exact ih _ _ _ _ _ _ (qm_U_set1 (by omega) hI)
    · refine qm_G.s1 rfl (qm_x_if_eq_t ⟨by decide, by decide⟩ (by decide)) ?_
      refine qm_G.sp (lv1 := []) rfl rfl (qm_x_pushI 0 rfl) ?_
      refine qm_G.ret rfl rfl ⟨_, rfl, ?_⟩
      refine qm_G.s1 rfl (qm_x_if_ne_f ⟨by decide, by decide⟩ (by decide)) ?_
      refine qm_G.s1 rfl (qm_x_pushI (-2) rfl) ?_
      refine qm_G.ret rfl rfl ⟨_, rfl, ?_⟩
      refine qm_G.s1 rfl (qm_x_aload rfl) ?_
      refine qm_G.s1 rfl (qm_x_aload rfl) ?_
      refine qm_G.s1 rfl (qm_x_iload rfl) ?_
      refine qm_G.s1 rfl (qm_x_pushI 1 rfl) ?_
      refine qm_G.s1 rfl (qm_x_iadd) ?_
      refine qm_G.s1 rfl (qm_x_iald2v (v := 1) (by omega) (by omega) hX e1) ?_
      refine qm_G.s1 rfl (qm_x_aload rfl) ?_
      refine qm_G.s1 rfl (qm_x_iload rfl) ?_
      refine qm_G.s1 rfl (qm_x_pushI 2 rfl) ?_
      refine qm_G.s1 rfl (qm_x_iadd) ?_
      refine qm_G.s1 rfl (qm_x_iald2v (v := a2) (by omega) (by omega) hX e2) ?_
      refine qm_G.cm rfl rfl (hS 61 rfl) rfl ?_
      refine qm_C.go (cd := qm_P142) (lv := [(0, qm_R (some (0, 61, 0))), (1, qm_I (qm_i 1)), (2, qm_I (qm_i a2))]) rfl rfl ?_
      refine qm_G.s1 rfl (qm_x_iload rfl) ?_
      refine qm_G.s1 rfl (qm_x_pushI 0 rfl) ?_
      refine qm_G.s1 rfl (qm_x_pushI 5 rfl) ?_
      refine qm_G.cs rfl rfl rfl ?_
      refine qm_v_within11_t ⟨by decide, by decide⟩ ⟨by decide, by decide⟩ ⟨by decide, by decide⟩ (by decide) ⟨_, rfl, ?_⟩
      refine qm_G.s1 rfl (qm_x_if_ne_t ⟨by decide, by decide⟩ (by decide)) ?_
      refine qm_G.sp (lv1 := [(0, qm_R (some (0, 61, 0))), (1, qm_I (qm_i 1)), (2, qm_I (qm_i a2))]) rfl rfl (qm_x_iload rfl) ?_
      refine qm_G.s1 rfl (qm_x_iload rfl) ?_
      refine qm_G.cs rfl rfl rfl ?_
      refine qm_C.go (cd := qm_P84) (lv := [(0, qm_I (qm_i 1)), (1, qm_I (qm_i a2))]) rfl rfl ?_
      refine qm_G.s1 rfl (qm_x_iload rfl) ?_
      refine qm_G.s1 rfl (qm_x_tsw (t := 50) rfl) ?_
      refine qm_G.sp (lv1 := [(1, qm_I (qm_i a2))]) rfl rfl (qm_x_iload rfl) ?_
      refine qm_G.s1 rfl (qm_x_pushI 1 rfl) ?_
      refine qm_G.s1 rfl (qm_x_pushI 8 rfl) ?_
      refine qm_G.cs rfl rfl rfl ?_
      refine qm_v_within11_f ⟨by omega, by omega⟩ ⟨by decide, by decide⟩ ⟨by decide, by decide⟩ (by omega) ⟨_, rfl, ?_⟩
      refine qm_G.ret rfl rfl ⟨_, rfl, ?_⟩
      refine qm_G.s1 rfl (qm_x_if_eq_t ⟨by decide, by decide⟩ (by decide)) ?_
      refine qm_G.sp (lv1 := []) rfl rfl (qm_x_pushI (-2) rfl) ?_
      refine qm_G.ret rfl rfl ⟨_, rfl, ?_⟩
      refine qm_G.s1 rfl (qm_x_icmp_eq_t ⟨by decide, by decide⟩ ⟨by decide, by decide⟩ (by decide)) ?_
      exact ih _ _ _ _ _ _ hI.next
  · subst d1
    refine qm_G.sp (lv1 := [(0, qm_R (some (2, 0, 0))), (1, qm_R (some (0, 0, 0))), (2, qm_R (some (0, 61, 0))), (3, qm_I (qm_i z))]) rfl rfl (qm_x_aload rfl) ?_
    refine qm_G.s1 rfl (qm_x_aload rfl) ?_
    refine qm_G.s1 rfl (qm_x_iload rfl) ?_
    refine qm_G.s1 rfl (qm_x_pushI 1 rfl) ?_
    refine qm_G.s1 rfl (qm_x_iadd) ?_
    refine qm_G.s1 rfl (qm_x_iald2v (v := 2) (by omega) (by omega) hX e1) ?_
    refine qm_G.s1 rfl (qm_x_aload rfl) ?_
    refine qm_G.s1 rfl (qm_x_iload rfl) ?_
    refine qm_G.s1 rfl (qm_x_pushI 2 rfl) ?_
    refine qm_G.s1 rfl (qm_x_iadd) ?_
    refine qm_G.s1 rfl (qm_x_iald2v (v := a2) (by omega) (by omega) hX e2) ?_
    refine qm_G.cm rfl rfl (hS 0 rfl) rfl ?_
    refine qm_C.go (cd := qm_P138) (lv := [(0, qm_R (some (0, 0, 0))), (1, qm_I (qm_i 2)), (2, qm_I (qm_i a2))]) rfl rfl ?_
    refine qm_G.s1 rfl (qm_x_iload rfl) ?_
    refine qm_G.s1 rfl (qm_x_pushI 0 rfl) ?_
    refine qm_G.s1 rfl (qm_x_pushI 5 rfl) ?_
    refine qm_G.cs rfl rfl rfl ?_
    refine qm_v_within10_t ⟨by decide, by decide⟩ ⟨by decide, by decide⟩ ⟨by decide, by decide⟩ (by decide) ⟨_, rfl, ?_⟩
    refine qm_G.s1 rfl (qm_x_if_ne_t ⟨by decide, by decide⟩ (by decide)) ?_
    refine qm_G.sp (lv1 := [(0, qm_R (some (0, 0, 0))), (1, qm_I (qm_i 2)), (2, qm_I (qm_i a2))]) rfl rfl (qm_x_iload rfl) ?_
    refine qm_G.s1 rfl (qm_x_iload rfl) ?_
    refine qm_G.cs rfl rfl rfl ?_
    refine qm_C.go (cd := qm_P92) (lv := [(0, qm_I (qm_i 2)), (1, qm_I (qm_i a2))]) rfl rfl ?_
    refine qm_G.s1 rfl (qm_x_iload rfl) ?_
    refine qm_G.s1 rfl (qm_x_pushI 0 rfl) ?_
    refine qm_G.s1 rfl (qm_x_pushI 5 rfl) ?_
    refine qm_G.cs rfl rfl rfl ?_
    refine qm_v_within10_t ⟨by decide, by decide⟩ ⟨by decide, by decide⟩ ⟨by decide, by decide⟩ (by decide) ⟨_, rfl, ?_⟩
    refine qm_G.s1 rfl (qm_x_if_eq_f ⟨by decide, by decide⟩ (by decide)) ?_
    refine qm_G.s1 rfl (qm_x_iload rfl) ?_
    refine qm_G.s1 rfl (qm_x_push) ?_
    refine qm_G.s1 rfl (qm_x_iload rfl) ?_
    refine qm_G.s1 rfl (qm_x_iald1 (v := 0) rfl rfl (by decide) (by decide) rfl) ?_
    refine qm_G.s1 rfl (qm_x_push) ?_
    refine qm_G.s1 rfl (qm_x_iload rfl) ?_
    refine qm_G.s1 rfl (qm_x_iald1 (v := 8) rfl rfl (by decide) (by decide) rfl) ?_
    refine qm_G.cs rfl rfl rfl ?_
    refine qm_v_within10 ⟨by omega, by omega⟩ ⟨by decide, by decide⟩ ⟨by decide, by decide⟩ (fun c18 => ⟨_, rfl, ?_⟩) (fun c18 => ⟨_, rfl, ?_⟩)
    · refine qm_G.s1 rfl (qm_x_if_eq_f ⟨by decide, by decide⟩ (by decide)) ?_
      refine qm_G.s1 rfl (qm_x_pushI 1 rfl) ?_
      refine qm_G.s1 rfl (qm_x_goto) ?_
      refine qm_G.ret rfl rfl ⟨_, rfl, ?_⟩
      refine qm_G.s1 rfl (qm_x_if_ne_t ⟨by decide, by decide⟩ (by decide)) ?_
      refine qm_G.sp (lv1 := [(0, qm_R (some (0, 0, 0))), (1, qm_I (qm_i 2)), (2, qm_I (qm_i a2))]) rfl rfl (qm_x_aload rfl) ?_
      refine qm_G.s1 rfl (qm_x_getfR (q := (some (0, 1, 0))) (hS 0 rfl) (hR 0 0 1 rfl rfl)) ?_
      refine qm_G.s1 rfl (qm_x_getfR (q := (some (0, 2, 0))) (hS 1 rfl) (hR 1 0 2 rfl rfl)) ?_
      refine qm_G.s1 rfl (qm_x_getfR (q := (some (0, 3, 0))) (hS 2 rfl) (hR 2 0 3 rfl rfl)) ?_
      refine qm_G.s1 rfl (qm_x_iload rfl) ?_
      have f62_2 : 0 ≤ J 62 0 2 ∧ J 62 0 2 ≤ 8 := hI.mk.r2
      have f3_2 : J 3 0 2 = J 62 0 2 := hI.mk.set 2 (by decide)
      refine qm_G.s1 rfl (qm_x_iald (v := (J 3 0 2)) (qm_arS hS rfl rfl) rfl (by decide) (by decide) (by decide) rfl) ?_
      refine qm_G.s1 rfl (qm_x_istore (lv' := [(3, qm_I (qm_i (J 3 0 2))), (0, qm_R (some (0, 0, 0))), (1, qm_I (qm_i 2)), (2, qm_I (qm_i a2))]) rfl) ?_
      refine qm_G.s1 rfl (qm_x_aload rfl) ?_
      refine qm_G.s1 rfl (qm_x_getfR (q := (some (0, 1, 0))) (hS 0 rfl) (hR 0 0 1 rfl rfl)) ?_
      refine qm_G.s1 rfl (qm_x_getfR (q := (some (0, 2, 0))) (hS 1 rfl) (hR 1 0 2 rfl rfl)) ?_
      refine qm_G.s1 rfl (qm_x_getfR (q := (some (0, 3, 0))) (hS 2 rfl) (hR 2 0 3 rfl rfl)) ?_
      refine qm_G.s1 rfl (qm_x_iload rfl) ?_
      refine qm_G.s1 rfl (qm_x_iload rfl) ?_
      refine qm_G.s1 rfl (qm_x_iast (qm_arS hS rfl rfl) rfl (by decide) (by decide) (by decide)) ?_
      refine qm_G.s1 rfl (qm_x_iload rfl) ?_
      refine qm_G.ret rfl rfl ⟨_, rfl, ?_⟩
      refine qm_G.s1 rfl (qm_x_aload rfl) ?_
      refine qm_G.s1 rfl (qm_x_aload rfl) ?_
      refine qm_G.s1 rfl (qm_x_iload rfl) ?_
      refine qm_G.s1 rfl (qm_x_pushI 1 rfl) ?_
      refine qm_G.s1 rfl (qm_x_iadd) ?_
      refine qm_G.s1 rfl (qm_x_iald2v (v := 2) (by omega) (by omega) hX e1) ?_
      refine qm_G.s1 rfl (qm_x_aload rfl) ?_
      refine qm_G.s1 rfl (qm_x_iload rfl) ?_
      refine qm_G.s1 rfl (qm_x_pushI 2 rfl) ?_
      refine qm_G.s1 rfl (qm_x_iadd) ?_
      refine qm_G.s1 rfl (qm_x_iald2v (v := a2) (by omega) (by omega) hX e2) ?_
      refine qm_G.cm rfl rfl (hS 61 rfl) rfl ?_
      refine qm_C.go (cd := qm_P142) (lv := [(0, qm_R (some (0, 61, 0))), (1, qm_I (qm_i 2)), (2, qm_I (qm_i a2))]) rfl rfl ?_
      refine qm_G.s1 rfl (qm_x_iload rfl) ?_
      refine qm_G.s1 rfl (qm_x_pushI 0 rfl) ?_
      refine qm_G.s1 rfl (qm_x_pushI 5 rfl) ?_
      refine qm_G.cs rfl rfl rfl ?_
      refine qm_v_within11_t ⟨by decide, by decide⟩ ⟨by decide, by decide⟩ ⟨by decide, by decide⟩ (by decide) ⟨_, rfl, ?_⟩
      refine qm_G.s1 rfl (qm_x_if_ne_t ⟨by decide, by decide⟩ (by decide)) ?_
      refine qm_G.sp (lv1 := [(0, qm_R (some (0, 61, 0))), (1, qm_I (qm_i 2)), (2, qm_I (qm_i a2))]) rfl rfl (qm_x_iload rfl) ?_
      refine qm_G.s1 rfl (qm_x_iload rfl) ?_
      refine qm_G.cs rfl rfl rfl ?_
      refine qm_C.go (cd := qm_P84) (lv := [(0, qm_I (qm_i 2)), (1, qm_I (qm_i a2))]) rfl rfl ?_
      refine qm_G.s1 rfl (qm_x_iload rfl) ?_
      refine qm_G.s1 rfl (qm_x_tsw (t := 58) rfl) ?_
      refine qm_G.sp (lv1 := [(1, qm_I (qm_i a2))]) rfl rfl (qm_x_iload rfl) ?_
      refine qm_G.s1 rfl (qm_x_pushI 0 rfl) ?_
      refine qm_G.s1 rfl (qm_x_pushI 8 rfl) ?_
      refine qm_G.cs rfl rfl rfl ?_
      refine qm_v_within11_t ⟨by omega, by omega⟩ ⟨by decide, by decide⟩ ⟨by decide, by decide⟩ (by omega) ⟨_, rfl, ?_⟩
      refine qm_G.ret rfl rfl ⟨_, rfl, ?_⟩
      refine qm_G.s1 rfl (qm_x_if_eq_f ⟨by decide, by decide⟩ (by decide)) ?_
      refine qm_G.s1 rfl (qm_x_aload rfl) ?_
      refine qm_G.s1 rfl (qm_x_iload rfl) ?_
      refine qm_G.s1 rfl (qm_x_iload rfl) ?_
      refine qm_G.cm rfl rfl (hS 61 rfl) rfl ?_
      refine qm_C.go (cd := qm_P22) (lv := [(0, qm_R (some (0, 61, 0))), (1, qm_I (qm_i 2)), (2, qm_I (qm_i a2))]) rfl rfl ?_
      refine qm_G.s1 rfl (qm_x_aload rfl) ?_
      refine qm_G.s1 rfl (qm_x_getfR (q := (some (0, 62, 0))) (hS 61 rfl) (hR 61 0 62 rfl rfl)) ?_
      refine qm_G.s1 rfl (qm_x_iload rfl) ?_
      refine qm_G.s1 rfl (qm_x_iald (v := (J 62 0 2)) (qm_arS hS rfl rfl) rfl (by decide) (by decide) (by decide) rfl) ?_
      refine qm_G.s1 rfl (qm_x_istore (lv' := [(3, qm_I (qm_i (J 62 0 2))), (0, qm_R (some (0, 61, 0))), (1, qm_I (qm_i 2)), (2, qm_I (qm_i a2))]) rfl) ?_
      refine qm_G.s1 rfl (qm_x_aload rfl) ?_
      refine qm_G.s1 rfl (qm_x_getfR (q := (some (0, 62, 0))) (hS 61 rfl) (hR 61 0 62 rfl rfl)) ?_
      refine qm_G.s1 rfl (qm_x_iload rfl) ?_
      refine qm_G.s1 rfl (qm_x_iload rfl) ?_
      refine qm_G.s1 rfl (qm_x_iast (qm_arS hS rfl rfl) rfl (by decide) (by decide) (by decide)) ?_
      refine qm_G.s1 rfl (qm_x_iload rfl) ?_
      refine qm_G.ret rfl rfl ⟨_, rfl, ?_⟩
      refine qm_G.s1 rfl (qm_x_goto) ?_
      refine qm_G.ret rfl rfl ⟨_, rfl, ?_⟩
      refine qm_G.s1 rfl (qm_x_icmp_eq_t ⟨by omega, by omega⟩ ⟨by omega, by omega⟩ (by omega)) ?_
      exact ih _ _ _ _ _ _ (qm_U_set2 (by omega) hI)
    · refine qm_G.s1 rfl (qm_x_if_eq_t ⟨by decide, by decide⟩ (by decide)) ?_
      refine qm_G.sp (lv1 := []) rfl rfl (qm_x_pushI 0 rfl) ?_
      refine qm_G.ret rfl rfl ⟨_, rfl, ?_⟩
      refine qm_G.s1 rfl (qm_x_if_ne_f ⟨by decide, by decide⟩ (by decide)) ?_
      refine qm_G.s1 rfl (qm_x_pushI (-2) rfl) ?_
      refine qm_G.ret rfl rfl ⟨_, rfl, ?_⟩
      refine qm_G.s1 rfl (qm_x_aload rfl) ?_
      refine qm_G.s1 rfl (qm_x_aload rfl) ?_
      refine qm_G.s1 rfl (qm_x_iload rfl) ?_
      refine qm_G.s1 rfl (qm_x_pushI 1 rfl) ?_
      refine qm_G.s1 rfl (qm_x_iadd) ?_
      refine qm_G.s1 rfl (qm_x_iald2v (v := 2) (by omega) (by omega) hX e1) ?_
      refine qm_G.s1 rfl (qm_x_aload rfl) ?_
      refine qm_G.s1 rfl (qm_x_iload rfl) ?_
      refine qm_G.s1 rfl (qm_x_pushI 2 rfl) ?_
      refine qm_G.s1 rfl (qm_x_iadd) ?_
      refine qm_G.s1 rfl (qm_x_iald2v (v := a2) (by omega) (by omega) hX e2) ?_
      refine qm_G.cm rfl rfl (hS 61 rfl) rfl ?_
      refine qm_C.go (cd := qm_P142) (lv := [(0, qm_R (some (0, 61, 0))), (1, qm_I (qm_i 2)), (2, qm_I (qm_i a2))]) rfl rfl ?_
      refine qm_G.s1 rfl (qm_x_iload rfl) ?_
      refine qm_G.s1 rfl (qm_x_pushI 0 rfl) ?_
      refine qm_G.s1 rfl (qm_x_pushI 5 rfl) ?_
      refine qm_G.cs rfl rfl rfl ?_
      refine qm_v_within11_t ⟨by decide, by decide⟩ ⟨by decide, by decide⟩ ⟨by decide, by decide⟩ (by decide) ⟨_, rfl, ?_⟩
      refine qm_G.s1 rfl (qm_x_if_ne_t ⟨by decide, by decide⟩ (by decide)) ?_
      refine qm_G.sp (lv1 := [(0, qm_R (some (0, 61, 0))), (1, qm_I (qm_i 2)), (2, qm_I (qm_i a2))]) rfl rfl (qm_x_iload rfl) ?_
      refine qm_G.s1 rfl (qm_x_iload rfl) ?_
      refine qm_G.cs rfl rfl rfl ?_
      refine qm_C.go (cd := qm_P84) (lv := [(0, qm_I (qm_i 2)), (1, qm_I (qm_i a2))]) rfl rfl ?_
      refine qm_G.s1 rfl (qm_x_iload rfl) ?_
      refine qm_G.s1 rfl (qm_x_tsw (t := 58) rfl) ?_
      refine qm_G.sp (lv1 := [(1, qm_I (qm_i a2))]) rfl rfl (qm_x_iload rfl) ?_
      refine qm_G.s1 rfl (qm_x_pushI 0 rfl) ?_
      refine qm_G.s1 rfl (qm_x_pushI 8 rfl) ?_
      refine qm_G.cs rfl rfl rfl ?_
      refine qm_v_within11_f ⟨by omega, by omega⟩ ⟨by decide, by decide⟩ ⟨by decide, by decide⟩ (by omega) ⟨_, rfl, ?_⟩
      refine qm_G.ret rfl rfl ⟨_, rfl, ?_⟩
      refine qm_G.s1 rfl (qm_x_if_eq_t ⟨by decide, by decide⟩ (by decide)) ?_
      refine qm_G.sp (lv1 := []) rfl rfl (qm_x_pushI (-2) rfl) ?_
      refine qm_G.ret rfl rfl ⟨_, rfl, ?_⟩
      refine qm_G.s1 rfl (qm_x_icmp_eq_t ⟨by decide, by decide⟩ ⟨by decide, by decide⟩ (by decide)) ?_
      exact ih _ _ _ _ _ _ hI.next
  · subst d1
    refine qm_G.sp (lv1 := [(0, qm_R (some (2, 0, 0))), (1, qm_R (some (0, 0, 0))), (2, qm_R (some (0, 61, 0))), (3, qm_I (qm_i z))]) rfl rfl (qm_x_aload rfl) ?_
    refine qm_G.s1 rfl (qm_x_aload rfl) ?_
    refine qm_G.s1 rfl (qm_x_iload rfl) ?_
    refine qm_G.s1 rfl (qm_x_pushI 1 rfl) ?_
    refine qm_G.s1 rfl (qm_x_iadd) ?_
    refine qm_G.s1 rfl (qm_x_iald2v (v := 3) (by omega) (by omega) hX e1) ?_
    refine qm_G.s1 rfl (qm_x_aload rfl) ?_
    refine qm_G.s1 rfl (qm_x_iload rfl) ?_
    refine qm_G.s1 rfl (qm_x_pushI 2 rfl) ?_
    refine qm_G.s1 rfl (qm_x_iadd) ?_
    refine qm_G.s1 rfl (qm_x_iald2v (v := a2) (by omega) (by omega) hX e2) ?_
    refine qm_G.cm rfl rfl (hS 0 rfl) rfl ?_
    refine qm_C.go (cd := qm_P138) (lv := [(0, qm_R (some (0, 0, 0))), (1, qm_I (qm_i 3)), (2, qm_I (qm_i a2))]) rfl rfl ?_
    refine qm_G.s1 rfl (qm_x_iload rfl) ?_
    refine qm_G.s1 rfl (qm_x_pushI 0 rfl) ?_
    refine qm_G.s1 rfl (qm_x_pushI 5 rfl) ?_
    refine qm_G.cs rfl rfl rfl ?_
    refine qm_v_within10_t ⟨by decide, by decide⟩ ⟨by decide, by decide⟩ ⟨by decide, by decide⟩ (by decide) ⟨_, rfl, ?_⟩
    refine qm_G.s1 rfl (qm_x_if_ne_t ⟨by decide, by decide⟩ (by decide)) ?_
    refine qm_G.sp (lv1 := [(0, qm_R (some (0, 0, 0))), (1, qm_I (qm_i 3)), (2, qm_I (qm_i a2))]) rfl rfl (qm_x_iload rfl) ?_
    refine qm_G.s1 rfl (qm_x_iload rfl) ?_
    refine qm_G.cs rfl rfl rfl ?_
    refine qm_C.go (cd := qm_P92) (lv := [(0, qm_I (qm_i 3)), (1, qm_I (qm_i a2))]) rfl rfl ?_
    refine qm_G.s1 rfl (qm_x_iload rfl) ?_
    refine qm_G.s1 rfl (qm_x_pushI 0 rfl) ?_
    refine qm_G.s1 rfl (qm_x_pushI 5 rfl) ?_
    refine qm_G.cs rfl rfl rfl ?_
    refine qm_v_within10_t ⟨by decide, by decide⟩ ⟨by decide, by decide⟩ ⟨by decide, by decide⟩ (by decide) ⟨_, rfl, ?_⟩
    refine qm_G.s1 rfl (qm_x_if_eq_f ⟨by decide, by decide⟩ (by decide)) ?_
    refine qm_G.s1 rfl (qm_x_iload rfl) ?_
    refine qm_G.s1 rfl (qm_x_push) ?_
    refine qm_G.s1 rfl (qm_x_iload rfl) ?_
    refine qm_G.s1 rfl (qm_x_iald1 (v := 0) rfl rfl (by decide) (by decide) rfl) ?_
    refine qm_G.s1 rfl (qm_x_push) ?_
    refine qm_G.s1 rfl (qm_x_iload rfl) ?_
    refine qm_G.s1 rfl (qm_x_iald1 (v := 99) rfl rfl (by decide) (by decide) rfl) ?_
    refine qm_G.cs rfl rfl rfl ?_
    refine qm_v_within10 ⟨by omega, by omega⟩ ⟨by decide, by decide⟩ ⟨by decide, by decide⟩ (fun c25 => ⟨_, rfl, ?_⟩) (fun c25 => ⟨_, rfl, ?_⟩)
    · refine qm_G.s1 rfl (qm_x_if_eq_f ⟨by decide, by decide⟩ (by decide)) ?_
      refine qm_G.s1 rfl (qm_x_pushI 1 rfl) ?_
      refine qm_G.s1 rfl (qm_x_goto) ?_
      refine qm_G.ret rfl rfl ⟨_, rfl, ?_⟩
      refine qm_G.s1 rfl (qm_x_if_ne_t ⟨by decide, by decide⟩ (by decide)) ?_
      refine qm_G.sp (lv1 := [(0, qm_R (some (0, 0, 0))), (1, qm_I (qm_i 3)), (2, qm_I (qm_i a2))]) rfl rfl (qm_x_aload rfl) ?_
      refine qm_G.s1 rfl (qm_x_getfR (q := (some (0, 1, 0))) (hS 0 rfl) (hR 0 0 1 rfl rfl)) ?_
      refine qm_G.s1 rfl (qm_x_getfR (q := (some (0, 2, 0))) (hS 1 rfl) (hR 1 0 2 rfl rfl)) ?_
      refine qm_G.s1 rfl (qm_x_getfR (q := (some (0, 3, 0))) (hS 2 rfl) (hR 2 0 3 rfl rfl)) ?_
      refine qm_G.s1 rfl (qm_x_iload rfl) ?_
      have f62_3 : 0 ≤ J 62 0 3 ∧ J 62 0 3 ≤ 99 := hI.mk.r3
      have f3_3 : J 3 0 3 = J 62 0 3 := hI.mk.set 3 (by decide)
      refine qm_G.s1 rfl (qm_x_iald (v := (J 3 0 3)) (qm_arS hS rfl rfl) rfl (by decide) (by decide) (by decide) rfl) ?_
      refine qm_G.s1 rfl (qm_x_istore (lv' := [(3, qm_I (qm_i (J 3 0 3))), (0, qm_R (some (0, 0, 0))), (1, qm_I (qm_i 3)), (2, qm_I (qm_i a2))]) rfl) ?_
      refine qm_G.s1 rfl (qm_x_aload rfl) ?_
      refine qm_G.s1 rfl (qm_x_getfR (q := (some (0, 1, 0))) (hS 0 rfl) (hR 0 0 1 rfl rfl)) ?_
      refine qm_G.s1 rfl (qm_x_getfR (q := (some (0, 2, 0))) (hS 1 rfl) (hR 1 0 2 rfl rfl)) ?_
      refine qm_G.s1 rfl (qm_x_getfR (q := (some (0, 3, 0))) (hS 2 rfl) (hR 2 0 3 rfl rfl)) ?_
      refine qm_G.s1 rfl (qm_x_iload rfl) ?_
      refine qm_G.s1 rfl (qm_x_iload rfl) ?_
      refine qm_G.s1 rfl (qm_x_iast (qm_arS hS rfl rfl) rfl (by decide) (by decide) (by decide)) ?_
      refine qm_G.s1 rfl (qm_x_iload rfl) ?_
      refine qm_G.ret rfl rfl ⟨_, rfl, ?_⟩
      refine qm_G.s1 rfl (qm_x_aload rfl) ?_
      refine qm_G.s1 rfl (qm_x_aload rfl) ?_
      refine qm_G.s1 rfl (qm_x_iload rfl) ?_
      refine qm_G.s1 rfl (qm_x_pushI 1 rfl) ?_
      refine qm_G.s1 rfl (qm_x_iadd) ?_
      refine qm_G.s1 rfl (qm_x_iald2v (v := 3) (by omega) (by omega) hX e1) ?_
      refine qm_G.s1 rfl (qm_x_aload rfl) ?_
      refine qm_G.s1 rfl (qm_x_iload rfl) ?_
      refine qm_G.s1 rfl (qm_x_pushI 2 rfl) ?_
      refine qm_G.s1 rfl (qm_x_iadd) ?_
      refine qm_G.s1 rfl (qm_x_iald2v (v := a2) (by omega) (by omega) hX e2) ?_
      refine qm_G.cm rfl rfl (hS 61 rfl) rfl ?_
      refine qm_C.go (cd := qm_P142) (lv := [(0, qm_R (some (0, 61, 0))), (1, qm_I (qm_i 3)), (2, qm_I (qm_i a2))]) rfl rfl ?_
      refine qm_G.s1 rfl (qm_x_iload rfl) ?_
      refine qm_G.s1 rfl (qm_x_pushI 0 rfl) ?_
      refine qm_G.s1 rfl (qm_x_pushI 5 rfl) ?_
      refine qm_G.cs rfl rfl rfl ?_
      refine qm_v_within11_t ⟨by decide, by decide⟩ ⟨by decide, by decide⟩ ⟨by decide, by decide⟩ (by decide) ⟨_, rfl, ?_⟩
      refine qm_G.s1 rfl (qm_x_if_ne_t ⟨by decide, by decide⟩ (by decide)) ?_
      refine qm_G.sp (lv1 := [(0, qm_R (some (0, 61, 0))), (1, qm_I (qm_i 3)), (2, qm_I (qm_i a2))]) rfl rfl (qm_x_iload rfl) ?_
      refine qm_G.s1 rfl (qm_x_iload rfl) ?_
      refine qm_G.cs rfl rfl rfl ?_
      refine qm_C.go (cd := qm_P84) (lv := [(0, qm_I (qm_i 3)), (1, qm_I (qm_i a2))]) rfl rfl ?_
      refine qm_G.s1 rfl (qm_x_iload rfl) ?_
      refine qm_G.s1 rfl (qm_x_tsw (t := 74) rfl) ?_
      refine qm_G.sp (lv1 := [(1, qm_I (qm_i a2))]) rfl rfl (qm_x_iload rfl) ?_
      refine qm_G.s1 rfl (qm_x_pushI 0 rfl) ?_
      refine qm_G.s1 rfl (qm_x_pushI 99 rfl) ?_
      refine qm_G.cs rfl rfl rfl ?_
      refine qm_v_within11_t ⟨by omega, by omega⟩ ⟨by decide, by decide⟩ ⟨by decide, by decide⟩ (by omega) ⟨_, rfl, ?_⟩
      refine qm_G.ret rfl rfl ⟨_, rfl, ?_⟩
      refine qm_G.s1 rfl (qm_x_if_eq_f ⟨by decide, by decide⟩ (by decide)) ?_
      refine qm_G.s1 rfl (qm_x_aload rfl) ?_
      refine qm_G.s1 rfl (qm_x_iload rfl) ?_
      refine qm_G.s1 rfl (qm_x_iload rfl) ?_
      refine qm_G.cm rfl rfl (hS 61 rfl) rfl ?_
      refine qm_C.go (cd := qm_P22) (lv := [(0, qm_R (some (0, 61, 0))), (1, qm_I (qm_i 3)), (2, qm_I (qm_i a2))]) rfl rfl ?_
      refine qm_G.s1 rfl (qm_x_aload rfl) ?_
      refine qm_G.s1 rfl (qm_x_getfR (q := (some (0, 62, 0))) (hS 61 rfl) (hR 61 0 62 rfl rfl)) ?_
      refine qm_G.s1 rfl (qm_x_iload rfl) ?_
      refine qm_G.s1 rfl (qm_x_iald (v := (J 62 0 3)) (qm_arS hS rfl rfl) rfl (by decide) (by decide) (by decide) rfl) ?_
      refine qm_G.s1 rfl (qm_x_istore (lv' := [(3, qm_I (qm_i (J 62 0 3))), (0, qm_R (some (0, 61, 0))), (1, qm_I (qm_i 3)), (2, qm_I (qm_i a2))]) rfl) ?_
      refine qm_G.s1 rfl (qm_x_aload rfl) ?_
      refine qm_G.s1 rfl (qm_x_getfR (q := (some (0, 62, 0))) (hS 61 rfl) (hR 61 0 62 rfl rfl)) ?_
      refine qm_G.s1 rfl (qm_x_iload rfl) ?_
      refine qm_G.s1 rfl (qm_x_iload rfl) ?_
      refine qm_G.s1 rfl (qm_x_iast (qm_arS hS rfl rfl) rfl (by decide) (by decide) (by decide)) ?_
      refine qm_G.s1 rfl (qm_x_iload rfl) ?_
      refine qm_G.ret rfl rfl ⟨_, rfl, ?_⟩
      refine qm_G.s1 rfl (qm_x_goto) ?_
      refine qm_G.ret rfl rfl ⟨_, rfl, ?_⟩
      refine qm_G.s1 rfl (qm_x_icmp_eq_t ⟨by omega, by omega⟩ ⟨by omega, by omega⟩ (by omega)) ?_
      exact ih _ _ _ _ _ _ (qm_U_set3 (by omega) hI)
    · refine qm_G.s1 rfl (qm_x_if_eq_t ⟨by decide, by decide⟩ (by decide)) ?_
      refine qm_G.sp (lv1 := []) rfl rfl (qm_x_pushI 0 rfl) ?_
      refine qm_G.ret rfl rfl ⟨_, rfl, ?_⟩
      refine qm_G.s1 rfl (qm_x_if_ne_f ⟨by decide, by decide⟩ (by decide)) ?_
      refine qm_G.s1 rfl (qm_x_pushI (-2) rfl) ?_
      refine qm_G.ret rfl rfl ⟨_, rfl, ?_⟩
      refine qm_G.s1 rfl (qm_x_aload rfl) ?_
      refine qm_G.s1 rfl (qm_x_aload rfl) ?_
      refine qm_G.s1 rfl (qm_x_iload rfl) ?_
      refine qm_G.s1 rfl (qm_x_pushI 1 rfl) ?_
      refine qm_G.s1 rfl (qm_x_iadd) ?_
      refine qm_G.s1 rfl (qm_x_iald2v (v := 3) (by omega) (by omega) hX e1) ?_
      refine qm_G.s1 rfl (qm_x_aload rfl) ?_
      refine qm_G.s1 rfl (qm_x_iload rfl) ?_
      refine qm_G.s1 rfl (qm_x_pushI 2 rfl) ?_
      refine qm_G.s1 rfl (qm_x_iadd) ?_
      refine qm_G.s1 rfl (qm_x_iald2v (v := a2) (by omega) (by omega) hX e2) ?_
      refine qm_G.cm rfl rfl (hS 61 rfl) rfl ?_
      refine qm_C.go (cd := qm_P142) (lv := [(0, qm_R (some (0, 61, 0))), (1, qm_I (qm_i 3)), (2, qm_I (qm_i a2))]) rfl rfl ?_
      refine qm_G.s1 rfl (qm_x_iload rfl) ?_
      refine qm_G.s1 rfl (qm_x_pushI 0 rfl) ?_
      refine qm_G.s1 rfl (qm_x_pushI 5 rfl) ?_
      refine qm_G.cs rfl rfl rfl ?_
      refine qm_v_within11_t ⟨by decide, by decide⟩ ⟨by decide, by decide⟩ ⟨by decide, by decide⟩ (by decide) ⟨_, rfl, ?_⟩
      refine qm_G.s1 rfl (qm_x_if_ne_t ⟨by decide, by decide⟩ (by decide)) ?_
      refine qm_G.sp (lv1 := [(0, qm_R (some (0, 61, 0))), (1, qm_I (qm_i 3)), (2, qm_I (qm_i a2))]) rfl rfl (qm_x_iload rfl) ?_
      refine qm_G.s1 rfl (qm_x_iload rfl) ?_
      refine qm_G.cs rfl rfl rfl ?_
      refine qm_C.go (cd := qm_P84) (lv := [(0, qm_I (qm_i 3)), (1, qm_I (qm_i a2))]) rfl rfl ?_
      refine qm_G.s1 rfl (qm_x_iload rfl) ?_
      refine qm_G.s1 rfl (qm_x_tsw (t := 74) rfl) ?_
      refine qm_G.sp (lv1 := [(1, qm_I (qm_i a2))]) rfl rfl (qm_x_iload rfl) ?_
      refine qm_G.s1 rfl (qm_x_pushI 0 rfl) ?_
      refine qm_G.s1 rfl (qm_x_pushI 99 rfl) ?_
      refine qm_G.cs rfl rfl rfl ?_
      refine qm_v_within11_f ⟨by omega, by omega⟩ ⟨by decide, by decide⟩ ⟨by decide, by decide⟩ (by omega) ⟨_, rfl, ?_⟩
      refine qm_G.ret rfl rfl ⟨_, rfl, ?_⟩
      refine qm_G.s1 rfl (qm_x_if_eq_t ⟨by decide, by decide⟩ (by decide)) ?_
      refine qm_G.sp (lv1 := []) rfl rfl (qm_x_pushI (-2) rfl) ?_
      refine qm_G.ret rfl rfl ⟨_, rfl, ?_⟩
      refine qm_G.s1 rfl (qm_x_icmp_eq_t ⟨by decide, by decide⟩ ⟨by decide, by decide⟩ (by decide)) ?_
      exact ih _ _ _ _ _ _ hI.next
  · subst d1
    refine qm_G.sp (lv1 := [(0, qm_R (some (2, 0, 0))), (1, qm_R (some (0, 0, 0))), (2, qm_R (some (0, 61, 0))), (3, qm_I (qm_i z))]) rfl rfl (qm_x_aload rfl) ?_
    refine qm_G.s1 rfl (qm_x_aload rfl) ?_
    refine qm_G.s1 rfl (qm_x_iload rfl) ?_
    refine qm_G.s1 rfl (qm_x_pushI 1 rfl) ?_
    refine qm_G.s1 rfl (qm_x_iadd) ?_
    refine qm_G.s1 rfl (qm_x_iald2v (v := 4) (by omega) (by omega) hX e1) ?_
    refine qm_G.s1 rfl (qm_x_aload rfl) ?_
    refine qm_G.s1 rfl (qm_x_iload rfl) ?_
    refine qm_G.s1 rfl (qm_x_pushI 2 rfl) ?_
    refine qm_G.s1 rfl (qm_x_iadd) ?_
    refine qm_G.s1 rfl (qm_x_iald2v (v := a2) (by omega) (by omega) hX e2) ?_
    refine qm_G.cm rfl rfl (hS 0 rfl) rfl ?_
    refine qm_C.go (cd := qm_P138) (lv := [(0, qm_R (some (0, 0, 0))), (1, qm_I (qm_i 4)), (2, qm_I (qm_i a2))]) rfl rfl ?_
    refine qm_G.s1 rfl (qm_x_iload rfl) ?_
    refine qm_G.s1 rfl (qm_x_pushI 0 rfl) ?_
    refine qm_G.s1 rfl (qm_x_pushI 5 rfl) ?_
    refine qm_G.cs rfl rfl rfl ?_
    refine qm_v_within10_t ⟨by decide, by decide⟩ ⟨by decide, by decide⟩ ⟨by decide, by decide⟩ (by decide) ⟨_, rfl, ?_⟩
    refine qm_G.s1 rfl (qm_x_if_ne_t ⟨by decide, by decide⟩ (by decide)) ?_
    refine qm_G.sp (lv1 := [(0, qm_R (some (0, 0, 0))), (1, qm_I (qm_i 4)), (2, qm_I (qm_i a2))]) rfl rfl (qm_x_iload rfl) ?_
    refine qm_G.s1 rfl (qm_x_iload rfl) ?_
    refine qm_G.cs rfl rfl rfl ?_
    refine qm_C.go (cd := qm_P92) (lv := [(0, qm_I (qm_i 4)), (1, qm_I (qm_i a2))]) rfl rfl ?_
    refine qm_G.s1 rfl (qm_x_iload rfl) ?_
    refine qm_G.s1 rfl (qm_x_pushI 0 rfl) ?_
    refine qm_G.s1 rfl (qm_x_pushI 5 rfl) ?_
    refine qm_G.cs rfl rfl rfl ?_
    refine qm_v_within10_t ⟨by decide, by decide⟩ ⟨by decide, by decide⟩ ⟨by decide, by decide⟩ (by decide) ⟨_, rfl, ?_⟩
    refine qm_G.s1 rfl (qm_x_if_eq_f ⟨by decide, by decide⟩ (by decide)) ?_
    refine qm_G.s1 rfl (qm_x_iload rfl) ?_
    refine qm_G.s1 rfl (qm_x_push) ?_
    refine qm_G.s1 rfl (qm_x_iload rfl) ?_
    refine qm_G.s1 rfl (qm_x_iald1 (v := 0) rfl rfl (by decide) (by decide) rfl) ?_
    refine qm_G.s1 rfl (qm_x_push) ?_
    refine qm_G.s1 rfl (qm_x_iload rfl) ?_
    refine qm_G.s1 rfl (qm_x_iald1 (v := 99) rfl rfl (by decide) (by decide) rfl) ?_
    refine qm_G.cs rfl rfl rfl ?_
    refine qm_v_within10 ⟨by omega, by omega⟩ ⟨by decide, by decide⟩ ⟨by decide, by decide⟩ (fun c32 => ⟨_, rfl, ?_⟩) (fun c32 => ⟨_, rfl, ?_⟩)
    · refine qm_G.s1 rfl (qm_x_if_eq_f ⟨by decide, by decide⟩ (by decide)) ?_
      refine qm_G.s1 rfl (qm_x_pushI 1 rfl) ?_
      refine qm_G.s1 rfl (qm_x_goto) ?_
      refine qm_G.ret rfl rfl ⟨_, rfl, ?_⟩
      refine qm_G.s1 rfl (qm_x_if_ne_t ⟨by decide, by decide⟩ (by decide)) ?_
      refine qm_G.sp (lv1 := [(0, qm_R (some (0, 0, 0))), (1, qm_I (qm_i 4)), (2, qm_I (qm_i a2))]) rfl rfl (qm_x_aload rfl) ?_
      refine qm_G.s1 rfl (qm_x_getfR (q := (some (0, 1, 0))) (hS 0 rfl) (hR 0 0 1 rfl rfl)) ?_
      refine qm_G.s1 rfl (qm_x_getfR (q := (some (0, 2, 0))) (hS 1 rfl) (hR 1 0 2 rfl rfl)) ?_
      refine qm_G.s1 rfl (qm_x_getfR (q := (some (0, 3, 0))) (hS 2 rfl) (hR 2 0 3 rfl rfl)) ?_
      refine qm_G.s1 rfl (qm_x_iload rfl) ?_
      have f62_4 : 0 ≤ J 62 0 4 ∧ J 62 0 4 ≤ 99 := hI.mk.r4
      have f3_4 : J 3 0 4 = J 62 0 4 := hI.mk.set 4 (by decide)
      refine qm_G.s1 rfl (qm_x_iald (v := (J 3 0 4)) (qm_arS hS rfl rfl) rfl (by decide) (by decide) (by decide) rfl) ?_
      refine qm_G.s1 rfl (qm_x_istore (lv' := [(3, qm_I (qm_i (J 3 0 4))), (0, qm_R (some (0, 0, 0))), (1, qm_I (qm_i 4)), (2, qm_I (qm_i a2))]) rfl) ?_
      refine qm_G.s1 rfl (qm_x_aload rfl) ?_
      refine qm_G.s1 rfl (qm_x_getfR (q := (some (0, 1, 0))) (hS 0 rfl) (hR 0 0 1 rfl rfl)) ?_
      refine qm_G.s1 rfl (qm_x_getfR (q := (some (0, 2, 0))) (hS 1 rfl) (hR 1 0 2 rfl rfl)) ?_
      refine qm_G.s1 rfl (qm_x_getfR (q := (some (0, 3, 0))) (hS 2 rfl) (hR 2 0 3 rfl rfl)) ?_
      refine qm_G.s1 rfl (qm_x_iload rfl) ?_
      refine qm_G.s1 rfl (qm_x_iload rfl) ?_
      refine qm_G.s1 rfl (qm_x_iast (qm_arS hS rfl rfl) rfl (by decide) (by decide) (by decide)) ?_
      refine qm_G.s1 rfl (qm_x_iload rfl) ?_
      refine qm_G.ret rfl rfl ⟨_, rfl, ?_⟩
      refine qm_G.s1 rfl (qm_x_aload rfl) ?_
      refine qm_G.s1 rfl (qm_x_aload rfl) ?_
      refine qm_G.s1 rfl (qm_x_iload rfl) ?_
      refine qm_G.s1 rfl (qm_x_pushI 1 rfl) ?_
      refine qm_G.s1 rfl (qm_x_iadd) ?_
      refine qm_G.s1 rfl (qm_x_iald2v (v := 4) (by omega) (by omega) hX e1) ?_
      refine qm_G.s1 rfl (qm_x_aload rfl) ?_
      refine qm_G.s1 rfl (qm_x_iload rfl) ?_
      refine qm_G.s1 rfl (qm_x_pushI 2 rfl) ?_
      refine qm_G.s1 rfl (qm_x_iadd) ?_
      refine qm_G.s1 rfl (qm_x_iald2v (v := a2) (by omega) (by omega) hX e2) ?_
      refine qm_G.cm rfl rfl (hS 61 rfl) rfl ?_
      refine qm_C.go (cd := qm_P142) (lv := [(0, qm_R (some (0, 61, 0))), (1, qm_I (qm_i 4)), (2, qm_I (qm_i a2))]) rfl rfl ?_
      refine qm_G.s1 rfl (qm_x_iload rfl) ?_
      refine qm_G.s1 rfl (qm_x_pushI 0 rfl) ?_
      refine qm_G.s1 rfl (qm_x_pushI 5 rfl) ?_
      refine qm_G.cs rfl rfl rfl ?_
      refine qm_v_within11_t ⟨by decide, by decide⟩ ⟨by decide, by decide⟩ ⟨by decide, by decide⟩ (by decide) ⟨_, rfl, ?_⟩
      refine qm_G.s1 rfl (qm_x_if_ne_t ⟨by decide, by decide⟩ (by decide)) ?_
      refine qm_G.sp (lv1 := [(0, qm_R (some (0, 61, 0))), (1, qm_I (qm_i 4)), (2, qm_I (qm_i a2))]) rfl rfl (qm_x_iload rfl) ?_
      refine qm_G.s1 rfl (qm_x_iload rfl) ?_
      refine qm_G.cs rfl rfl rfl ?_
      refine qm_C.go (cd := qm_P84) (lv := [(0, qm_I (qm_i 4)), (1, qm_I (qm_i a2))]) rfl rfl ?_
      refine qm_G.s1 rfl (qm_x_iload rfl) ?_
      refine qm_G.s1 rfl (qm_x_tsw (t := 74) rfl) ?_
      refine qm_G.sp (lv1 := [(1, qm_I (qm_i a2))]) rfl rfl (qm_x_iload rfl) ?_
      refine qm_G.s1 rfl (qm_x_pushI 0 rfl) ?_
      refine qm_G.s1 rfl (qm_x_pushI 99 rfl) ?_
      refine qm_G.cs rfl rfl rfl ?_
      refine qm_v_within11_t ⟨by omega, by omega⟩ ⟨by decide, by decide⟩ ⟨by decide, by decide⟩ (by omega) ⟨_, rfl, ?_⟩
      refine qm_G.ret rfl rfl ⟨_, rfl, ?_⟩
      refine qm_G.s1 rfl (qm_x_if_eq_f ⟨by decide, by decide⟩ (by decide)) ?_
      refine qm_G.s1 rfl (qm_x_aload rfl) ?_
      refine qm_G.s1 rfl (qm_x_iload rfl) ?_
      refine qm_G.s1 rfl (qm_x_iload rfl) ?_
      refine qm_G.cm rfl rfl (hS 61 rfl) rfl ?_
      refine qm_C.go (cd := qm_P22) (lv := [(0, qm_R (some (0, 61, 0))), (1, qm_I (qm_i 4)), (2, qm_I (qm_i a2))]) rfl rfl ?_
      refine qm_G.s1 rfl (qm_x_aload rfl) ?_
      refine qm_G.s1 rfl (qm_x_getfR (q := (some (0, 62, 0))) (hS 61 rfl) (hR 61 0 62 rfl rfl)) ?_
      refine qm_G.s1 rfl (qm_x_iload rfl) ?_
      refine qm_G.s1 rfl (qm_x_iald (v := (J 62 0 4)) (qm_arS hS rfl rfl) rfl (by decide) (by decide) (by decide) rfl) ?_
      refine qm_G.s1 rfl (qm_x_istore (lv' := [(3, qm_I (qm_i (J 62 0 4))), (0, qm_R (some (0, 61, 0))), (1, qm_I (qm_i 4)), (2, qm_I (qm_i a2))]) rfl) ?_
      refine qm_G.s1 rfl (qm_x_aload rfl) ?_
      refine qm_G.s1 rfl (qm_x_getfR (q := (some (0, 62, 0))) (hS 61 rfl) (hR 61 0 62 rfl rfl)) ?_
      refine qm_G.s1 rfl (qm_x_iload rfl) ?_
      refine qm_G.s1 rfl (qm_x_iload rfl) ?_
      refine qm_G.s1 rfl (qm_x_iast (qm_arS hS rfl rfl) rfl (by decide) (by decide) (by decide)) ?_
      refine qm_G.s1 rfl (qm_x_iload rfl) ?_
      refine qm_G.ret rfl rfl ⟨_, rfl, ?_⟩
      refine qm_G.s1 rfl (qm_x_goto) ?_
      refine qm_G.ret rfl rfl ⟨_, rfl, ?_⟩
      refine qm_G.s1 rfl (qm_x_icmp_eq_t ⟨by omega, by omega⟩ ⟨by omega, by omega⟩ (by omega)) ?_
      exact ih _ _ _ _ _ _ (qm_U_set4 (by omega) hI)
    · refine qm_G.s1 rfl (qm_x_if_eq_t ⟨by decide, by decide⟩ (by decide)) ?_
      refine qm_G.sp (lv1 := []) rfl rfl (qm_x_pushI 0 rfl) ?_
      refine qm_G.ret rfl rfl ⟨_, rfl, ?_⟩
      refine qm_G.s1 rfl (qm_x_if_ne_f ⟨by decide, by decide⟩ (by decide)) ?_
      refine qm_G.s1 rfl (qm_x_pushI (-2) rfl) ?_
      refine qm_G.ret rfl rfl ⟨_, rfl, ?_⟩
      refine qm_G.s1 rfl (qm_x_aload rfl) ?_
      refine qm_G.s1 rfl (qm_x_aload rfl) ?_
      refine qm_G.s1 rfl (qm_x_iload rfl) ?_
      refine qm_G.s1 rfl (qm_x_pushI 1 rfl) ?_
      refine qm_G.s1 rfl (qm_x_iadd) ?_
      refine qm_G.s1 rfl (qm_x_iald2v (v := 4) (by omega) (by omega) hX e1) ?_
      refine qm_G.s1 rfl (qm_x_aload rfl) ?_
      refine qm_G.s1 rfl (qm_x_iload rfl) ?_
      refine qm_G.s1 rfl (qm_x_pushI 2 rfl) ?_
      refine qm_G.s1 rfl (qm_x_iadd) ?_
      refine qm_G.s1 rfl (qm_x_iald2v (v := a2) (by omega) (by omega) hX e2) ?_
      refine qm_G.cm rfl rfl (hS 61 rfl) rfl ?_
      refine qm_C.go (cd := qm_P142) (lv := [(0, qm_R (some (0, 61, 0))), (1, qm_I (qm_i 4)), (2, qm_I (qm_i a2))]) rfl rfl ?_
      refine qm_G.s1 rfl (qm_x_iload rfl) ?_
      refine qm_G.s1 rfl (qm_x_pushI 0 rfl) ?_
      refine qm_G.s1 rfl (qm_x_pushI 5 rfl) ?_
      refine qm_G.cs rfl rfl rfl ?_
      refine qm_v_within11_t ⟨by decide, by decide⟩ ⟨by decide, by decide⟩ ⟨by decide, by decide⟩ (by decide) ⟨_, rfl, ?_⟩
      refine qm_G.s1 rfl (qm_x_if_ne_t ⟨by decide, by decide⟩ (by decide)) ?_
      refine qm_G.sp (lv1 := [(0, qm_R (some (0, 61, 0))), (1, qm_I (qm_i 4)), (2, qm_I (qm_i a2))]) rfl rfl (qm_x_iload rfl) ?_
      refine qm_G.s1 rfl (qm_x_iload rfl) ?_
      refine qm_G.cs rfl rfl rfl ?_
      refine qm_C.go (cd := qm_P84) (lv := [(0, qm_I (qm_i 4)), (1, qm_I (qm_i a2))]) rfl rfl ?_
      refine qm_G.s1 rfl (qm_x_iload rfl) ?_
      refine qm_G.s1 rfl (qm_x_tsw (t := 74) rfl) ?_
      refine qm_G.sp (lv1 := [(1, qm_I (qm_i a2))]) rfl rfl (qm_x_iload rfl) ?_
      refine qm_G.s1 rfl (qm_x_pushI 0 rfl) ?_
      refine qm_G.s1 rfl (qm_x_pushI 99 rfl) ?_
      refine qm_G.cs rfl rfl rfl ?_
      refine qm_v_within11_f ⟨by omega, by omega⟩ ⟨by decide, by decide⟩ ⟨by decide, by decide⟩ (by omega) ⟨_, rfl, ?_⟩
      refine qm_G.ret rfl rfl ⟨_, rfl, ?_⟩
      refine qm_G.s1 rfl (qm_x_if_eq_t ⟨by decide, by decide⟩ (by decide)) ?_
      refine qm_G.sp (lv1 := []) rfl rfl (qm_x_pushI (-2) rfl) ?_
      refine qm_G.ret rfl rfl ⟨_, rfl, ?_⟩
      refine qm_G.s1 rfl (qm_x_icmp_eq_t ⟨by decide, by decide⟩ ⟨by decide, by decide⟩ (by decide)) ?_
      exact ih _ _ _ _ _ _ hI.next
  · subst d1
    refine qm_G.sp (lv1 := [(0, qm_R (some (2, 0, 0))), (1, qm_R (some (0, 0, 0))), (2, qm_R (some (0, 61, 0))), (3, qm_I (qm_i z))]) rfl rfl (qm_x_aload rfl) ?_
    refine qm_G.s1 rfl (qm_x_aload rfl) ?_
    refine qm_G.s1 rfl (qm_x_iload rfl) ?_
    refine qm_G.s1 rfl (qm_x_pushI 1 rfl) ?_
    refine qm_G.s1 rfl (qm_x_iadd) ?_
    refine qm_G.s1 rfl (qm_x_iald2v (v := 5) (by omega) (by omega) hX e1) ?_
    refine qm_G.s1 rfl (qm_x_aload rfl) ?_
    refine qm_G.s1 rfl (qm_x_iload rfl) ?_
    refine qm_G.s1 rfl (qm_x_pushI 2 rfl) ?_
    refine qm_G.s1 rfl (qm_x_iadd) ?_
    refine qm_G.s1 rfl (qm_x_iald2v (v := a2) (by omega) (by omega) hX e2) ?_
    refine qm_G.cm rfl rfl (hS 0 rfl) rfl ?_
    refine qm_C.go (cd := qm_P138) (lv := [(0, qm_R (some (0, 0, 0))), (1, qm_I (qm_i 5)), (2, qm_I (qm_i a2))]) rfl rfl ?_
    refine qm_G.s1 rfl (qm_x_iload rfl) ?_
    refine qm_G.s1 rfl (qm_x_pushI 0 rfl) ?_
    refine qm_G.s1 rfl (qm_x_pushI 5 rfl) ?_
    refine qm_G.cs rfl rfl rfl ?_
    refine qm_v_within10_t ⟨by decide, by decide⟩ ⟨by decide, by decide⟩ ⟨by decide, by decide⟩ (by decide) ⟨_, rfl, ?_⟩
    refine qm_G.s1 rfl (qm_x_if_ne_t ⟨by decide, by decide⟩ (by decide)) ?_
    refine qm_G.sp (lv1 := [(0, qm_R (some (0, 0, 0))), (1, qm_I (qm_i 5)), (2, qm_I (qm_i a2))]) rfl rfl (qm_x_iload rfl) ?_
    refine qm_G.s1 rfl (qm_x_iload rfl) ?_
    refine qm_G.cs rfl rfl rfl ?_
    refine qm_C.go (cd := qm_P92) (lv := [(0, qm_I (qm_i 5)), (1, qm_I (qm_i a2))]) rfl rfl ?_
    refine qm_G.s1 rfl (qm_x_iload rfl) ?_
    refine qm_G.s1 rfl (qm_x_pushI 0 rfl) ?_
    refine qm_G.s1 rfl (qm_x_pushI 5 rfl) ?_
    refine qm_G.cs rfl rfl rfl ?_
    refine qm_v_within10_t ⟨by decide, by decide⟩ ⟨by decide, by decide⟩ ⟨by decide, by decide⟩ (by decide) ⟨_, rfl, ?_⟩
    refine qm_G.s1 rfl (qm_x_if_eq_f ⟨by decide, by decide⟩ (by decide)) ?_
    refine qm_G.s1 rfl (qm_x_iload rfl) ?_
    refine qm_G.s1 rfl (qm_x_push) ?_
    refine qm_G.s1 rfl (qm_x_iload rfl) ?_
    refine qm_G.s1 rfl (qm_x_iald1 (v := 1) rfl rfl (by decide) (by decide) rfl) ?_
    refine qm_G.s1 rfl (qm_x_push) ?_
    refine qm_G.s1 rfl (qm_x_iload rfl) ?_
    refine qm_G.s1 rfl (qm_x_iald1 (v := 1000000) rfl rfl (by decide) (by decide) rfl) ?_
    refine qm_G.cs rfl rfl rfl ?_
    refine qm_v_within10 ⟨by omega, by omega⟩ ⟨by decide, by decide⟩ ⟨by decide, by decide⟩ (fun c39 => ⟨_, rfl, ?_⟩) (fun c39 => ⟨_, rfl, ?_⟩)
    · refine qm_G.s1 rfl (qm_x_if_eq_f ⟨by decide, by decide⟩ (by decide)) ?_
      refine qm_G.s1 rfl (qm_x_pushI 1 rfl) ?_
      refine qm_G.s1 rfl (qm_x_goto) ?_
      refine qm_G.ret rfl rfl ⟨_, rfl, ?_⟩
      refine qm_G.s1 rfl (qm_x_if_ne_t ⟨by decide, by decide⟩ (by decide)) ?_
      refine qm_G.sp (lv1 := [(0, qm_R (some (0, 0, 0))), (1, qm_I (qm_i 5)), (2, qm_I (qm_i a2))]) rfl rfl (qm_x_aload rfl) ?_
      refine qm_G.s1 rfl (qm_x_getfR (q := (some (0, 1, 0))) (hS 0 rfl) (hR 0 0 1 rfl rfl)) ?_
      refine qm_G.s1 rfl (qm_x_getfR (q := (some (0, 2, 0))) (hS 1 rfl) (hR 1 0 2 rfl rfl)) ?_
      refine qm_G.s1 rfl (qm_x_getfR (q := (some (0, 3, 0))) (hS 2 rfl) (hR 2 0 3 rfl rfl)) ?_
      refine qm_G.s1 rfl (qm_x_iload rfl) ?_
      have f62_5 : 1 ≤ J 62 0 5 ∧ J 62 0 5 ≤ 1000000 := hI.mk.r5
      have f3_5 : J 3 0 5 = J 62 0 5 := hI.mk.set 5 (by decide)
      refine qm_G.s1 rfl (qm_x_iald (v := (J 3 0 5)) (qm_arS hS rfl rfl) rfl (by decide) (by decide) (by decide) rfl) ?_
      refine qm_G.s1 rfl (qm_x_istore (lv' := [(3, qm_I (qm_i (J 3 0 5))), (0, qm_R (some (0, 0, 0))), (1, qm_I (qm_i 5)), (2, qm_I (qm_i a2))]) rfl) ?_
      refine qm_G.s1 rfl (qm_x_aload rfl) ?_
      refine qm_G.s1 rfl (qm_x_getfR (q := (some (0, 1, 0))) (hS 0 rfl) (hR 0 0 1 rfl rfl)) ?_
      refine qm_G.s1 rfl (qm_x_getfR (q := (some (0, 2, 0))) (hS 1 rfl) (hR 1 0 2 rfl rfl)) ?_
      refine qm_G.s1 rfl (qm_x_getfR (q := (some (0, 3, 0))) (hS 2 rfl) (hR 2 0 3 rfl rfl)) ?_
      refine qm_G.s1 rfl (qm_x_iload rfl) ?_
      refine qm_G.s1 rfl (qm_x_iload rfl) ?_
      refine qm_G.s1 rfl (qm_x_iast (qm_arS hS rfl rfl) rfl (by decide) (by decide) (by decide)) ?_
      refine qm_G.s1 rfl (qm_x_iload rfl) ?_
      refine qm_G.ret rfl rfl ⟨_, rfl, ?_⟩
      refine qm_G.s1 rfl (qm_x_aload rfl) ?_
      refine qm_G.s1 rfl (qm_x_aload rfl) ?_
      refine qm_G.s1 rfl (qm_x_iload rfl) ?_
      refine qm_G.s1 rfl (qm_x_pushI 1 rfl) ?_
      refine qm_G.s1 rfl (qm_x_iadd) ?_
      refine qm_G.s1 rfl (qm_x_iald2v (v := 5) (by omega) (by omega) hX e1) ?_
      refine qm_G.s1 rfl (qm_x_aload rfl) ?_
      refine qm_G.s1 rfl (qm_x_iload rfl) ?_
      refine qm_G.s1 rfl (qm_x_pushI 2 rfl) ?_
      refine qm_G.s1 rfl (qm_x_iadd) ?_
      refine qm_G.s1 rfl (qm_x_iald2v (v := a2) (by omega) (by omega) hX e2) ?_
      refine qm_G.cm rfl rfl (hS 61 rfl) rfl ?_
      refine qm_C.go (cd := qm_P142) (lv := [(0, qm_R (some (0, 61, 0))), (1, qm_I (qm_i 5)), (2, qm_I (qm_i a2))]) rfl rfl ?_
      refine qm_G.s1 rfl (qm_x_iload rfl) ?_
      refine qm_G.s1 rfl (qm_x_pushI 0 rfl) ?_
      refine qm_G.s1 rfl (qm_x_pushI 5 rfl) ?_
      refine qm_G.cs rfl rfl rfl ?_
      refine qm_v_within11_t ⟨by decide, by decide⟩ ⟨by decide, by decide⟩ ⟨by decide, by decide⟩ (by decide) ⟨_, rfl, ?_⟩
      refine qm_G.s1 rfl (qm_x_if_ne_t ⟨by decide, by decide⟩ (by decide)) ?_
      refine qm_G.sp (lv1 := [(0, qm_R (some (0, 61, 0))), (1, qm_I (qm_i 5)), (2, qm_I (qm_i a2))]) rfl rfl (qm_x_iload rfl) ?_
      refine qm_G.s1 rfl (qm_x_iload rfl) ?_
      refine qm_G.cs rfl rfl rfl ?_
      refine qm_C.go (cd := qm_P84) (lv := [(0, qm_I (qm_i 5)), (1, qm_I (qm_i a2))]) rfl rfl ?_
      refine qm_G.s1 rfl (qm_x_iload rfl) ?_
      refine qm_G.s1 rfl (qm_x_tsw (t := 66) rfl) ?_
      refine qm_G.sp (lv1 := [(1, qm_I (qm_i a2))]) rfl rfl (qm_x_iload rfl) ?_
      refine qm_G.s1 rfl (qm_x_pushI 1 rfl) ?_
      refine qm_G.s1 rfl (qm_x_pushI 1000000 rfl) ?_
      refine qm_G.cs rfl rfl rfl ?_
      refine qm_v_within11_t ⟨by omega, by omega⟩ ⟨by decide, by decide⟩ ⟨by decide, by decide⟩ (by omega) ⟨_, rfl, ?_⟩
      refine qm_G.ret rfl rfl ⟨_, rfl, ?_⟩
      refine qm_G.s1 rfl (qm_x_if_eq_f ⟨by decide, by decide⟩ (by decide)) ?_
      refine qm_G.s1 rfl (qm_x_aload rfl) ?_
      refine qm_G.s1 rfl (qm_x_iload rfl) ?_
      refine qm_G.s1 rfl (qm_x_iload rfl) ?_
      refine qm_G.cm rfl rfl (hS 61 rfl) rfl ?_
      refine qm_C.go (cd := qm_P22) (lv := [(0, qm_R (some (0, 61, 0))), (1, qm_I (qm_i 5)), (2, qm_I (qm_i a2))]) rfl rfl ?_
      refine qm_G.s1 rfl (qm_x_aload rfl) ?_
      refine qm_G.s1 rfl (qm_x_getfR (q := (some (0, 62, 0))) (hS 61 rfl) (hR 61 0 62 rfl rfl)) ?_
      refine qm_G.s1 rfl (qm_x_iload rfl) ?_
      refine qm_G.s1 rfl (qm_x_iald (v := (J 62 0 5)) (qm_arS hS rfl rfl) rfl (by decide) (by decide) (by decide) rfl) ?_
      refine qm_G.s1 rfl (qm_x_istore (lv' := [(3, qm_I (qm_i (J 62 0 5))), (0, qm_R (some (0, 61, 0))), (1, qm_I (qm_i 5)), (2, qm_I (qm_i a2))]) rfl) ?_
      refine qm_G.s1 rfl (qm_x_aload rfl) ?_
      refine qm_G.s1 rfl (qm_x_getfR (q := (some (0, 62, 0))) (hS 61 rfl) (hR 61 0 62 rfl rfl)) ?_
      refine qm_G.s1 rfl (qm_x_iload rfl) ?_
      refine qm_G.s1 rfl (qm_x_iload rfl) ?_
      refine qm_G.s1 rfl (qm_x_iast (qm_arS hS rfl rfl) rfl (by decide) (by decide) (by decide)) ?_
      refine qm_G.s1 rfl (qm_x_iload rfl) ?_
      refine qm_G.ret rfl rfl ⟨_, rfl, ?_⟩
      refine qm_G.s1 rfl (qm_x_goto) ?_
      refine qm_G.ret rfl rfl ⟨_, rfl, ?_⟩
      refine qm_G.s1 rfl (qm_x_icmp_eq_t ⟨by omega, by omega⟩ ⟨by omega, by omega⟩ (by omega)) ?_
      exact ih _ _ _ _ _ _ (qm_U_set5 (by omega) hI)
    · refine qm_G.s1 rfl (qm_x_if_eq_t ⟨by decide, by decide⟩ (by decide)) ?_
      refine qm_G.sp (lv1 := []) rfl rfl (qm_x_pushI 0 rfl) ?_
      refine qm_G.ret rfl rfl ⟨_, rfl, ?_⟩
      refine qm_G.s1 rfl (qm_x_if_ne_f ⟨by decide, by decide⟩ (by decide)) ?_
      refine qm_G.s1 rfl (qm_x_pushI (-2) rfl) ?_
      refine qm_G.ret rfl rfl ⟨_, rfl, ?_⟩
      refine qm_G.s1 rfl (qm_x_aload rfl) ?_
      refine qm_G.s1 rfl (qm_x_aload rfl) ?_
      refine qm_G.s1 rfl (qm_x_iload rfl) ?_
      refine qm_G.s1 rfl (qm_x_pushI 1 rfl) ?_
      refine qm_G.s1 rfl (qm_x_iadd) ?_
      refine qm_G.s1 rfl (qm_x_iald2v (v := 5) (by omega) (by omega) hX e1) ?_
      refine qm_G.s1 rfl (qm_x_aload rfl) ?_
      refine qm_G.s1 rfl (qm_x_iload rfl) ?_
      refine qm_G.s1 rfl (qm_x_pushI 2 rfl) ?_
      refine qm_G.s1 rfl (qm_x_iadd) ?_
      refine qm_G.s1 rfl (qm_x_iald2v (v := a2) (by omega) (by omega) hX e2) ?_
      refine qm_G.cm rfl rfl (hS 61 rfl) rfl ?_
      refine qm_C.go (cd := qm_P142) (lv := [(0, qm_R (some (0, 61, 0))), (1, qm_I (qm_i 5)), (2, qm_I (qm_i a2))]) rfl rfl ?_
      refine qm_G.s1 rfl (qm_x_iload rfl) ?_
      refine qm_G.s1 rfl (qm_x_pushI 0 rfl) ?_
      refine qm_G.s1 rfl (qm_x_pushI 5 rfl) ?_
      refine qm_G.cs rfl rfl rfl ?_
      refine qm_v_within11_t ⟨by decide, by decide⟩ ⟨by decide, by decide⟩ ⟨by decide, by decide⟩ (by decide) ⟨_, rfl, ?_⟩
      refine qm_G.s1 rfl (qm_x_if_ne_t ⟨by decide, by decide⟩ (by decide)) ?_
      refine qm_G.sp (lv1 := [(0, qm_R (some (0, 61, 0))), (1, qm_I (qm_i 5)), (2, qm_I (qm_i a2))]) rfl rfl (qm_x_iload rfl) ?_
      refine qm_G.s1 rfl (qm_x_iload rfl) ?_
      refine qm_G.cs rfl rfl rfl ?_
      refine qm_C.go (cd := qm_P84) (lv := [(0, qm_I (qm_i 5)), (1, qm_I (qm_i a2))]) rfl rfl ?_
      refine qm_G.s1 rfl (qm_x_iload rfl) ?_
      refine qm_G.s1 rfl (qm_x_tsw (t := 66) rfl) ?_
      refine qm_G.sp (lv1 := [(1, qm_I (qm_i a2))]) rfl rfl (qm_x_iload rfl) ?_
      refine qm_G.s1 rfl (qm_x_pushI 1 rfl) ?_
      refine qm_G.s1 rfl (qm_x_pushI 1000000 rfl) ?_
      refine qm_G.cs rfl rfl rfl ?_
      refine qm_v_within11_f ⟨by omega, by omega⟩ ⟨by decide, by decide⟩ ⟨by decide, by decide⟩ (by omega) ⟨_, rfl, ?_⟩
      refine qm_G.ret rfl rfl ⟨_, rfl, ?_⟩
      refine qm_G.s1 rfl (qm_x_if_eq_t ⟨by decide, by decide⟩ (by decide)) ?_
      refine qm_G.sp (lv1 := []) rfl rfl (qm_x_pushI (-2) rfl) ?_
      refine qm_G.ret rfl rfl ⟨_, rfl, ?_⟩
      refine qm_G.s1 rfl (qm_x_icmp_eq_t ⟨by decide, by decide⟩ ⟨by decide, by decide⟩ (by decide)) ?_
      exact ih _ _ _ _ _ _ hI.next
  · refine qm_G.sp (lv1 := [(0, qm_R (some (2, 0, 0))), (1, qm_R (some (0, 0, 0))), (2, qm_R (some (0, 61, 0))), (3, qm_I (qm_i z))]) rfl rfl (qm_x_aload rfl) ?_
    refine qm_G.s1 rfl (qm_x_aload rfl) ?_
    refine qm_G.s1 rfl (qm_x_iload rfl) ?_
    refine qm_G.s1 rfl (qm_x_pushI 1 rfl) ?_
    refine qm_G.s1 rfl (qm_x_iadd) ?_
    refine qm_G.s1 rfl (qm_x_iald2v (v := a1) (by omega) (by omega) hX e1) ?_
    refine qm_G.s1 rfl (qm_x_aload rfl) ?_
    refine qm_G.s1 rfl (qm_x_iload rfl) ?_
    refine qm_G.s1 rfl (qm_x_pushI 2 rfl) ?_
    refine qm_G.s1 rfl (qm_x_iadd) ?_
    refine qm_G.s1 rfl (qm_x_iald2v (v := a2) (by omega) (by omega) hX e2) ?_
    refine qm_G.cm rfl rfl (hS 0 rfl) rfl ?_
    refine qm_C.go (cd := qm_P138) (lv := [(0, qm_R (some (0, 0, 0))), (1, qm_I (qm_i a1)), (2, qm_I (qm_i a2))]) rfl rfl ?_
    refine qm_G.s1 rfl (qm_x_iload rfl) ?_
    refine qm_G.s1 rfl (qm_x_pushI 0 rfl) ?_
    refine qm_G.s1 rfl (qm_x_pushI 5 rfl) ?_
    refine qm_G.cs rfl rfl rfl ?_
    refine qm_v_within10_f ⟨by omega, by omega⟩ ⟨by decide, by decide⟩ ⟨by decide, by decide⟩ (by omega) ⟨_, rfl, ?_⟩
    refine qm_G.s1 rfl (qm_x_if_ne_f ⟨by decide, by decide⟩ (by decide)) ?_
    refine qm_G.s1 rfl (qm_x_pushI (-1) rfl) ?_
    refine qm_G.ret rfl rfl ⟨_, rfl, ?_⟩
    refine qm_G.s1 rfl (qm_x_aload rfl) ?_
    refine qm_G.s1 rfl (qm_x_aload rfl) ?_
    refine qm_G.s1 rfl (qm_x_iload rfl) ?_
    refine qm_G.s1 rfl (qm_x_pushI 1 rfl) ?_
    refine qm_G.s1 rfl (qm_x_iadd) ?_
    refine qm_G.s1 rfl (qm_x_iald2v (v := a1) (by omega) (by omega) hX e1) ?_
    refine qm_G.s1 rfl (qm_x_aload rfl) ?_
    refine qm_G.s1 rfl (qm_x_iload rfl) ?_
    refine qm_G.s1 rfl (qm_x_pushI 2 rfl) ?_
    refine qm_G.s1 rfl (qm_x_iadd) ?_
    refine qm_G.s1 rfl (qm_x_iald2v (v := a2) (by omega) (by omega) hX e2) ?_
    refine qm_G.cm rfl rfl (hS 61 rfl) rfl ?_
    refine qm_C.go (cd := qm_P142) (lv := [(0, qm_R (some (0, 61, 0))), (1, qm_I (qm_i a1)), (2, qm_I (qm_i a2))]) rfl rfl ?_
    refine qm_G.s1 rfl (qm_x_iload rfl) ?_
    refine qm_G.s1 rfl (qm_x_pushI 0 rfl) ?_
    refine qm_G.s1 rfl (qm_x_pushI 5 rfl) ?_
    refine qm_G.cs rfl rfl rfl ?_
    refine qm_v_within11_f ⟨by omega, by omega⟩ ⟨by decide, by decide⟩ ⟨by decide, by decide⟩ (by omega) ⟨_, rfl, ?_⟩
    refine qm_G.s1 rfl (qm_x_if_ne_f ⟨by decide, by decide⟩ (by decide)) ?_
    refine qm_G.s1 rfl (qm_x_pushI (-1) rfl) ?_
    refine qm_G.ret rfl rfl ⟨_, rfl, ?_⟩
    refine qm_G.s1 rfl (qm_x_icmp_eq_t ⟨by decide, by decide⟩ ⟨by decide, by decide⟩ (by decide)) ?_
    exact ih _ _ _ _ _ _ hI.next
