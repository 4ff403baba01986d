/-! THE LAW, case 5 -/
theorem qm_case5 {S : List qm_Sh} {J K : qm_J} {L : qm_Ct Int64} {D : qm_Ct UInt64} {R : qm_Ct (Option qm_Rf)} {X : Nat × (Nat → Int32)} {k : Nat} {z : Int} {Q : Option qm_V → qm_Hp → Prop} {a1 : Int} {a2 : Int} {a3 : Int} (hI : qm_Inv S J K L D R k) (hX : X.1 ≤ 3072) (h0 : 0 ≤ z) (h6 : z + 6 ≤ X.1) (e1 : (X.2 (Int.toNat (z + 1))).toInt = a1) (e2 : (X.2 (Int.toNat (z + 2))).toInt = a2) (e3 : (X.2 (Int.toNat (z + 3))).toInt = a3) (ih : ∀ (S : List qm_Sh) (J K : qm_J) (L : qm_Ct Int64) (D : qm_Ct UInt64) (R : qm_Ct (Option qm_Rf)), qm_Inv S J K L D R (k + 1) → qm_G qm_P qm_P222 1445 [(0, qm_R (some (2, 0, 0))), (1, qm_R (some (0, 0, 0))), (2, qm_R (some (0, 61, 0))), (3, qm_I (qm_i z))] [] (qm_H S J K L D R X) Q) : qm_G qm_P qm_P222 382 [(0, qm_R (some (2, 0, 0))), (1, qm_R (some (0, 0, 0))), (2, qm_R (some (0, 61, 0))), (3, qm_I (qm_i z))] [] (qm_H S J K L D R X) Q := by
  have hS := hI.sd
  have hR := hI.rd
  have s1 : qm_sm a1 := e1 ▸ qm_i_sml _
  have s2 : qm_sm a2 := e2 ▸ qm_i_sml _
  have s3 : qm_sm a3 := e3 ▸ qm_i_sml _
  rcases (show a1 = 0 ∨ a1 = 1 ∨ a1 = 2 ∨ (a1 < 0 ∨ 2 < a1) by omega) with d1 | d1 | d1 | d1
  · subst d1
    refine qm_G.sp (lv1 := [(0, qm_R (some (2, 0, 0))), (1, qm_R (some (0, 0, 0))), (2, qm_R (some (0, 61, 0))), (3, qm_I (qm_i z))]) rfl rfl (qm_x_aload rfl) ?_
    refine qm_G.s1 rfl (qm_x_aload rfl) ?_
    refine qm_G.s1 rfl (qm_x_iload rfl) ?_
    refine qm_G.s1 rfl (qm_x_pushI 1 rfl) ?_
    refine qm_G.s1 rfl (qm_x_iadd) ?_
    refine qm_G.s1 rfl (qm_x_iald2v (v := 0) (by omega) (by omega) hX e1) ?_
    refine qm_G.s1 rfl (qm_x_aload rfl) ?_
    refine qm_G.s1 rfl (qm_x_iload rfl) ?_
    refine qm_G.s1 rfl (qm_x_pushI 2 rfl) ?_
    refine qm_G.s1 rfl (qm_x_iadd) ?_
    refine qm_G.s1 rfl (qm_x_iald2v (v := a2) (by omega) (by omega) hX e2) ?_
    refine qm_G.s1 rfl (qm_x_aload rfl) ?_
    refine qm_G.s1 rfl (qm_x_iload rfl) ?_
    refine qm_G.s1 rfl (qm_x_pushI 3 rfl) ?_
    refine qm_G.s1 rfl (qm_x_iadd) ?_
    refine qm_G.s1 rfl (qm_x_iald2v (v := a3) (by omega) (by omega) hX e3) ?_
    refine qm_G.cm rfl rfl (hS 0 rfl) rfl ?_
    refine qm_C.go (cd := qm_P164) (lv := [(0, qm_R (some (0, 0, 0))), (1, qm_I (qm_i 0)), (2, qm_I (qm_i a2)), (3, qm_I (qm_i a3))]) rfl rfl ?_
    refine qm_G.s1 rfl (qm_x_iload rfl) ?_
    refine qm_G.cs rfl rfl rfl ?_
    refine qm_C.go (cd := qm_P71) (lv := [(0, qm_I (qm_i 0))]) rfl rfl ?_
    refine qm_G.s1 rfl (qm_x_iload rfl) ?_
    refine qm_G.s1 rfl (qm_x_pushI 0 rfl) ?_
    refine qm_G.s1 rfl (qm_x_pushI 2 rfl) ?_
    refine qm_G.cs rfl rfl rfl ?_
    refine qm_v_within10_t ⟨by decide, by decide⟩ ⟨by decide, by decide⟩ ⟨by decide, by decide⟩ (by decide) ⟨_, rfl, ?_⟩
    refine qm_G.ret rfl rfl ⟨_, rfl, ?_⟩
    refine qm_G.s1 rfl (qm_x_if_eq_f ⟨by decide, by decide⟩ (by decide)) ?_
    refine qm_G.s1 rfl (qm_x_iload rfl) ?_
    refine qm_G.s1 rfl (qm_x_pushI (-1) rfl) ?_
    refine qm_y_icmp_eq rfl ⟨by omega, by omega⟩ ⟨by decide, by decide⟩ (fun c3 => ?_) (fun c3 => ?_)
    · refine qm_G.sp (lv1 := [(0, qm_R (some (0, 0, 0))), (1, qm_I (qm_i 0)), (2, qm_I (qm_i a2)), (3, qm_I (qm_i a3))]) rfl rfl (qm_x_iload rfl) ?_
      refine qm_G.cs rfl rfl rfl ?_
      refine qm_C.go (cd := qm_P73) (lv := [(0, qm_I (qm_i a2))]) rfl rfl ?_
      refine qm_G.s1 rfl (qm_x_iload rfl) ?_
      refine qm_G.s1 rfl (qm_x_pushI 0 rfl) ?_
      refine qm_G.s1 rfl (qm_x_pushI 3 rfl) ?_
      refine qm_G.cs rfl rfl rfl ?_
      refine qm_v_within10 ⟨by omega, by omega⟩ ⟨by decide, by decide⟩ ⟨by decide, by decide⟩ (fun c4 => ⟨_, rfl, ?_⟩) (fun c4 => ⟨_, rfl, ?_⟩)
      · refine qm_G.ret rfl rfl ⟨_, rfl, ?_⟩
        refine qm_G.s1 rfl (qm_x_if_ne_t ⟨by decide, by decide⟩ (by decide)) ?_
        refine qm_G.sp (lv1 := [(0, qm_R (some (0, 0, 0))), (1, qm_I (qm_i 0)), (2, qm_I (qm_i a2)), (3, qm_I (qm_i a3))]) rfl rfl (qm_x_aload rfl) ?_
        refine qm_G.s1 rfl (qm_x_getfR (q := (some (0, 1, 0))) (hS 0 rfl) (hR 0 0 1 rfl rfl)) ?_
        refine qm_G.s1 rfl (qm_x_getfR (q := (some (0, 2, 0))) (hS 1 rfl) (hR 1 0 2 rfl rfl)) ?_
        refine qm_G.s1 rfl (qm_x_iload rfl) ?_
        refine qm_G.s1 rfl (qm_x_iload rfl) ?_
        refine qm_G.cm rfl rfl (hS 2 rfl) rfl ?_
        refine qm_C.go (cd := qm_P145) (lv := [(0, qm_R (some (0, 2, 0))), (1, qm_I (qm_i 0)), (2, qm_I (qm_i a3))]) rfl rfl ?_
        refine qm_G.s1 rfl (qm_x_aload rfl) ?_
        refine qm_G.s1 rfl (qm_x_iload rfl) ?_
        refine qm_G.cm rfl rfl (hS 2 rfl) rfl ?_
        refine qm_C.go (cd := qm_P93) (lv := [(0, qm_R (some (0, 2, 0))), (1, qm_I (qm_i a3))]) rfl rfl ?_
        refine qm_G.s1 rfl (qm_x_iload rfl) ?_
        refine qm_G.s1 rfl (qm_x_pushI 0 rfl) ?_
        refine qm_G.s1 rfl (qm_x_aload rfl) ?_
        have f62_7 : 0 ≤ J 62 0 7 ∧ J 62 0 7 ≤ 8 := hI.mk.rrc
        have f2_3 : J 2 0 3 = J 62 0 7 := hI.mk.rc
        refine qm_G.s1 rfl (qm_x_getfI (v := (J 2 0 3)) (hS 2 rfl) rfl) ?_
        refine qm_G.s1 rfl (qm_x_pushI 1 rfl) ?_
        refine qm_G.s1 rfl (qm_x_isub) ?_
        refine qm_G.cs rfl rfl rfl ?_
        refine qm_v_within10_f ⟨by omega, by omega⟩ ⟨by decide, by decide⟩ ⟨by omega, by omega⟩ (by omega) ⟨_, rfl, ?_⟩
        refine qm_G.s1 rfl (qm_x_if_eq_t ⟨by decide, by decide⟩ (by decide)) ?_
        refine qm_G.sp (lv1 := []) rfl rfl (qm_x_push) ?_
        refine qm_G.ret rfl rfl ⟨_, rfl, ?_⟩
        refine qm_G.s1 rfl (qm_x_astore (lv' := [(3, qm_R (none)), (0, qm_R (some (0, 2, 0))), (1, qm_I (qm_i 0)), (2, qm_I (qm_i a3))]) rfl) ?_
        refine qm_G.s1 rfl (qm_x_aload rfl) ?_
        refine qm_G.s1 rfl (qm_x_ifnull0) ?_
        refine qm_G.sp (lv1 := []) rfl rfl (qm_x_pushI 1 rfl) ?_
        refine qm_G.ret rfl rfl ⟨_, rfl, ?_⟩
        refine qm_G.s1 rfl (qm_x_if_ne_t ⟨by decide, by decide⟩ (by decide)) ?_
        refine qm_G.sp (lv1 := [(0, qm_R (some (0, 0, 0))), (1, qm_I (qm_i 0)), (2, qm_I (qm_i a2)), (3, qm_I (qm_i a3))]) rfl rfl (qm_x_aload rfl) ?_
        refine qm_G.s1 rfl (qm_x_getfR (q := (some (0, 1, 0))) (hS 0 rfl) (hR 0 0 1 rfl rfl)) ?_
        refine qm_G.s1 rfl (qm_x_getfR (q := (some (0, 2, 0))) (hS 1 rfl) (hR 1 0 2 rfl rfl)) ?_
        refine qm_G.s1 rfl (qm_x_iload rfl) ?_
        refine qm_G.s1 rfl (qm_x_iload rfl) ?_
        refine qm_G.cm rfl rfl (hS 2 rfl) rfl ?_
        refine qm_C.go (cd := qm_P38) (lv := [(0, qm_R (some (0, 2, 0))), (1, qm_I (qm_i 0)), (2, qm_I (qm_i a2))]) rfl rfl ?_
        refine qm_G.s1 rfl (qm_x_aload rfl) ?_
        refine qm_G.s1 rfl (qm_x_getfR (q := (some (0, 8, 0))) (hS 2 rfl) (hR 2 4 8 rfl rfl)) ?_
        refine qm_G.s1 rfl (qm_x_iload rfl) ?_
        refine qm_G.s1 rfl (qm_x_aaldg (hS 8 rfl) rfl rfl (by decide) (by decide)) ?_
        refine qm_G.s1 rfl (qm_x_iload rfl) ?_
        have g6 : (J 8 1 (Int.toNat a2) = -1 ∧ J 62 0 (50 + (Int.toNat a2)) = -5) ∨ (J 8 1 (Int.toNat a2) = J 62 0 (50 + (Int.toNat a2)) ∧ 0 ≤ J 62 0 (50 + (Int.toNat a2)) ∧ J 62 0 (50 + (Int.toNat a2)) < J 62 0 7) := hI.mk.dek 0 (Int.toNat a2) (by decide) (by omega)
        refine qm_G.s1 rfl (qm_x_iald (v := (J 8 1 (Int.toNat a2))) (qm_arS hS rfl rfl) rfl (by omega) (by omega) (by decide) rfl) ?_
        refine qm_G.s1 rfl (qm_x_istore (lv' := [(3, qm_I (qm_i (J 8 1 (Int.toNat a2)))), (0, qm_R (some (0, 2, 0))), (1, qm_I (qm_i 0)), (2, qm_I (qm_i a2))]) rfl) ?_
        refine qm_G.s1 rfl (qm_x_iload rfl) ?_
        refine qm_G.s1 rfl (qm_x_pushI (-1) rfl) ?_
        refine qm_y_icmp_ne rfl ⟨by omega, by omega⟩ ⟨by decide, by decide⟩ (fun c7 => ?_) (fun c7 => ?_)
        · refine qm_G.sp (lv1 := [(3, qm_I (qm_i (J 8 1 (Int.toNat a2))))]) rfl rfl (qm_x_iload rfl) ?_
          refine qm_G.ret rfl rfl ⟨_, rfl, ?_⟩
          refine qm_G.s1 rfl (qm_x_istore (lv' := [(4, qm_I (qm_i (J 8 1 (Int.toNat a2)))), (0, qm_R (some (0, 0, 0))), (1, qm_I (qm_i 0)), (2, qm_I (qm_i a2)), (3, qm_I (qm_i a3))]) rfl) ?_
          refine qm_G.s1 rfl (qm_x_aload rfl) ?_
          refine qm_G.s1 rfl (qm_x_getfR (q := (some (0, 1, 0))) (hS 0 rfl) (hR 0 0 1 rfl rfl)) ?_
          refine qm_G.s1 rfl (qm_x_getfR (q := (some (0, 2, 0))) (hS 1 rfl) (hR 1 0 2 rfl rfl)) ?_
          refine qm_G.s1 rfl (qm_x_getfR (q := (some (0, 8, 0))) (hS 2 rfl) (hR 2 4 8 rfl rfl)) ?_
          refine qm_G.s1 rfl (qm_x_iload rfl) ?_
          refine qm_G.s1 rfl (qm_x_aaldg (hS 8 rfl) rfl rfl (by decide) (by decide)) ?_
          refine qm_G.s1 rfl (qm_x_iload rfl) ?_
          refine qm_G.s1 rfl (qm_x_iload rfl) ?_
          refine qm_G.s1 rfl (qm_x_iast (qm_arS hS rfl rfl) rfl (by omega) (by omega) (by decide)) ?_
          refine qm_G.s1 rfl (qm_x_iload rfl) ?_
          refine qm_G.ret rfl rfl ⟨_, rfl, ?_⟩
          refine qm_G.s1 rfl (qm_x_aload rfl) ?_
          refine qm_G.s1 rfl (qm_x_aload rfl) ?_
          refine qm_G.s1 rfl (qm_x_iload rfl) ?_
          refine qm_G.s1 rfl (qm_x_pushI 1 rfl) ?_
          refine qm_G.s1 rfl (qm_x_iadd) ?_
          refine qm_G.s1 rfl (qm_x_iald2v (v := 0) (by omega) (by omega) hX e1) ?_
          refine qm_G.s1 rfl (qm_x_aload rfl) ?_
          refine qm_G.s1 rfl (qm_x_iload rfl) ?_
          refine qm_G.s1 rfl (qm_x_pushI 2 rfl) ?_
          refine qm_G.s1 rfl (qm_x_iadd) ?_
          refine qm_G.s1 rfl (qm_x_iald2v (v := a2) (by omega) (by omega) hX e2) ?_
          refine qm_G.s1 rfl (qm_x_aload rfl) ?_
          refine qm_G.s1 rfl (qm_x_iload rfl) ?_
          refine qm_G.s1 rfl (qm_x_pushI 3 rfl) ?_
          refine qm_G.s1 rfl (qm_x_iadd) ?_
          refine qm_G.s1 rfl (qm_x_iald2v (v := a3) (by omega) (by omega) hX e3) ?_
          refine qm_G.cm rfl rfl (hS 61 rfl) rfl ?_
          refine qm_C.go (cd := qm_P140) (lv := [(0, qm_R (some (0, 61, 0))), (1, qm_I (qm_i 0)), (2, qm_I (qm_i a2)), (3, qm_I (qm_i a3))]) rfl rfl ?_
          refine qm_G.s1 rfl (qm_x_iload rfl) ?_
          refine qm_G.cs rfl rfl rfl ?_
          refine qm_C.go (cd := qm_P80) (lv := [(0, qm_I (qm_i 0))]) rfl rfl ?_
          refine qm_G.s1 rfl (qm_x_iload rfl) ?_
          refine qm_G.s1 rfl (qm_x_pushI 0 rfl) ?_
          refine qm_G.s1 rfl (qm_x_pushI 2 rfl) ?_
          refine qm_G.cs rfl rfl rfl ?_
          refine qm_v_within11_t ⟨by decide, by decide⟩ ⟨by decide, by decide⟩ ⟨by decide, by decide⟩ (by decide) ⟨_, rfl, ?_⟩
          refine qm_G.ret rfl rfl ⟨_, rfl, ?_⟩
          refine qm_G.s1 rfl (qm_x_if_eq_f ⟨by decide, by decide⟩ (by decide)) ?_
          refine qm_G.s1 rfl (qm_x_iload rfl) ?_
          refine qm_G.s1 rfl (qm_x_pushI (-1) rfl) ?_
          refine qm_G.s1 rfl (qm_x_icmp_eq_t ⟨by omega, by omega⟩ ⟨by decide, by decide⟩ (by omega)) ?_
          refine qm_G.sp (lv1 := [(0, qm_R (some (0, 61, 0))), (1, qm_I (qm_i 0)), (2, qm_I (qm_i a2)), (3, qm_I (qm_i a3))]) rfl rfl (qm_x_iload rfl) ?_
          refine qm_G.s1 rfl (qm_x_pushI 0 rfl) ?_
          refine qm_G.s1 rfl (qm_x_pushI 3 rfl) ?_
          refine qm_G.cs rfl rfl rfl ?_
          refine qm_v_within11_t ⟨by omega, by omega⟩ ⟨by decide, by decide⟩ ⟨by decide, by decide⟩ (by omega) ⟨_, rfl, ?_⟩
          refine qm_G.s1 rfl (qm_x_if_ne_t ⟨by decide, by decide⟩ (by decide)) ?_
          refine qm_G.sp (lv1 := [(0, qm_R (some (0, 61, 0))), (1, qm_I (qm_i 0)), (2, qm_I (qm_i a2)), (3, qm_I (qm_i a3))]) rfl rfl (qm_x_aload rfl) ?_
          refine qm_G.s1 rfl (qm_x_iload rfl) ?_
          refine qm_G.s1 rfl (qm_x_iload rfl) ?_
          refine qm_G.cm rfl rfl (hS 61 rfl) rfl ?_
          refine qm_C.go (cd := qm_P26) (lv := [(0, qm_R (some (0, 61, 0))), (1, qm_I (qm_i 0)), (2, qm_I (qm_i a3))]) rfl rfl ?_
          refine qm_G.s1 rfl (qm_x_iload rfl) ?_
          refine qm_G.s1 rfl (qm_x_if_lt_t ⟨by omega, by omega⟩ (by omega)) ?_
          refine qm_G.sp (lv1 := []) rfl rfl (qm_x_pushI 1 rfl) ?_
          refine qm_G.ret rfl rfl ⟨_, rfl, ?_⟩
          refine qm_G.s1 rfl (qm_x_if_ne_t ⟨by decide, by decide⟩ (by decide)) ?_
          refine qm_G.sp (lv1 := [(0, qm_R (some (0, 61, 0))), (1, qm_I (qm_i 0)), (2, qm_I (qm_i a2)), (3, qm_I (qm_i a3))]) rfl rfl (qm_x_aload rfl) ?_
          refine qm_G.s1 rfl (qm_x_pushI 50 rfl) ?_
          refine qm_G.s1 rfl (qm_x_pushI 4 rfl) ?_
          refine qm_G.s1 rfl (qm_x_iload rfl) ?_
          refine qm_G.s1 rfl (qm_x_imul) ?_
          refine qm_G.s1 rfl (qm_x_iadd) ?_
          refine qm_G.s1 rfl (qm_x_iload rfl) ?_
          refine qm_G.s1 rfl (qm_x_iadd) ?_
          refine qm_G.s1 rfl (qm_x_iload rfl) ?_
          refine qm_G.s1 rfl (qm_x_pushI (-1) rfl) ?_
          refine qm_G.s1 rfl (qm_x_icmp_ne_f ⟨by omega, by omega⟩ ⟨by decide, by decide⟩ (by omega)) ?_
          refine qm_G.s1 rfl (qm_x_pushI (-5) rfl) ?_
          refine qm_G.s1 rfl (qm_x_goto) ?_
          refine qm_G.cm rfl rfl (hS 61 rfl) rfl ?_
          refine qm_C.go (cd := qm_P22) (lv := [(0, qm_R (some (0, 61, 0))), (1, qm_I (qm_i ((50 + (4 * 0)) + a2))), (2, qm_I (qm_i (-5)))]) rfl rfl ?_
          refine qm_G.s1 rfl (qm_x_aload rfl) ?_
          refine qm_G.s1 rfl (qm_x_getfR (q := (some (0, 62, 0))) (hS 61 rfl) (hR 61 0 62 rfl rfl)) ?_
          refine qm_G.s1 rfl (qm_x_iload rfl) ?_
          refine qm_G.s1 rfl (qm_x_iald (v := (J 62 0 (50 + (Int.toNat a2)))) (qm_arS hS rfl rfl) rfl (by omega) (by omega) (by decide) (congrArg (J 62 0) (by omega))) ?_
          refine qm_G.s1 rfl (qm_x_istore (lv' := [(3, qm_I (qm_i (J 62 0 (50 + (Int.toNat a2))))), (0, qm_R (some (0, 61, 0))), (1, qm_I (qm_i ((50 + (4 * 0)) + a2))), (2, qm_I (qm_i (-5)))]) rfl) ?_
          refine qm_G.s1 rfl (qm_x_aload rfl) ?_
          refine qm_G.s1 rfl (qm_x_getfR (q := (some (0, 62, 0))) (hS 61 rfl) (hR 61 0 62 rfl rfl)) ?_
          refine qm_G.s1 rfl (qm_x_iload rfl) ?_
          refine qm_G.s1 rfl (qm_x_iload rfl) ?_
          refine qm_G.s1 rfl (qm_x_iast (qm_arS hS rfl rfl) rfl (by omega) (by omega) (by decide)) ?_
          refine qm_G.s1 rfl (qm_x_iload rfl) ?_
          refine qm_G.ret rfl rfl ⟨_, rfl, ?_⟩
          refine qm_G.ret rfl rfl ⟨_, rfl, ?_⟩
          refine qm_G.s1 rfl (qm_x_icmp_eq_t ⟨by omega, by omega⟩ ⟨by omega, by omega⟩ (by omega)) ?_
          rw [show (Int.toNat ((50 + (4 * 0)) + a2)) = 50 + (Int.toNat a2) by omega]
          exact ih _ _ _ _ _ _ (qm_U_dek0 (by omega) (by omega) hI)
        · refine qm_G.s1 rfl (qm_x_pushI (-5) rfl) ?_
          refine qm_G.s1 rfl (qm_x_goto) ?_
          refine qm_G.ret rfl rfl ⟨_, rfl, ?_⟩
          refine qm_G.s1 rfl (qm_x_istore (lv' := [(4, qm_I (qm_i (-5))), (0, qm_R (some (0, 0, 0))), (1, qm_I (qm_i 0)), (2, qm_I (qm_i a2)), (3, qm_I (qm_i a3))]) rfl) ?_
          refine qm_G.s1 rfl (qm_x_aload rfl) ?_
          refine qm_G.s1 rfl (qm_x_getfR (q := (some (0, 1, 0))) (hS 0 rfl) (hR 0 0 1 rfl rfl)) ?_
          refine qm_G.s1 rfl (qm_x_getfR (q := (some (0, 2, 0))) (hS 1 rfl) (hR 1 0 2 rfl rfl)) ?_
          refine qm_G.s1 rfl (qm_x_getfR (q := (some (0, 8, 0))) (hS 2 rfl) (hR 2 4 8 rfl rfl)) ?_
          refine qm_G.s1 rfl (qm_x_iload rfl) ?_
          refine qm_G.s1 rfl (qm_x_aaldg (hS 8 rfl) rfl rfl (by decide) (by decide)) ?_
          refine qm_G.s1 rfl (qm_x_iload rfl) ?_
          refine qm_G.s1 rfl (qm_x_iload rfl) ?_
          refine qm_G.s1 rfl (qm_x_iast (qm_arS hS rfl rfl) rfl (by omega) (by omega) (by decide)) ?_
          refine qm_G.s1 rfl (qm_x_iload rfl) ?_
          refine qm_G.ret rfl rfl ⟨_, rfl, ?_⟩
          refine qm_G.s1 rfl (qm_x_aload rfl) ?_
          refine qm_G.s1 rfl (qm_x_aload rfl) ?_
          refine qm_G.s1 rfl (qm_x_iload rfl) ?_
          refine qm_G.s1 rfl (qm_x_pushI 1 rfl) ?_
          refine qm_G.s1 rfl (qm_x_iadd) ?_
          refine qm_G.s1 rfl (qm_x_iald2v (v := 0) (by omega) (by omega) hX e1) ?_
          refine qm_G.s1 rfl (qm_x_aload rfl) ?_
          refine qm_G.s1 rfl (qm_x_iload rfl) ?_
          refine qm_G.s1 rfl (qm_x_pushI 2 rfl) ?_
          refine qm_G.s1 rfl (qm_x_iadd) ?_
          refine qm_G.s1 rfl (qm_x_iald2v (v := a2) (by omega) (by omega) hX e2) ?_
          refine qm_G.s1 rfl (qm_x_aload rfl) ?_
          refine qm_G.s1 rfl (qm_x_iload rfl) ?_
          refine qm_G.s1 rfl (qm_x_pushI 3 rfl) ?_
          refine qm_G.s1 rfl (qm_x_iadd) ?_
          refine qm_G.s1 rfl (qm_x_iald2v (v := a3) (by omega) (by omega) hX e3) ?_
          refine qm_G.cm rfl rfl (hS 61 rfl) rfl ?_
          refine qm_C.go (cd := qm_P140) (lv := [(0, qm_R (some (0, 61, 0))), (1, qm_I (qm_i 0)), (2, qm_I (qm_i a2)), (3, qm_I (qm_i a3))]) rfl rfl ?_
          refine qm_G.s1 rfl (qm_x_iload rfl) ?_
          refine qm_G.cs rfl rfl rfl ?_
          refine qm_C.go (cd := qm_P80) (lv := [(0, qm_I (qm_i 0))]) rfl rfl ?_
          refine qm_G.s1 rfl (qm_x_iload rfl) ?_
          refine qm_G.s1 rfl (qm_x_pushI 0 rfl) ?_
          refine qm_G.s1 rfl (qm_x_pushI 2 rfl) ?_
          refine qm_G.cs rfl rfl rfl ?_
          refine qm_v_within11_t ⟨by decide, by decide⟩ ⟨by decide, by decide⟩ ⟨by decide, by decide⟩ (by decide) ⟨_, rfl, ?_⟩
          refine qm_G.ret rfl rfl ⟨_, rfl, ?_⟩
          refine qm_G.s1 rfl (qm_x_if_eq_f ⟨by decide, by decide⟩ (by decide)) ?_
          refine qm_G.s1 rfl (qm_x_iload rfl) ?_
          refine qm_G.s1 rfl (qm_x_pushI (-1) rfl) ?_
          refine qm_G.s1 rfl (qm_x_icmp_eq_t ⟨by omega, by omega⟩ ⟨by decide, by decide⟩ (by omega)) ?_
          refine qm_G.sp (lv1 := [(0, qm_R (some (0, 61, 0))), (1, qm_I (qm_i 0)), (2, qm_I (qm_i a2)), (3, qm_I (qm_i a3))]) rfl rfl (qm_x_iload rfl) ?_
          refine qm_G.s1 rfl (qm_x_pushI 0 rfl) ?_
          refine qm_G.s1 rfl (qm_x_pushI 3 rfl) ?_
          refine qm_G.cs rfl rfl rfl ?_
          refine qm_v_within11_t ⟨by omega, by omega⟩ ⟨by decide, by decide⟩ ⟨by decide, by decide⟩ (by omega) ⟨_, rfl, ?_⟩
          refine qm_G.s1 rfl (qm_x_if_ne_t ⟨by decide, by decide⟩ (by decide)) ?_
          refine qm_G.sp (lv1 := [(0, qm_R (some (0, 61, 0))), (1, qm_I (qm_i 0)), (2, qm_I (qm_i a2)), (3, qm_I (qm_i a3))]) rfl rfl (qm_x_aload rfl) ?_
          refine qm_G.s1 rfl (qm_x_iload rfl) ?_
          refine qm_G.s1 rfl (qm_x_iload rfl) ?_
          refine qm_G.cm rfl rfl (hS 61 rfl) rfl ?_
          refine qm_C.go (cd := qm_P26) (lv := [(0, qm_R (some (0, 61, 0))), (1, qm_I (qm_i 0)), (2, qm_I (qm_i a3))]) rfl rfl ?_
          refine qm_G.s1 rfl (qm_x_iload rfl) ?_
          refine qm_G.s1 rfl (qm_x_if_lt_t ⟨by omega, by omega⟩ (by omega)) ?_
          refine qm_G.sp (lv1 := []) rfl rfl (qm_x_pushI 1 rfl) ?_
          refine qm_G.ret rfl rfl ⟨_, rfl, ?_⟩
          refine qm_G.s1 rfl (qm_x_if_ne_t ⟨by decide, by decide⟩ (by decide)) ?_
          refine qm_G.sp (lv1 := [(0, qm_R (some (0, 61, 0))), (1, qm_I (qm_i 0)), (2, qm_I (qm_i a2)), (3, qm_I (qm_i a3))]) rfl rfl (qm_x_aload rfl) ?_
          refine qm_G.s1 rfl (qm_x_pushI 50 rfl) ?_
          refine qm_G.s1 rfl (qm_x_pushI 4 rfl) ?_
          refine qm_G.s1 rfl (qm_x_iload rfl) ?_
          refine qm_G.s1 rfl (qm_x_imul) ?_
          refine qm_G.s1 rfl (qm_x_iadd) ?_
          refine qm_G.s1 rfl (qm_x_iload rfl) ?_
          refine qm_G.s1 rfl (qm_x_iadd) ?_
          refine qm_G.s1 rfl (qm_x_iload rfl) ?_
          refine qm_G.s1 rfl (qm_x_pushI (-1) rfl) ?_
          refine qm_G.s1 rfl (qm_x_icmp_ne_f ⟨by omega, by omega⟩ ⟨by decide, by decide⟩ (by omega)) ?_
          refine qm_G.s1 rfl (qm_x_pushI (-5) rfl) ?_
          refine qm_G.s1 rfl (qm_x_goto) ?_
          refine qm_G.cm rfl rfl (hS 61 rfl) rfl ?_
          refine qm_C.go (cd := qm_P22) (lv := [(0, qm_R (some (0, 61, 0))), (1, qm_I (qm_i ((50 + (4 * 0)) + a2))), (2, qm_I (qm_i (-5)))]) rfl rfl ?_
          refine qm_G.s1 rfl (qm_x_aload rfl) ?_
          refine qm_G.s1 rfl (qm_x_getfR (q := (some (0, 62, 0))) (hS 61 rfl) (hR 61 0 62 rfl rfl)) ?_
          refine qm_G.s1 rfl (qm_x_iload rfl) ?_
          refine qm_G.s1 rfl (qm_x_iald (v := (J 62 0 (50 + (Int.toNat a2)))) (qm_arS hS rfl rfl) rfl (by omega) (by omega) (by decide) (congrArg (J 62 0) (by omega))) ?_
          refine qm_G.s1 rfl (qm_x_istore (lv' := [(3, qm_I (qm_i (J 62 0 (50 + (Int.toNat a2))))), (0, qm_R (some (0, 61, 0))), (1, qm_I (qm_i ((50 + (4 * 0)) + a2))), (2, qm_I (qm_i (-5)))]) rfl) ?_
          refine qm_G.s1 rfl (qm_x_aload rfl) ?_
          refine qm_G.s1 rfl (qm_x_getfR (q := (some (0, 62, 0))) (hS 61 rfl) (hR 61 0 62 rfl rfl)) ?_
          refine qm_G.s1 rfl (qm_x_iload rfl) ?_
          refine qm_G.s1 rfl (qm_x_iload rfl) ?_
          refine qm_G.s1 rfl (qm_x_iast (qm_arS hS rfl rfl) rfl (by omega) (by omega) (by decide)) ?_
          refine qm_G.s1 rfl (qm_x_iload rfl) ?_
          refine qm_G.ret rfl rfl ⟨_, rfl, ?_⟩
          refine qm_G.ret rfl rfl ⟨_, rfl, ?_⟩
          refine qm_G.s1 rfl (qm_x_icmp_eq_t ⟨by decide, by decide⟩ ⟨by omega, by omega⟩ (by omega)) ?_
          rw [show (Int.toNat ((50 + (4 * 0)) + a2)) = 50 + (Int.toNat a2) by omega]
          exact ih _ _ _ _ _ _ (qm_U_dek0 (by omega) (by omega) hI)
      · refine qm_G.ret rfl rfl ⟨_, rfl, ?_⟩
        refine qm_G.s1 rfl (qm_x_if_ne_f ⟨by decide, by decide⟩ (by decide)) ?_
        refine qm_G.s1 rfl (qm_x_pushI (-13) rfl) ?_
        refine qm_G.ret rfl rfl ⟨_, rfl, ?_⟩
        refine qm_G.s1 rfl (qm_x_aload rfl) ?_
        refine qm_G.s1 rfl (qm_x_aload rfl) ?_
        refine qm_G.s1 rfl (qm_x_iload rfl) ?_
        refine qm_G.s1 rfl (qm_x_pushI 1 rfl) ?_
        refine qm_G.s1 rfl (qm_x_iadd) ?_
        refine qm_G.s1 rfl (qm_x_iald2v (v := 0) (by omega) (by omega) hX e1) ?_
        refine qm_G.s1 rfl (qm_x_aload rfl) ?_
        refine qm_G.s1 rfl (qm_x_iload rfl) ?_
        refine qm_G.s1 rfl (qm_x_pushI 2 rfl) ?_
        refine qm_G.s1 rfl (qm_x_iadd) ?_
        refine qm_G.s1 rfl (qm_x_iald2v (v := a2) (by omega) (by omega) hX e2) ?_
        refine qm_G.s1 rfl (qm_x_aload rfl) ?_
        refine qm_G.s1 rfl (qm_x_iload rfl) ?_
        refine qm_G.s1 rfl (qm_x_pushI 3 rfl) ?_
        refine qm_G.s1 rfl (qm_x_iadd) ?_
        refine qm_G.s1 rfl (qm_x_iald2v (v := a3) (by omega) (by omega) hX e3) ?_
        refine qm_G.cm rfl rfl (hS 61 rfl) rfl ?_
        refine qm_C.go (cd := qm_P140) (lv := [(0, qm_R (some (0, 61, 0))), (1, qm_I (qm_i 0)), (2, qm_I (qm_i a2)), (3, qm_I (qm_i a3))]) rfl rfl ?_
        refine qm_G.s1 rfl (qm_x_iload rfl) ?_
        refine qm_G.cs rfl rfl rfl ?_
        refine qm_C.go (cd := qm_P80) (lv := [(0, qm_I (qm_i 0))]) rfl rfl ?_
        refine qm_G.s1 rfl (qm_x_iload rfl) ?_
        refine qm_G.s1 rfl (qm_x_pushI 0 rfl) ?_
        refine qm_G.s1 rfl (qm_x_pushI 2 rfl) ?_
        refine qm_G.cs rfl rfl rfl ?_
        refine qm_v_within11_t ⟨by decide, by decide⟩ ⟨by decide, by decide⟩ ⟨by decide, by decide⟩ (by decide) ⟨_, rfl, ?_⟩
        refine qm_G.ret rfl rfl ⟨_, rfl, ?_⟩
        refine qm_G.s1 rfl (qm_x_if_eq_f ⟨by decide, by decide⟩ (by decide)) ?_
        refine qm_G.s1 rfl (qm_x_iload rfl) ?_
        refine qm_G.s1 rfl (qm_x_pushI (-1) rfl) ?_
        refine qm_G.s1 rfl (qm_x_icmp_eq_t ⟨by omega, by omega⟩ ⟨by decide, by decide⟩ (by omega)) ?_
        refine qm_G.sp (lv1 := [(0, qm_R (some (0, 61, 0))), (1, qm_I (qm_i 0)), (2, qm_I (qm_i a2)), (3, qm_I (qm_i a3))]) rfl rfl (qm_x_iload rfl) ?_
        refine qm_G.s1 rfl (qm_x_pushI 0 rfl) ?_
        refine qm_G.s1 rfl (qm_x_pushI 3 rfl) ?_
        refine qm_G.cs rfl rfl rfl ?_
        refine qm_v_within11_f ⟨by omega, by omega⟩ ⟨by decide, by decide⟩ ⟨by decide, by decide⟩ (by omega) ⟨_, rfl, ?_⟩
        refine qm_G.s1 rfl (qm_x_if_ne_f ⟨by decide, by decide⟩ (by decide)) ?_
        refine qm_G.s1 rfl (qm_x_pushI (-13) rfl) ?_
        refine qm_G.ret rfl rfl ⟨_, rfl, ?_⟩
        refine qm_G.s1 rfl (qm_x_icmp_eq_t ⟨by decide, by decide⟩ ⟨by decide, by decide⟩ (by decide)) ?_
        exact ih _ _ _ _ _ _ hI.next
    · refine qm_G.s1 rfl (qm_x_aload rfl) ?_
      refine qm_G.s1 rfl (qm_x_getfR (q := (some (0, 1, 0))) (hS 0 rfl) (hR 0 0 1 rfl rfl)) ?_
      refine qm_G.s1 rfl (qm_x_getfR (q := (some (0, 2, 0))) (hS 1 rfl) (hR 1 0 2 rfl rfl)) ?_
      refine qm_G.s1 rfl (qm_x_iload rfl) ?_
      refine qm_G.cm rfl rfl (hS 2 rfl) rfl ?_
      refine qm_C.go (cd := qm_P93) (lv := [(0, qm_R (some (0, 2, 0))), (1, qm_I (qm_i a3))]) rfl rfl ?_
      refine qm_G.s1 rfl (qm_x_iload rfl) ?_
      refine qm_G.s1 rfl (qm_x_pushI 0 rfl) ?_
      refine qm_G.s1 rfl (qm_x_aload rfl) ?_
      have f62_7 : 0 ≤ J 62 0 7 ∧ J 62 0 7 ≤ 8 := hI.mk.rrc
      have f2_3 : J 2 0 3 = J 62 0 7 := hI.mk.rc
      refine qm_G.s1 rfl (qm_x_getfI (v := (J 2 0 3)) (hS 2 rfl) rfl) ?_
      refine qm_G.s1 rfl (qm_x_pushI 1 rfl) ?_
      refine qm_G.s1 rfl (qm_x_isub) ?_
      refine qm_G.cs rfl rfl rfl ?_
      refine qm_v_within10 ⟨by omega, by omega⟩ ⟨by decide, by decide⟩ ⟨by omega, by omega⟩ (fun c14 => ⟨_, rfl, ?_⟩) (fun c14 => ⟨_, rfl, ?_⟩)
      · refine qm_G.s1 rfl (qm_x_if_eq_f ⟨by decide, by decide⟩ (by decide)) ?_
        refine qm_G.s1 rfl (qm_x_aload rfl) ?_
        refine qm_G.s1 rfl (qm_x_getfR (q := (some (0, 7, 0))) (hS 2 rfl) (hR 2 2 7 rfl rfl)) ?_
        refine qm_G.s1 rfl (qm_x_iload rfl) ?_
        obtain ⟨q15, g16r, g16h, g16s, g16a, g16b, g16c, g16x, g16y, g16z⟩ := hI.mk.riv (Int.toNat a3) (by omega) (by omega)
        refine qm_G.s1 rfl (qm_x_aaldr (q := (some (0, q15, 0))) (hS 7 rfl) rfl rfl (by omega) (by omega) g16r) ?_
        refine qm_G.s1 rfl (qm_x_goto) ?_
        refine qm_G.ret rfl rfl ⟨_, rfl, ?_⟩
        refine qm_G.s1 rfl (qm_x_ifnonnull1) ?_
        refine qm_G.sp (lv1 := [(0, qm_R (some (0, 0, 0))), (1, qm_I (qm_i 0)), (2, qm_I (qm_i a2)), (3, qm_I (qm_i a3))]) rfl rfl (qm_x_iload rfl) ?_
        refine qm_G.cs rfl rfl rfl ?_
        refine qm_C.go (cd := qm_P73) (lv := [(0, qm_I (qm_i a2))]) rfl rfl ?_
        refine qm_G.s1 rfl (qm_x_iload rfl) ?_
        refine qm_G.s1 rfl (qm_x_pushI 0 rfl) ?_
        refine qm_G.s1 rfl (qm_x_pushI 3 rfl) ?_
        refine qm_G.cs rfl rfl rfl ?_
        refine qm_v_within10 ⟨by omega, by omega⟩ ⟨by decide, by decide⟩ ⟨by decide, by decide⟩ (fun c17 => ⟨_, rfl, ?_⟩) (fun c17 => ⟨_, rfl, ?_⟩)
        · refine qm_G.ret rfl rfl ⟨_, rfl, ?_⟩
          refine qm_G.s1 rfl (qm_x_if_ne_t ⟨by decide, by decide⟩ (by decide)) ?_
          refine qm_G.sp (lv1 := [(0, qm_R (some (0, 0, 0))), (1, qm_I (qm_i 0)), (2, qm_I (qm_i a2)), (3, qm_I (qm_i a3))]) rfl rfl (qm_x_aload rfl) ?_
          refine qm_G.s1 rfl (qm_x_getfR (q := (some (0, 1, 0))) (hS 0 rfl) (hR 0 0 1 rfl rfl)) ?_
          refine qm_G.s1 rfl (qm_x_getfR (q := (some (0, 2, 0))) (hS 1 rfl) (hR 1 0 2 rfl rfl)) ?_
          refine qm_G.s1 rfl (qm_x_iload rfl) ?_
          refine qm_G.s1 rfl (qm_x_iload rfl) ?_
          refine qm_G.cm rfl rfl (hS 2 rfl) rfl ?_
          refine qm_C.go (cd := qm_P145) (lv := [(0, qm_R (some (0, 2, 0))), (1, qm_I (qm_i 0)), (2, qm_I (qm_i a3))]) rfl rfl ?_
          refine qm_G.s1 rfl (qm_x_aload rfl) ?_
          refine qm_G.s1 rfl (qm_x_iload rfl) ?_
          refine qm_G.cm rfl rfl (hS 2 rfl) rfl ?_
          refine qm_C.go (cd := qm_P93) (lv := [(0, qm_R (some (0, 2, 0))), (1, qm_I (qm_i a3))]) rfl rfl ?_
          refine qm_G.s1 rfl (qm_x_iload rfl) ?_
          refine qm_G.s1 rfl (qm_x_pushI 0 rfl) ?_
          refine qm_G.s1 rfl (qm_x_aload rfl) ?_
          refine qm_G.s1 rfl (qm_x_getfI (v := (J 2 0 3)) (hS 2 rfl) rfl) ?_
          refine qm_G.s1 rfl (qm_x_pushI 1 rfl) ?_
          refine qm_G.s1 rfl (qm_x_isub) ?_
          refine qm_G.cs rfl rfl rfl ?_
          refine qm_v_within10_t ⟨by omega, by omega⟩ ⟨by decide, by decide⟩ ⟨by omega, by omega⟩ (by omega) ⟨_, rfl, ?_⟩
          refine qm_G.s1 rfl (qm_x_if_eq_f ⟨by decide, by decide⟩ (by decide)) ?_
          refine qm_G.s1 rfl (qm_x_aload rfl) ?_
          refine qm_G.s1 rfl (qm_x_getfR (q := (some (0, 7, 0))) (hS 2 rfl) (hR 2 2 7 rfl rfl)) ?_
          refine qm_G.s1 rfl (qm_x_iload rfl) ?_
          obtain ⟨q19, g20r, g20h, g20s, g20a, g20b, g20c, g20x, g20y, g20z⟩ := hI.mk.riv (Int.toNat a3) (by omega) (by omega)
          refine qm_G.s1 rfl (qm_x_aaldr (q := (some (0, q19, 0))) (hS 7 rfl) rfl rfl (by omega) (by omega) g20r) ?_
          refine qm_G.s1 rfl (qm_x_goto) ?_
          refine qm_G.ret rfl rfl ⟨_, rfl, ?_⟩
          refine qm_G.s1 rfl (qm_x_astore (lv' := [(3, qm_R (some (0, q19, 0))), (0, qm_R (some (0, 2, 0))), (1, qm_I (qm_i 0)), (2, qm_I (qm_i a3))]) rfl) ?_
          refine qm_G.s1 rfl (qm_x_aload rfl) ?_
          refine qm_G.s1 rfl (qm_x_ifnull1) ?_
          refine qm_G.s1 rfl (qm_x_iload rfl) ?_
          refine qm_G.s1 rfl (qm_x_if_ne_f ⟨by decide, by decide⟩ (by decide)) ?_
          refine qm_G.sp (lv1 := []) rfl rfl (qm_x_pushI 1 rfl) ?_
          refine qm_G.ret rfl rfl ⟨_, rfl, ?_⟩
          refine qm_G.s1 rfl (qm_x_if_ne_t ⟨by decide, by decide⟩ (by decide)) ?_
          refine qm_G.sp (lv1 := [(0, qm_R (some (0, 0, 0))), (1, qm_I (qm_i 0)), (2, qm_I (qm_i a2)), (3, qm_I (qm_i a3))]) rfl rfl (qm_x_aload rfl) ?_
          refine qm_G.s1 rfl (qm_x_getfR (q := (some (0, 1, 0))) (hS 0 rfl) (hR 0 0 1 rfl rfl)) ?_
          refine qm_G.s1 rfl (qm_x_getfR (q := (some (0, 2, 0))) (hS 1 rfl) (hR 1 0 2 rfl rfl)) ?_
          refine qm_G.s1 rfl (qm_x_iload rfl) ?_
          refine qm_G.s1 rfl (qm_x_iload rfl) ?_
          refine qm_G.cm rfl rfl (hS 2 rfl) rfl ?_
          refine qm_C.go (cd := qm_P38) (lv := [(0, qm_R (some (0, 2, 0))), (1, qm_I (qm_i 0)), (2, qm_I (qm_i a2))]) rfl rfl ?_
          refine qm_G.s1 rfl (qm_x_aload rfl) ?_
          refine qm_G.s1 rfl (qm_x_getfR (q := (some (0, 8, 0))) (hS 2 rfl) (hR 2 4 8 rfl rfl)) ?_
          refine qm_G.s1 rfl (qm_x_iload rfl) ?_
          refine qm_G.s1 rfl (qm_x_aaldg (hS 8 rfl) rfl rfl (by decide) (by decide)) ?_
          refine qm_G.s1 rfl (qm_x_iload rfl) ?_
          have g21 : (J 8 1 (Int.toNat a2) = -1 ∧ J 62 0 (50 + (Int.toNat a2)) = -5) ∨ (J 8 1 (Int.toNat a2) = J 62 0 (50 + (Int.toNat a2)) ∧ 0 ≤ J 62 0 (50 + (Int.toNat a2)) ∧ J 62 0 (50 + (Int.toNat a2)) < J 62 0 7) := hI.mk.dek 0 (Int.toNat a2) (by decide) (by omega)
          refine qm_G.s1 rfl (qm_x_iald (v := (J 8 1 (Int.toNat a2))) (qm_arS hS rfl rfl) rfl (by omega) (by omega) (by decide) rfl) ?_
          refine qm_G.s1 rfl (qm_x_istore (lv' := [(3, qm_I (qm_i (J 8 1 (Int.toNat a2)))), (0, qm_R (some (0, 2, 0))), (1, qm_I (qm_i 0)), (2, qm_I (qm_i a2))]) rfl) ?_
          refine qm_G.s1 rfl (qm_x_iload rfl) ?_
          refine qm_G.s1 rfl (qm_x_pushI (-1) rfl) ?_
          refine qm_y_icmp_ne rfl ⟨by omega, by omega⟩ ⟨by decide, by decide⟩ (fun c22 => ?_) (fun c22 => ?_)
          · refine qm_G.sp (lv1 := [(3, qm_I (qm_i (J 8 1 (Int.toNat a2))))]) rfl rfl (qm_x_iload rfl) ?_
            refine qm_G.ret rfl rfl ⟨_, rfl, ?_⟩
            refine qm_G.s1 rfl (qm_x_istore (lv' := [(4, qm_I (qm_i (J 8 1 (Int.toNat a2)))), (0, qm_R (some (0, 0, 0))), (1, qm_I (qm_i 0)), (2, qm_I (qm_i a2)), (3, qm_I (qm_i a3))]) rfl) ?_
            refine qm_G.s1 rfl (qm_x_aload rfl) ?_
            refine qm_G.s1 rfl (qm_x_getfR (q := (some (0, 1, 0))) (hS 0 rfl) (hR 0 0 1 rfl rfl)) ?_
            refine qm_G.s1 rfl (qm_x_getfR (q := (some (0, 2, 0))) (hS 1 rfl) (hR 1 0 2 rfl rfl)) ?_
            refine qm_G.s1 rfl (qm_x_getfR (q := (some (0, 8, 0))) (hS 2 rfl) (hR 2 4 8 rfl rfl)) ?_
            refine qm_G.s1 rfl (qm_x_iload rfl) ?_
            refine qm_G.s1 rfl (qm_x_aaldg (hS 8 rfl) rfl rfl (by decide) (by decide)) ?_
            refine qm_G.s1 rfl (qm_x_iload rfl) ?_
            refine qm_G.s1 rfl (qm_x_iload rfl) ?_
            refine qm_G.s1 rfl (qm_x_iast (qm_arS hS rfl rfl) rfl (by omega) (by omega) (by decide)) ?_
            refine qm_G.s1 rfl (qm_x_iload rfl) ?_
            refine qm_G.ret rfl rfl ⟨_, rfl, ?_⟩
            refine qm_G.s1 rfl (qm_x_aload rfl) ?_
            refine qm_G.s1 rfl (qm_x_aload rfl) ?_
            refine qm_G.s1 rfl (qm_x_iload rfl) ?_
            refine qm_G.s1 rfl (qm_x_pushI 1 rfl) ?_
            refine qm_G.s1 rfl (qm_x_iadd) ?_
            refine qm_G.s1 rfl (qm_x_iald2v (v := 0) (by omega) (by omega) hX e1) ?_
            refine qm_G.s1 rfl (qm_x_aload rfl) ?_
            refine qm_G.s1 rfl (qm_x_iload rfl) ?_
            refine qm_G.s1 rfl (qm_x_pushI 2 rfl) ?_
            refine qm_G.s1 rfl (qm_x_iadd) ?_
            refine qm_G.s1 rfl (qm_x_iald2v (v := a2) (by omega) (by omega) hX e2) ?_
            refine qm_G.s1 rfl (qm_x_aload rfl) ?_
            refine qm_G.s1 rfl (qm_x_iload rfl) ?_
            refine qm_G.s1 rfl (qm_x_pushI 3 rfl) ?_
            refine qm_G.s1 rfl (qm_x_iadd) ?_
            refine qm_G.s1 rfl (qm_x_iald2v (v := a3) (by omega) (by omega) hX e3) ?_
            refine qm_G.cm rfl rfl (hS 61 rfl) rfl ?_
            refine qm_C.go (cd := qm_P140) (lv := [(0, qm_R (some (0, 61, 0))), (1, qm_I (qm_i 0)), (2, qm_I (qm_i a2)), (3, qm_I (qm_i a3))]) rfl rfl ?_
            refine qm_G.s1 rfl (qm_x_iload rfl) ?_
            refine qm_G.cs rfl rfl rfl ?_
            refine qm_C.go (cd := qm_P80) (lv := [(0, qm_I (qm_i 0))]) rfl rfl ?_
            refine qm_G.s1 rfl (qm_x_iload rfl) ?_
            refine qm_G.s1 rfl (qm_x_pushI 0 rfl) ?_
            refine qm_G.s1 rfl (qm_x_pushI 2 rfl) ?_
            refine qm_G.cs rfl rfl rfl ?_
            refine qm_v_within11_t ⟨by decide, by decide⟩ ⟨by decide, by decide⟩ ⟨by decide, by decide⟩ (by decide) ⟨_, rfl, ?_⟩
            refine qm_G.ret rfl rfl ⟨_, rfl, ?_⟩
            refine qm_G.s1 rfl (qm_x_if_eq_f ⟨by decide, by decide⟩ (by decide)) ?_
            refine qm_G.s1 rfl (qm_x_iload rfl) ?_
            refine qm_G.s1 rfl (qm_x_pushI (-1) rfl) ?_
            refine qm_G.s1 rfl (qm_x_icmp_eq_f ⟨by omega, by omega⟩ ⟨by decide, by decide⟩ (by omega)) ?_
            refine qm_G.s1 rfl (qm_x_aload rfl) ?_
            refine qm_G.s1 rfl (qm_x_iload rfl) ?_
            refine qm_G.cm rfl rfl (hS 61 rfl) rfl ?_
            refine qm_C.go (cd := qm_P82) (lv := [(0, qm_R (some (0, 61, 0))), (1, qm_I (qm_i a3))]) rfl rfl ?_
            refine qm_G.s1 rfl (qm_x_iload rfl) ?_
            refine qm_G.s1 rfl (qm_x_pushI 0 rfl) ?_
            refine qm_G.s1 rfl (qm_x_aload rfl) ?_
            refine qm_G.s1 rfl (qm_x_getfR (q := (some (0, 62, 0))) (hS 61 rfl) (hR 61 0 62 rfl rfl)) ?_
            refine qm_G.s1 rfl (qm_x_pushI 7 rfl) ?_
            refine qm_G.s1 rfl (qm_x_iald (v := (J 62 0 7)) (qm_arS hS rfl rfl) rfl (by decide) (by decide) (by decide) rfl) ?_
            refine qm_G.s1 rfl (qm_x_pushI 1 rfl) ?_
            refine qm_G.s1 rfl (qm_x_isub) ?_
            refine qm_G.cs rfl rfl rfl ?_
            refine qm_v_within11_t ⟨by omega, by omega⟩ ⟨by decide, by decide⟩ ⟨by omega, by omega⟩ (by omega) ⟨_, rfl, ?_⟩
            refine qm_G.ret rfl rfl ⟨_, rfl, ?_⟩
            refine qm_G.s1 rfl (qm_x_if_ne_t ⟨by decide, by decide⟩ (by decide)) ?_
            refine qm_G.sp (lv1 := [(0, qm_R (some (0, 61, 0))), (1, qm_I (qm_i 0)), (2, qm_I (qm_i a2)), (3, qm_I (qm_i a3))]) rfl rfl (qm_x_iload rfl) ?_
            refine qm_G.s1 rfl (qm_x_pushI 0 rfl) ?_
            refine qm_G.s1 rfl (qm_x_pushI 3 rfl) ?_
            refine qm_G.cs rfl rfl rfl ?_
            refine qm_v_within11_t ⟨by omega, by omega⟩ ⟨by decide, by decide⟩ ⟨by decide, by decide⟩ (by omega) ⟨_, rfl, ?_⟩
            refine qm_G.s1 rfl (qm_x_if_ne_t ⟨by decide, by decide⟩ (by decide)) ?_
            refine qm_G.sp (lv1 := [(0, qm_R (some (0, 61, 0))), (1, qm_I (qm_i 0)), (2, qm_I (qm_i a2)), (3, qm_I (qm_i a3))]) rfl rfl (qm_x_aload rfl) ?_
            refine qm_G.s1 rfl (qm_x_iload rfl) ?_
            refine qm_G.s1 rfl (qm_x_iload rfl) ?_
            refine qm_G.cm rfl rfl (hS 61 rfl) rfl ?_
            refine qm_C.go (cd := qm_P26) (lv := [(0, qm_R (some (0, 61, 0))), (1, qm_I (qm_i 0)), (2, qm_I (qm_i a3))]) rfl rfl ?_
            refine qm_G.s1 rfl (qm_x_iload rfl) ?_
            refine qm_G.s1 rfl (qm_x_if_lt_f ⟨by omega, by omega⟩ (by omega)) ?_
            refine qm_G.s1 rfl (qm_x_iload rfl) ?_
            refine qm_G.s1 rfl (qm_x_if_ne_f ⟨by decide, by decide⟩ (by decide)) ?_
            refine qm_G.sp (lv1 := []) rfl rfl (qm_x_pushI 1 rfl) ?_
            refine qm_G.ret rfl rfl ⟨_, rfl, ?_⟩
            refine qm_G.s1 rfl (qm_x_if_ne_t ⟨by decide, by decide⟩ (by decide)) ?_
            refine qm_G.sp (lv1 := [(0, qm_R (some (0, 61, 0))), (1, qm_I (qm_i 0)), (2, qm_I (qm_i a2)), (3, qm_I (qm_i a3))]) rfl rfl (qm_x_aload rfl) ?_
            refine qm_G.s1 rfl (qm_x_pushI 50 rfl) ?_
            refine qm_G.s1 rfl (qm_x_pushI 4 rfl) ?_
            refine qm_G.s1 rfl (qm_x_iload rfl) ?_
            refine qm_G.s1 rfl (qm_x_imul) ?_
            refine qm_G.s1 rfl (qm_x_iadd) ?_
            refine qm_G.s1 rfl (qm_x_iload rfl) ?_
            refine qm_G.s1 rfl (qm_x_iadd) ?_
            refine qm_G.s1 rfl (qm_x_iload rfl) ?_
            refine qm_G.s1 rfl (qm_x_pushI (-1) rfl) ?_
            refine qm_G.s1 rfl (qm_x_icmp_ne_t ⟨by omega, by omega⟩ ⟨by decide, by decide⟩ (by omega)) ?_
            refine qm_G.sp (lv1 := [(3, qm_I (qm_i a3))]) rfl rfl (qm_x_iload rfl) ?_
            refine qm_G.cm rfl rfl (hS 61 rfl) rfl ?_
            refine qm_C.go (cd := qm_P22) (lv := [(0, qm_R (some (0, 61, 0))), (1, qm_I (qm_i ((50 + (4 * 0)) + a2))), (2, qm_I (qm_i a3))]) rfl rfl ?_
            refine qm_G.s1 rfl (qm_x_aload rfl) ?_
            refine qm_G.s1 rfl (qm_x_getfR (q := (some (0, 62, 0))) (hS 61 rfl) (hR 61 0 62 rfl rfl)) ?_
            refine qm_G.s1 rfl (qm_x_iload rfl) ?_
            refine qm_G.s1 rfl (qm_x_iald (v := (J 62 0 (50 + (Int.toNat a2)))) (qm_arS hS rfl rfl) rfl (by omega) (by omega) (by decide) (congrArg (J 62 0) (by omega))) ?_
            refine qm_G.s1 rfl (qm_x_istore (lv' := [(3, qm_I (qm_i (J 62 0 (50 + (Int.toNat a2))))), (0, qm_R (some (0, 61, 0))), (1, qm_I (qm_i ((50 + (4 * 0)) + a2))), (2, qm_I (qm_i a3))]) rfl) ?_
            refine qm_G.s1 rfl (qm_x_aload rfl) ?_
            refine qm_G.s1 rfl (qm_x_getfR (q := (some (0, 62, 0))) (hS 61 rfl) (hR 61 0 62 rfl rfl)) ?_
            refine qm_G.s1 rfl (qm_x_iload rfl) ?_
            refine qm_G.s1 rfl (qm_x_iload rfl) ?_
            refine qm_G.s1 rfl (qm_x_iast (qm_arS hS rfl rfl) rfl (by omega) (by omega) (by decide)) ?_
            refine qm_G.s1 rfl (qm_x_iload rfl) ?_
            refine qm_G.ret rfl rfl ⟨_, rfl, ?_⟩
            refine qm_G.ret rfl rfl ⟨_, rfl, ?_⟩
            refine qm_G.s1 rfl (qm_x_icmp_eq_t ⟨by omega, by omega⟩ ⟨by omega, by omega⟩ (by omega)) ?_
            rw [show (Int.toNat ((50 + (4 * 0)) + a2)) = 50 + (Int.toNat a2) by omega]
            exact ih _ _ _ _ _ _ (qm_U_dek0 (by omega) (by omega) hI)
          · refine qm_G.s1 rfl (qm_x_pushI (-5) rfl) ?_
            refine qm_G.s1 rfl (qm_x_goto) ?_
            refine qm_G.ret rfl rfl ⟨_, rfl, ?_⟩
            refine qm_G.s1 rfl (qm_x_istore (lv' := [(4, qm_I (qm_i (-5))), (0, qm_R (some (0, 0, 0))), (1, qm_I (qm_i 0)), (2, qm_I (qm_i a2)), (3, qm_I (qm_i a3))]) rfl) ?_
            refine qm_G.s1 rfl (qm_x_aload rfl) ?_
            refine qm_G.s1 rfl (qm_x_getfR (q := (some (0, 1, 0))) (hS 0 rfl) (hR 0 0 1 rfl rfl)) ?_
            refine qm_G.s1 rfl (qm_x_getfR (q := (some (0, 2, 0))) (hS 1 rfl) (hR 1 0 2 rfl rfl)) ?_
            refine qm_G.s1 rfl (qm_x_getfR (q := (some (0, 8, 0))) (hS 2 rfl) (hR 2 4 8 rfl rfl)) ?_
            refine qm_G.s1 rfl (qm_x_iload rfl) ?_
            refine qm_G.s1 rfl (qm_x_aaldg (hS 8 rfl) rfl rfl (by decide) (by decide)) ?_
            refine qm_G.s1 rfl (qm_x_iload rfl) ?_
            refine qm_G.s1 rfl (qm_x_iload rfl) ?_
            refine qm_G.s1 rfl (qm_x_iast (qm_arS hS rfl rfl) rfl (by omega) (by omega) (by decide)) ?_
            refine qm_G.s1 rfl (qm_x_iload rfl) ?_
            refine qm_G.ret rfl rfl ⟨_, rfl, ?_⟩
            refine qm_G.s1 rfl (qm_x_aload rfl) ?_
            refine qm_G.s1 rfl (qm_x_aload rfl) ?_
            refine qm_G.s1 rfl (qm_x_iload rfl) ?_
            refine qm_G.s1 rfl (qm_x_pushI 1 rfl) ?_
            refine qm_G.s1 rfl (qm_x_iadd) ?_
            refine qm_G.s1 rfl (qm_x_iald2v (v := 0) (by omega) (by omega) hX e1) ?_
            refine qm_G.s1 rfl (qm_x_aload rfl) ?_
            refine qm_G.s1 rfl (qm_x_iload rfl) ?_
            refine qm_G.s1 rfl (qm_x_pushI 2 rfl) ?_
            refine qm_G.s1 rfl (qm_x_iadd) ?_
            refine qm_G.s1 rfl (qm_x_iald2v (v := a2) (by omega) (by omega) hX e2) ?_
            refine qm_G.s1 rfl (qm_x_aload rfl) ?_
            refine qm_G.s1 rfl (qm_x_iload rfl) ?_
            refine qm_G.s1 rfl (qm_x_pushI 3 rfl) ?_
            refine qm_G.s1 rfl (qm_x_iadd) ?_
            refine qm_G.s1 rfl (qm_x_iald2v (v := a3) (by omega) (by omega) hX e3) ?_
            refine qm_G.cm rfl rfl (hS 61 rfl) rfl ?_
            refine qm_C.go (cd := qm_P140) (lv := [(0, qm_R (some (0, 61, 0))), (1, qm_I (qm_i 0)), (2, qm_I (qm_i a2)), (3, qm_I (qm_i a3))]) rfl rfl ?_
            refine qm_G.s1 rfl (qm_x_iload rfl) ?_
            refine qm_G.cs rfl rfl rfl ?_
            refine qm_C.go (cd := qm_P80) (lv := [(0, qm_I (qm_i 0))]) rfl rfl ?_
            refine qm_G.s1 rfl (qm_x_iload rfl) ?_
            refine qm_G.s1 rfl (qm_x_pushI 0 rfl) ?_
            refine qm_G.s1 rfl (qm_x_pushI 2 rfl) ?_
            refine qm_G.cs rfl rfl rfl ?_
            refine qm_v_within11_t ⟨by decide, by decide⟩ ⟨by decide, by decide⟩ ⟨by decide, by decide⟩ (by decide) ⟨_, rfl, ?_⟩
            refine qm_G.ret rfl rfl ⟨_, rfl, ?_⟩
            refine qm_G.s1 rfl (qm_x_if_eq_f ⟨by decide, by decide⟩ (by decide)) ?_
            refine qm_G.s1 rfl (qm_x_iload rfl) ?_
            refine qm_G.s1 rfl (qm_x_pushI (-1) rfl) ?_
            refine qm_G.s1 rfl (qm_x_icmp_eq_f ⟨by omega, by omega⟩ ⟨by decide, by decide⟩ (by omega)) ?_
            refine qm_G.s1 rfl (qm_x_aload rfl) ?_
            refine qm_G.s1 rfl (qm_x_iload rfl) ?_
            refine qm_G.cm rfl rfl (hS 61 rfl) rfl ?_
            refine qm_C.go (cd := qm_P82) (lv := [(0, qm_R (some (0, 61, 0))), (1, qm_I (qm_i a3))]) rfl rfl ?_
            refine qm_G.s1 rfl (qm_x_iload rfl) ?_
            refine qm_G.s1 rfl (qm_x_pushI 0 rfl) ?_
            refine qm_G.s1 rfl (qm_x_aload rfl) ?_
            refine qm_G.s1 rfl (qm_x_getfR (q := (some (0, 62, 0))) (hS 61 rfl) (hR 61 0 62 rfl rfl)) ?_
            refine qm_G.s1 rfl (qm_x_pushI 7 rfl) ?_
            refine qm_G.s1 rfl (qm_x_iald (v := (J 62 0 7)) (qm_arS hS rfl rfl) rfl (by decide) (by decide) (by decide) rfl) ?_
            refine qm_G.s1 rfl (qm_x_pushI 1 rfl) ?_
            refine qm_G.s1 rfl (qm_x_isub) ?_
            refine qm_G.cs rfl rfl rfl ?_
            refine qm_v_within11_t ⟨by omega, by omega⟩ ⟨by decide, by decide⟩ ⟨by omega, by omega⟩ (by omega) ⟨_, rfl, ?_⟩
            refine qm_G.ret rfl rfl ⟨_, rfl, ?_⟩
            refine qm_G.s1 rfl (qm_x_if_ne_t ⟨by decide, by decide⟩ (by decide)) ?_
            refine qm_G.sp (lv1 := [(0, qm_R (some (0, 61, 0))), (1, qm_I (qm_i 0)), (2, qm_I (qm_i a2)), (3, qm_I (qm_i a3))]) rfl rfl (qm_x_iload rfl) ?_
            refine qm_G.s1 rfl (qm_x_pushI 0 rfl) ?_
            refine qm_G.s1 rfl (qm_x_pushI 3 rfl) ?_
            refine qm_G.cs rfl rfl rfl ?_
            refine qm_v_within11_t ⟨by omega, by omega⟩ ⟨by decide, by decide⟩ ⟨by decide, by decide⟩ (by omega) ⟨_, rfl, ?_⟩
            refine qm_G.s1 rfl (qm_x_if_ne_t ⟨by decide, by decide⟩ (by decide)) ?_
            refine qm_G.sp (lv1 := [(0, qm_R (some (0, 61, 0))), (1, qm_I (qm_i 0)), (2, qm_I (qm_i a2)), (3, qm_I (qm_i a3))]) rfl rfl (qm_x_aload rfl) ?_
            refine qm_G.s1 rfl (qm_x_iload rfl) ?_
            refine qm_G.s1 rfl (qm_x_iload rfl) ?_
            refine qm_G.cm rfl rfl (hS 61 rfl) rfl ?_
            refine qm_C.go (cd := qm_P26) (lv := [(0, qm_R (some (0, 61, 0))), (1, qm_I (qm_i 0)), (2, qm_I (qm_i a3))]) rfl rfl ?_
            refine qm_G.s1 rfl (qm_x_iload rfl) ?_
            refine qm_G.s1 rfl (qm_x_if_lt_f ⟨by omega, by omega⟩ (by omega)) ?_
            refine qm_G.s1 rfl (qm_x_iload rfl) ?_
            refine qm_G.s1 rfl (qm_x_if_ne_f ⟨by decide, by decide⟩ (by decide)) ?_
            refine qm_G.sp (lv1 := []) rfl rfl (qm_x_pushI 1 rfl) ?_
            refine qm_G.ret rfl rfl ⟨_, rfl, ?_⟩
            refine qm_G.s1 rfl (qm_x_if_ne_t ⟨by decide, by decide⟩ (by decide)) ?_
            refine qm_G.sp (lv1 := [(0, qm_R (some (0, 61, 0))), (1, qm_I (qm_i 0)), (2, qm_I (qm_i a2)), (3, qm_I (qm_i a3))]) rfl rfl (qm_x_aload rfl) ?_
            refine qm_G.s1 rfl (qm_x_pushI 50 rfl) ?_
            refine qm_G.s1 rfl (qm_x_pushI 4 rfl) ?_
            refine qm_G.s1 rfl (qm_x_iload rfl) ?_
            refine qm_G.s1 rfl (qm_x_imul) ?_
            refine qm_G.s1 rfl (qm_x_iadd) ?_
            refine qm_G.s1 rfl (qm_x_iload rfl) ?_
            refine qm_G.s1 rfl (qm_x_iadd) ?_
            refine qm_G.s1 rfl (qm_x_iload rfl) ?_
            refine qm_G.s1 rfl (qm_x_pushI (-1) rfl) ?_
            refine qm_G.s1 rfl (qm_x_icmp_ne_t ⟨by omega, by omega⟩ ⟨by decide, by decide⟩ (by omega)) ?_
            refine qm_G.sp (lv1 := [(3, qm_I (qm_i a3))]) rfl rfl (qm_x_iload rfl) ?_
            refine qm_G.cm rfl rfl (hS 61 rfl) rfl ?_
            refine qm_C.go (cd := qm_P22) (lv := [(0, qm_R (some (0, 61, 0))), (1, qm_I (qm_i ((50 + (4 * 0)) + a2))), (2, qm_I (qm_i a3))]) rfl rfl ?_
            refine qm_G.s1 rfl (qm_x_aload rfl) ?_
            refine qm_G.s1 rfl (qm_x_getfR (q := (some (0, 62, 0))) (hS 61 rfl) (hR 61 0 62 rfl rfl)) ?_
            refine qm_G.s1 rfl (qm_x_iload rfl) ?_
            refine qm_G.s1 rfl (qm_x_iald (v := (J 62 0 (50 + (Int.toNat a2)))) (qm_arS hS rfl rfl) rfl (by omega) (by omega) (by decide) (congrArg (J 62 0) (by omega))) ?_
            refine qm_G.s1 rfl (qm_x_istore (lv' := [(3, qm_I (qm_i (J 62 0 (50 + (Int.toNat a2))))), (0, qm_R (some (0, 61, 0))), (1, qm_I (qm_i ((50 + (4 * 0)) + a2))), (2, qm_I (qm_i a3))]) rfl) ?_
            refine qm_G.s1 rfl (qm_x_aload rfl) ?_
            refine qm_G.s1 rfl (qm_x_getfR (q := (some (0, 62, 0))) (hS 61 rfl) (hR 61 0 62 rfl rfl)) ?_
            refine qm_G.s1 rfl (qm_x_iload rfl) ?_
            refine qm_G.s1 rfl (qm_x_iload rfl) ?_
            refine qm_G.s1 rfl (qm_x_iast (qm_arS hS rfl rfl) rfl (by omega) (by omega) (by decide)) ?_
            refine qm_G.s1 rfl (qm_x_iload rfl) ?_
            refine qm_G.ret rfl rfl ⟨_, rfl, ?_⟩
            refine qm_G.ret rfl rfl ⟨_, rfl, ?_⟩
            refine qm_G.s1 rfl (qm_x_icmp_eq_t ⟨by decide, by decide⟩ ⟨by omega, by omega⟩ (by omega)) ?_
            rw [show (Int.toNat ((50 + (4 * 0)) + a2)) = 50 + (Int.toNat a2) by omega]
            exact ih _ _ _ _ _ _ (qm_U_dek0 (by omega) (by omega) hI)
        · refine qm_G.ret rfl rfl ⟨_, rfl, ?_⟩
          refine qm_G.s1 rfl (qm_x_if_ne_f ⟨by decide, by decide⟩ (by decide)) ?_
          refine qm_G.s1 rfl (qm_x_pushI (-13) rfl) ?_
          refine qm_G.ret rfl rfl ⟨_, rfl, ?_⟩
          refine qm_G.s1 rfl (qm_x_aload rfl) ?_
          refine qm_G.s1 rfl (qm_x_aload rfl) ?_
          refine qm_G.s1 rfl (qm_x_iload rfl) ?_
          refine qm_G.s1 rfl (qm_x_pushI 1 rfl) ?_
          refine qm_G.s1 rfl (qm_x_iadd) ?_
          refine qm_G.s1 rfl (qm_x_iald2v (v := 0) (by omega) (by omega) hX e1) ?_
          refine qm_G.s1 rfl (qm_x_aload rfl) ?_
          refine qm_G.s1 rfl (qm_x_iload rfl) ?_
          refine qm_G.s1 rfl (qm_x_pushI 2 rfl) ?_
          refine qm_G.s1 rfl (qm_x_iadd) ?_
          refine qm_G.s1 rfl (qm_x_iald2v (v := a2) (by omega) (by omega) hX e2) ?_
          refine qm_G.s1 rfl (qm_x_aload rfl) ?_
          refine qm_G.s1 rfl (qm_x_iload rfl) ?_
          refine qm_G.s1 rfl (qm_x_pushI 3 rfl) ?_
          refine qm_G.s1 rfl (qm_x_iadd) ?_
          refine qm_G.s1 rfl (qm_x_iald2v (v := a3) (by omega) (by omega) hX e3) ?_
          refine qm_G.cm rfl rfl (hS 61 rfl) rfl ?_
          refine qm_C.go (cd := qm_P140) (lv := [(0, qm_R (some (0, 61, 0))), (1, qm_I (qm_i 0)), (2, qm_I (qm_i a2)), (3, qm_I (qm_i a3))]) rfl rfl ?_
          refine qm_G.s1 rfl (qm_x_iload rfl) ?_
          refine qm_G.cs rfl rfl rfl ?_
          refine qm_C.go (cd := qm_P80) (lv := [(0, qm_I (qm_i 0))]) rfl rfl ?_
          refine qm_G.s1 rfl (qm_x_iload rfl) ?_
          refine qm_G.s1 rfl (qm_x_pushI 0 rfl) ?_
          refine qm_G.s1 rfl (qm_x_pushI 2 rfl) ?_
          refine qm_G.cs rfl rfl rfl ?_
          refine qm_v_within11_t ⟨by decide, by decide⟩ ⟨by decide, by decide⟩ ⟨by decide, by decide⟩ (by decide) ⟨_, rfl, ?_⟩
          refine qm_G.ret rfl rfl ⟨_, rfl, ?_⟩
          refine qm_G.s1 rfl (qm_x_if_eq_f ⟨by decide, by decide⟩ (by decide)) ?_
          refine qm_G.s1 rfl (qm_x_iload rfl) ?_
          refine qm_G.s1 rfl (qm_x_pushI (-1) rfl) ?_
          refine qm_G.s1 rfl (qm_x_icmp_eq_f ⟨by omega, by omega⟩ ⟨by decide, by decide⟩ (by omega)) ?_
          refine qm_G.s1 rfl (qm_x_aload rfl) ?_
          refine qm_G.s1 rfl (qm_x_iload rfl) ?_
          refine qm_G.cm rfl rfl (hS 61 rfl) rfl ?_
          refine qm_C.go (cd := qm_P82) (lv := [(0, qm_R (some (0, 61, 0))), (1, qm_I (qm_i a3))]) rfl rfl ?_
          refine qm_G.s1 rfl (qm_x_iload rfl) ?_
          refine qm_G.s1 rfl (qm_x_pushI 0 rfl) ?_
          refine qm_G.s1 rfl (qm_x_aload rfl) ?_
          refine qm_G.s1 rfl (qm_x_getfR (q := (some (0, 62, 0))) (hS 61 rfl) (hR 61 0 62 rfl rfl)) ?_
          refine qm_G.s1 rfl (qm_x_pushI 7 rfl) ?_
          refine qm_G.s1 rfl (qm_x_iald (v := (J 62 0 7)) (qm_arS hS rfl rfl) rfl (by decide) (by decide) (by decide) rfl) ?_
          refine qm_G.s1 rfl (qm_x_pushI 1 rfl) ?_
          refine qm_G.s1 rfl (qm_x_isub) ?_
          refine qm_G.cs rfl rfl rfl ?_
          refine qm_v_within11_t ⟨by omega, by omega⟩ ⟨by decide, by decide⟩ ⟨by omega, by omega⟩ (by omega) ⟨_, rfl, ?_⟩
          refine qm_G.ret rfl rfl ⟨_, rfl, ?_⟩
          refine qm_G.s1 rfl (qm_x_if_ne_t ⟨by decide, by decide⟩ (by decide)) ?_
          refine qm_G.sp (lv1 := [(0, qm_R (some (0, 61, 0))), (1, qm_I (qm_i 0)), (2, qm_I (qm_i a2)), (3, qm_I (qm_i a3))]) rfl rfl (qm_x_iload rfl) ?_
          refine qm_G.s1 rfl (qm_x_pushI 0 rfl) ?_
          refine qm_G.s1 rfl (qm_x_pushI 3 rfl) ?_
          refine qm_G.cs rfl rfl rfl ?_
          refine qm_v_within11_f ⟨by omega, by omega⟩ ⟨by decide, by decide⟩ ⟨by decide, by decide⟩ (by omega) ⟨_, rfl, ?_⟩
          refine qm_G.s1 rfl (qm_x_if_ne_f ⟨by decide, by decide⟩ (by decide)) ?_
          refine qm_G.s1 rfl (qm_x_pushI (-13) rfl) ?_
          refine qm_G.ret rfl rfl ⟨_, rfl, ?_⟩
          refine qm_G.s1 rfl (qm_x_icmp_eq_t ⟨by decide, by decide⟩ ⟨by decide, by decide⟩ (by decide)) ?_
          exact ih _ _ _ _ _ _ hI.next
      · refine qm_G.s1 rfl (qm_x_if_eq_t ⟨by decide, by decide⟩ (by decide)) ?_
        refine qm_G.sp (lv1 := []) rfl rfl (qm_x_push) ?_
        refine qm_G.ret rfl rfl ⟨_, rfl, ?_⟩
        refine qm_G.s1 rfl (qm_x_ifnonnull0) ?_
        refine qm_G.sp (lv1 := []) rfl rfl (qm_x_pushI (-1) rfl) ?_
        refine qm_G.ret rfl rfl ⟨_, rfl, ?_⟩
        refine qm_G.s1 rfl (qm_x_aload rfl) ?_
        refine qm_G.s1 rfl (qm_x_aload rfl) ?_
        refine qm_G.s1 rfl (qm_x_iload rfl) ?_
        refine qm_G.s1 rfl (qm_x_pushI 1 rfl) ?_
        refine qm_G.s1 rfl (qm_x_iadd) ?_
        refine qm_G.s1 rfl (qm_x_iald2v (v := 0) (by omega) (by omega) hX e1) ?_
        refine qm_G.s1 rfl (qm_x_aload rfl) ?_
        refine qm_G.s1 rfl (qm_x_iload rfl) ?_
        refine qm_G.s1 rfl (qm_x_pushI 2 rfl) ?_
        refine qm_G.s1 rfl (qm_x_iadd) ?_
        refine qm_G.s1 rfl (qm_x_iald2v (v := a2) (by omega) (by omega) hX e2) ?_
        refine qm_G.s1 rfl (qm_x_aload rfl) ?_
        refine qm_G.s1 rfl (qm_x_iload rfl) ?_
        refine qm_G.s1 rfl (qm_x_pushI 3 rfl) ?_
        refine qm_G.s1 rfl (qm_x_iadd) ?_
        refine qm_G.s1 rfl (qm_x_iald2v (v := a3) (by omega) (by omega) hX e3) ?_
        refine qm_G.cm rfl rfl (hS 61 rfl) rfl ?_
        refine qm_C.go (cd := qm_P140) (lv := [(0, qm_R (some (0, 61, 0))), (1, qm_I (qm_i 0)), (2, qm_I (qm_i a2)), (3, qm_I (qm_i a3))]) rfl rfl ?_
        refine qm_G.s1 rfl (qm_x_iload rfl) ?_
        refine qm_G.cs rfl rfl rfl ?_
        refine qm_C.go (cd := qm_P80) (lv := [(0, qm_I (qm_i 0))]) rfl rfl ?_
        refine qm_G.s1 rfl (qm_x_iload rfl) ?_
        refine qm_G.s1 rfl (qm_x_pushI 0 rfl) ?_
        refine qm_G.s1 rfl (qm_x_pushI 2 rfl) ?_
        refine qm_G.cs rfl rfl rfl ?_
        refine qm_v_within11_t ⟨by decide, by decide⟩ ⟨by decide, by decide⟩ ⟨by decide, by decide⟩ (by decide) ⟨_, rfl, ?_⟩
        refine qm_G.ret rfl rfl ⟨_, rfl, ?_⟩
        refine qm_G.s1 rfl (qm_x_if_eq_f ⟨by decide, by decide⟩ (by decide)) ?_
        refine qm_G.s1 rfl (qm_x_iload rfl) ?_
        refine qm_G.s1 rfl (qm_x_pushI (-1) rfl) ?_
        refine qm_G.s1 rfl (qm_x_icmp_eq_f ⟨by omega, by omega⟩ ⟨by decide, by decide⟩ (by omega)) ?_
        refine qm_G.s1 rfl (qm_x_aload rfl) ?_
        refine qm_G.s1 rfl (qm_x_iload rfl) ?_
        refine qm_G.cm rfl rfl (hS 61 rfl) rfl ?_
        refine qm_C.go (cd := qm_P82) (lv := [(0, qm_R (some (0, 61, 0))), (1, qm_I (qm_i a3))]) rfl rfl ?_
        refine qm_G.s1 rfl (qm_x_iload rfl) ?_
        refine qm_G.s1 rfl (qm_x_pushI 0 rfl) ?_
        refine qm_G.s1 rfl (qm_x_aload rfl) ?_
        refine qm_G.s1 rfl (qm_x_getfR (q := (some (0, 62, 0))) (hS 61 rfl) (hR 61 0 62 rfl rfl)) ?_
        refine qm_G.s1 rfl (qm_x_pushI 7 rfl) ?_
        refine qm_G.s1 rfl (qm_x_iald (v := (J 62 0 7)) (qm_arS hS rfl rfl) rfl (by decide) (by decide) (by decide) rfl) ?_
        refine qm_G.s1 rfl (qm_x_pushI 1 rfl) ?_
        refine qm_G.s1 rfl (qm_x_isub) ?_
        refine qm_G.cs rfl rfl rfl ?_
        refine qm_v_within11_f ⟨by omega, by omega⟩ ⟨by decide, by decide⟩ ⟨by omega, by omega⟩ (by omega) ⟨_, rfl, ?_⟩
        refine qm_G.ret rfl rfl ⟨_, rfl, ?_⟩
        refine qm_G.s1 rfl (qm_x_if_ne_f ⟨by decide, by decide⟩ (by decide)) ?_
        refine qm_G.sp (lv1 := []) rfl rfl (qm_x_pushI (-1) rfl) ?_
        refine qm_G.ret rfl rfl ⟨_, rfl, ?_⟩
        refine qm_G.s1 rfl (qm_x_icmp_eq_t ⟨by decide, by decide⟩ ⟨by decide, by decide⟩ (by decide)) ?_
        exact ih _ _ _ _ _ _ hI.next
  · subst d1
    refine qm_G.sp (lv1 := [(0, qm_R (some (2, 0, 0))), (1, qm_R (some (0, 0, 0))), (2, qm_R (some (0, 61, 0))), (3, qm_I (qm_i z))]) rfl rfl (qm_x_aload rfl) ?_
    refine qm_G.s1 rfl (qm_x_aload rfl) ?_
    refine qm_G.s1 rfl (qm_x_iload rfl) ?_
    refine qm_G.s1 rfl (qm_x_pushI 1 rfl) ?_
    refine qm_G.s1 rfl (qm_x_iadd) ?_
    refine qm_G.s1 rfl (qm_x_iald2v (v := 1) (by omega) (by omega) hX e1) ?_
    refine qm_G.s1 rfl (qm_x_aload rfl) ?_
    refine qm_G.s1 rfl (qm_x_iload rfl) ?_
    refine qm_G.s1 rfl (qm_x_pushI 2 rfl) ?_
    refine qm_G.s1 rfl (qm_x_iadd) ?_
    refine qm_G.s1 rfl (qm_x_iald2v (v := a2) (by omega) (by omega) hX e2) ?_
    refine qm_G.s1 rfl (qm_x_aload rfl) ?_
    refine qm_G.s1 rfl (qm_x_iload rfl) ?_
    refine qm_G.s1 rfl (qm_x_pushI 3 rfl) ?_
    refine qm_G.s1 rfl (qm_x_iadd) ?_
    refine qm_G.s1 rfl (qm_x_iald2v (v := a3) (by omega) (by omega) hX e3) ?_
    refine qm_G.cm rfl rfl (hS 0 rfl) rfl ?_
    refine qm_C.go (cd := qm_P164) (lv := [(0, qm_R (some (0, 0, 0))), (1, qm_I (qm_i 1)), (2, qm_I (qm_i a2)), (3, qm_I (qm_i a3))]) rfl rfl ?_
    refine qm_G.s1 rfl (qm_x_iload rfl) ?_
    refine qm_G.cs rfl rfl rfl ?_
    refine qm_C.go (cd := qm_P71) (lv := [(0, qm_I (qm_i 1))]) rfl rfl ?_
    refine qm_G.s1 rfl (qm_x_iload rfl) ?_
    refine qm_G.s1 rfl (qm_x_pushI 0 rfl) ?_
    refine qm_G.s1 rfl (qm_x_pushI 2 rfl) ?_
    refine qm_G.cs rfl rfl rfl ?_
    refine qm_v_within10_t ⟨by decide, by decide⟩ ⟨by decide, by decide⟩ ⟨by decide, by decide⟩ (by decide) ⟨_, rfl, ?_⟩
    refine qm_G.ret rfl rfl ⟨_, rfl, ?_⟩
    refine qm_G.s1 rfl (qm_x_if_eq_f ⟨by decide, by decide⟩ (by decide)) ?_
    refine qm_G.s1 rfl (qm_x_iload rfl) ?_
    refine qm_G.s1 rfl (qm_x_pushI (-1) rfl) ?_
    refine qm_y_icmp_eq rfl ⟨by omega, by omega⟩ ⟨by decide, by decide⟩ (fun c35 => ?_) (fun c35 => ?_)
    · refine qm_G.sp (lv1 := [(0, qm_R (some (0, 0, 0))), (1, qm_I (qm_i 1)), (2, qm_I (qm_i a2)), (3, qm_I (qm_i a3))]) rfl rfl (qm_x_iload rfl) ?_
      refine qm_G.cs rfl rfl rfl ?_
      refine qm_C.go (cd := qm_P73) (lv := [(0, qm_I (qm_i a2))]) rfl rfl ?_
      refine qm_G.s1 rfl (qm_x_iload rfl) ?_
      refine qm_G.s1 rfl (qm_x_pushI 0 rfl) ?_
      refine qm_G.s1 rfl (qm_x_pushI 3 rfl) ?_
      refine qm_G.cs rfl rfl rfl ?_
      refine qm_v_within10 ⟨by omega, by omega⟩ ⟨by decide, by decide⟩ ⟨by decide, by decide⟩ (fun c36 => ⟨_, rfl, ?_⟩) (fun c36 => ⟨_, rfl, ?_⟩)
      · refine qm_G.ret rfl rfl ⟨_, rfl, ?_⟩
        refine qm_G.s1 rfl (qm_x_if_ne_t ⟨by decide, by decide⟩ (by decide)) ?_
        refine qm_G.sp (lv1 := [(0, qm_R (some (0, 0, 0))), (1, qm_I (qm_i 1)), (2, qm_I (qm_i a2)), (3, qm_I (qm_i a3))]) rfl rfl (qm_x_aload rfl) ?_
        refine qm_G.s1 rfl (qm_x_getfR (q := (some (0, 1, 0))) (hS 0 rfl) (hR 0 0 1 rfl rfl)) ?_
        refine qm_G.s1 rfl (qm_x_getfR (q := (some (0, 2, 0))) (hS 1 rfl) (hR 1 0 2 rfl rfl)) ?_
        refine qm_G.s1 rfl (qm_x_iload rfl) ?_
        refine qm_G.s1 rfl (qm_x_iload rfl) ?_
        refine qm_G.cm rfl rfl (hS 2 rfl) rfl ?_
        refine qm_C.go (cd := qm_P145) (lv := [(0, qm_R (some (0, 2, 0))), (1, qm_I (qm_i 1)), (2, qm_I (qm_i a3))]) rfl rfl ?_
        refine qm_G.s1 rfl (qm_x_aload rfl) ?_
        refine qm_G.s1 rfl (qm_x_iload rfl) ?_
        refine qm_G.cm rfl rfl (hS 2 rfl) rfl ?_
        refine qm_C.go (cd := qm_P93) (lv := [(0, qm_R (some (0, 2, 0))), (1, qm_I (qm_i a3))]) rfl rfl ?_
        refine qm_G.s1 rfl (qm_x_iload rfl) ?_
        refine qm_G.s1 rfl (qm_x_pushI 0 rfl) ?_
        refine qm_G.s1 rfl (qm_x_aload rfl) ?_
        have f62_7 : 0 ≤ J 62 0 7 ∧ J 62 0 7 ≤ 8 := hI.mk.rrc
        have f2_3 : J 2 0 3 = J 62 0 7 := hI.mk.rc
        refine qm_G.s1 rfl (qm_x_getfI (v := (J 2 0 3)) (hS 2 rfl) rfl) ?_
        refine qm_G.s1 rfl (qm_x_pushI 1 rfl) ?_
        refine qm_G.s1 rfl (qm_x_isub) ?_
        refine qm_G.cs rfl rfl rfl ?_
        refine qm_v_within10_f ⟨by omega, by omega⟩ ⟨by decide, by decide⟩ ⟨by omega, by omega⟩ (by omega) ⟨_, rfl, ?_⟩
        refine qm_G.s1 rfl (qm_x_if_eq_t ⟨by decide, by decide⟩ (by decide)) ?_
        refine qm_G.sp (lv1 := []) rfl rfl (qm_x_push) ?_
        refine qm_G.ret rfl rfl ⟨_, rfl, ?_⟩
        refine qm_G.s1 rfl (qm_x_astore (lv' := [(3, qm_R (none)), (0, qm_R (some (0, 2, 0))), (1, qm_I (qm_i 1)), (2, qm_I (qm_i a3))]) rfl) ?_
        refine qm_G.s1 rfl (qm_x_aload rfl) ?_
        refine qm_G.s1 rfl (qm_x_ifnull0) ?_
        refine qm_G.sp (lv1 := []) rfl rfl (qm_x_pushI 1 rfl) ?_
        refine qm_G.ret rfl rfl ⟨_, rfl, ?_⟩
        refine qm_G.s1 rfl (qm_x_if_ne_t ⟨by decide, by decide⟩ (by decide)) ?_
        refine qm_G.sp (lv1 := [(0, qm_R (some (0, 0, 0))), (1, qm_I (qm_i 1)), (2, qm_I (qm_i a2)), (3, qm_I (qm_i a3))]) rfl rfl (qm_x_aload rfl) ?_
        refine qm_G.s1 rfl (qm_x_getfR (q := (some (0, 1, 0))) (hS 0 rfl) (hR 0 0 1 rfl rfl)) ?_
        refine qm_G.s1 rfl (qm_x_getfR (q := (some (0, 2, 0))) (hS 1 rfl) (hR 1 0 2 rfl rfl)) ?_
        refine qm_G.s1 rfl (qm_x_iload rfl) ?_
        refine qm_G.s1 rfl (qm_x_iload rfl) ?_
        refine qm_G.cm rfl rfl (hS 2 rfl) rfl ?_
        refine qm_C.go (cd := qm_P38) (lv := [(0, qm_R (some (0, 2, 0))), (1, qm_I (qm_i 1)), (2, qm_I (qm_i a2))]) rfl rfl ?_
        refine qm_G.s1 rfl (qm_x_aload rfl) ?_
        refine qm_G.s1 rfl (qm_x_getfR (q := (some (0, 8, 0))) (hS 2 rfl) (hR 2 4 8 rfl rfl)) ?_
        refine qm_G.s1 rfl (qm_x_iload rfl) ?_
        refine qm_G.s1 rfl (qm_x_aaldg (hS 8 rfl) rfl rfl (by decide) (by decide)) ?_
        refine qm_G.s1 rfl (qm_x_iload rfl) ?_
        have g38 : (J 8 2 (Int.toNat a2) = -1 ∧ J 62 0 (54 + (Int.toNat a2)) = -5) ∨ (J 8 2 (Int.toNat a2) = J 62 0 (54 + (Int.toNat a2)) ∧ 0 ≤ J 62 0 (54 + (Int.toNat a2)) ∧ J 62 0 (54 + (Int.toNat a2)) < J 62 0 7) := hI.mk.dek 1 (Int.toNat a2) (by decide) (by omega)
        refine qm_G.s1 rfl (qm_x_iald (v := (J 8 2 (Int.toNat a2))) (qm_arS hS rfl rfl) rfl (by omega) (by omega) (by decide) rfl) ?_
        refine qm_G.s1 rfl (qm_x_istore (lv' := [(3, qm_I (qm_i (J 8 2 (Int.toNat a2)))), (0, qm_R (some (0, 2, 0))), (1, qm_I (qm_i 1)), (2, qm_I (qm_i a2))]) rfl) ?_
        refine qm_G.s1 rfl (qm_x_iload rfl) ?_
        refine qm_G.s1 rfl (qm_x_pushI (-1) rfl) ?_
        refine qm_y_icmp_ne rfl ⟨by omega, by omega⟩ ⟨by decide, by decide⟩ (fun c39 => ?_) (fun c39 => ?_)
        · refine qm_G.sp (lv1 := [(3, qm_I (qm_i (J 8 2 (Int.toNat a2))))]) rfl rfl (qm_x_iload rfl) ?_
          refine qm_G.ret rfl rfl ⟨_, rfl, ?_⟩
          refine qm_G.s1 rfl (qm_x_istore (lv' := [(4, qm_I (qm_i (J 8 2 (Int.toNat a2)))), (0, qm_R (some (0, 0, 0))), (1, qm_I (qm_i 1)), (2, qm_I (qm_i a2)), (3, qm_I (qm_i a3))]) rfl) ?_
          refine qm_G.s1 rfl (qm_x_aload rfl) ?_
          refine qm_G.s1 rfl (qm_x_getfR (q := (some (0, 1, 0))) (hS 0 rfl) (hR 0 0 1 rfl rfl)) ?_
          refine qm_G.s1 rfl (qm_x_getfR (q := (some (0, 2, 0))) (hS 1 rfl) (hR 1 0 2 rfl rfl)) ?_
          refine qm_G.s1 rfl (qm_x_getfR (q := (some (0, 8, 0))) (hS 2 rfl) (hR 2 4 8 rfl rfl)) ?_
          refine qm_G.s1 rfl (qm_x_iload rfl) ?_
          refine qm_G.s1 rfl (qm_x_aaldg (hS 8 rfl) rfl rfl (by decide) (by decide)) ?_
          refine qm_G.s1 rfl (qm_x_iload rfl) ?_
          refine qm_G.s1 rfl (qm_x_iload rfl) ?_
          refine qm_G.s1 rfl (qm_x_iast (qm_arS hS rfl rfl) rfl (by omega) (by omega) (by decide)) ?_
          refine qm_G.s1 rfl (qm_x_iload rfl) ?_
          refine qm_G.ret rfl rfl ⟨_, rfl, ?_⟩
          refine qm_G.s1 rfl (qm_x_aload rfl) ?_
          refine qm_G.s1 rfl (qm_x_aload rfl) ?_
          refine qm_G.s1 rfl (qm_x_iload rfl) ?_
          refine qm_G.s1 rfl (qm_x_pushI 1 rfl) ?_
          refine qm_G.s1 rfl (qm_x_iadd) ?_
          refine qm_G.s1 rfl (qm_x_iald2v (v := 1) (by omega) (by omega) hX e1) ?_
          refine qm_G.s1 rfl (qm_x_aload rfl) ?_
          refine qm_G.s1 rfl (qm_x_iload rfl) ?_
          refine qm_G.s1 rfl (qm_x_pushI 2 rfl) ?_
          refine qm_G.s1 rfl (qm_x_iadd) ?_
          refine qm_G.s1 rfl (qm_x_iald2v (v := a2) (by omega) (by omega) hX e2) ?_
          refine qm_G.s1 rfl (qm_x_aload rfl) ?_
          refine qm_G.s1 rfl (qm_x_iload rfl) ?_
          refine qm_G.s1 rfl (qm_x_pushI 3 rfl) ?_
          refine qm_G.s1 rfl (qm_x_iadd) ?_
          refine qm_G.s1 rfl (qm_x_iald2v (v := a3) (by omega) (by omega) hX e3) ?_
          refine qm_G.cm rfl rfl (hS 61 rfl) rfl ?_
          refine qm_C.go (cd := qm_P140) (lv := [(0, qm_R (some (0, 61, 0))), (1, qm_I (qm_i 1)), (2, qm_I (qm_i a2)), (3, qm_I (qm_i a3))]) rfl rfl ?_
          refine qm_G.s1 rfl (qm_x_iload rfl) ?_
          refine qm_G.cs rfl rfl rfl ?_
          refine qm_C.go (cd := qm_P80) (lv := [(0, qm_I (qm_i 1))]) rfl rfl ?_
          refine qm_G.s1 rfl (qm_x_iload rfl) ?_
          refine qm_G.s1 rfl (qm_x_pushI 0 rfl) ?_
          refine qm_G.s1 rfl (qm_x_pushI 2 rfl) ?_
          refine qm_G.cs rfl rfl rfl ?_
          refine qm_v_within11_t ⟨by decide, by decide⟩ ⟨by decide, by decide⟩ ⟨by decide, by decide⟩ (by decide) ⟨_, rfl, ?_⟩
          refine qm_G.ret rfl rfl ⟨_, rfl, ?_⟩
          refine qm_G.s1 rfl (qm_x_if_eq_f ⟨by decide, by decide⟩ (by decide)) ?_
          refine qm_G.s1 rfl (qm_x_iload rfl) ?_
          refine qm_G.s1 rfl (qm_x_pushI (-1) rfl) ?_
          refine qm_G.s1 rfl (qm_x_icmp_eq_t ⟨by omega, by omega⟩ ⟨by decide, by decide⟩ (by omega)) ?_
          refine qm_G.sp (lv1 := [(0, qm_R (some (0, 61, 0))), (1, qm_I (qm_i 1)), (2, qm_I (qm_i a2)), (3, qm_I (qm_i a3))]) rfl rfl (qm_x_iload rfl) ?_
          refine qm_G.s1 rfl (qm_x_pushI 0 rfl) ?_
          refine qm_G.s1 rfl (qm_x_pushI 3 rfl) ?_
          refine qm_G.cs rfl rfl rfl ?_
          refine qm_v_within11_t ⟨by omega, by omega⟩ ⟨by decide, by decide⟩ ⟨by decide, by decide⟩ (by omega) ⟨_, rfl, ?_⟩
          refine qm_G.s1 rfl (qm_x_if_ne_t ⟨by decide, by decide⟩ (by decide)) ?_
          refine qm_G.sp (lv1 := [(0, qm_R (some (0, 61, 0))), (1, qm_I (qm_i 1)), (2, qm_I (qm_i a2)), (3, qm_I (qm_i a3))]) rfl rfl (qm_x_aload rfl) ?_
          refine qm_G.s1 rfl (qm_x_iload rfl) ?_
          refine qm_G.s1 rfl (qm_x_iload rfl) ?_
          refine qm_G.cm rfl rfl (hS 61 rfl) rfl ?_
          refine qm_C.go (cd := qm_P26) (lv := [(0, qm_R (some (0, 61, 0))), (1, qm_I (qm_i 1)), (2, qm_I (qm_i a3))]) rfl rfl ?_
          refine qm_G.s1 rfl (qm_x_iload rfl) ?_
          refine qm_G.s1 rfl (qm_x_if_lt_t ⟨by omega, by omega⟩ (by omega)) ?_
          refine qm_G.sp (lv1 := []) rfl rfl (qm_x_pushI 1 rfl) ?_
          refine qm_G.ret rfl rfl ⟨_, rfl, ?_⟩
          refine qm_G.s1 rfl (qm_x_if_ne_t ⟨by decide, by decide⟩ (by decide)) ?_
          refine qm_G.sp (lv1 := [(0, qm_R (some (0, 61, 0))), (1, qm_I (qm_i 1)), (2, qm_I (qm_i a2)), (3, qm_I (qm_i a3))]) rfl rfl (qm_x_aload rfl) ?_
          refine qm_G.s1 rfl (qm_x_pushI 50 rfl) ?_
          refine qm_G.s1 rfl (qm_x_pushI 4 rfl) ?_
          refine qm_G.s1 rfl (qm_x_iload rfl) ?_
          refine qm_G.s1 rfl (qm_x_imul) ?_
          refine qm_G.s1 rfl (qm_x_iadd) ?_
          refine qm_G.s1 rfl (qm_x_iload rfl) ?_
          refine qm_G.s1 rfl (qm_x_iadd) ?_
          refine qm_G.s1 rfl (qm_x_iload rfl) ?_
          refine qm_G.s1 rfl (qm_x_pushI (-1) rfl) ?_
          refine qm_G.s1 rfl (qm_x_icmp_ne_f ⟨by omega, by omega⟩ ⟨by decide, by decide⟩ (by omega)) ?_
          refine qm_G.s1 rfl (qm_x_pushI (-5) rfl) ?_
          refine qm_G.s1 rfl (qm_x_goto) ?_
          refine qm_G.cm rfl rfl (hS 61 rfl) rfl ?_
          refine qm_C.go (cd := qm_P22) (lv := [(0, qm_R (some (0, 61, 0))), (1, qm_I (qm_i ((50 + (4 * 1)) + a2))), (2, qm_I (qm_i (-5)))]) rfl rfl ?_
          refine qm_G.s1 rfl (qm_x_aload rfl) ?_
          refine qm_G.s1 rfl (qm_x_getfR (q := (some (0, 62, 0))) (hS 61 rfl) (hR 61 0 62 rfl rfl)) ?_
          refine qm_G.s1 rfl (qm_x_iload rfl) ?_
          refine qm_G.s1 rfl (qm_x_iald (v := (J 62 0 (54 + (Int.toNat a2)))) (qm_arS hS rfl rfl) rfl (by omega) (by omega) (by decide) (congrArg (J 62 0) (by omega))) ?_
          refine qm_G.s1 rfl (qm_x_istore (lv' := [(3, qm_I (qm_i (J 62 0 (54 + (Int.toNat a2))))), (0, qm_R (some (0, 61, 0))), (1, qm_I (qm_i ((50 + (4 * 1)) + a2))), (2, qm_I (qm_i (-5)))]) rfl) ?_
          refine qm_G.s1 rfl (qm_x_aload rfl) ?_
          refine qm_G.s1 rfl (qm_x_getfR (q := (some (0, 62, 0))) (hS 61 rfl) (hR 61 0 62 rfl rfl)) ?_
          refine qm_G.s1 rfl (qm_x_iload rfl) ?_
          refine qm_G.s1 rfl (qm_x_iload rfl) ?_
          refine qm_G.s1 rfl (qm_x_iast (qm_arS hS rfl rfl) rfl (by omega) (by omega) (by decide)) ?_
          refine qm_G.s1 rfl (qm_x_iload rfl) ?_
          refine qm_G.ret rfl rfl ⟨_, rfl, ?_⟩
          refine qm_G.ret rfl rfl ⟨_, rfl, ?_⟩
          refine qm_G.s1 rfl (qm_x_icmp_eq_t ⟨by omega, by omega⟩ ⟨by omega, by omega⟩ (by omega)) ?_
          rw [show (Int.toNat ((50 + (4 * 1)) + a2)) = 54 + (Int.toNat a2) by omega]
          exact ih _ _ _ _ _ _ (qm_U_dek1 (by omega) (by omega) hI)
        · refine qm_G.s1 rfl (qm_x_pushI (-5) rfl) ?_
          refine qm_G.s1 rfl (qm_x_goto) ?_
          refine qm_G.ret rfl rfl ⟨_, rfl, ?_⟩
          refine qm_G.s1 rfl (qm_x_istore (lv' := [(4, qm_I (qm_i (-5))), (0, qm_R (some (0, 0, 0))), (1, qm_I (qm_i 1)), (2, qm_I (qm_i a2)), (3, qm_I (qm_i a3))]) rfl) ?_
          refine qm_G.s1 rfl (qm_x_aload rfl) ?_
          refine qm_G.s1 rfl (qm_x_getfR (q := (some (0, 1, 0))) (hS 0 rfl) (hR 0 0 1 rfl rfl)) ?_
          refine qm_G.s1 rfl (qm_x_getfR (q := (some (0, 2, 0))) (hS 1 rfl) (hR 1 0 2 rfl rfl)) ?_
          refine qm_G.s1 rfl (qm_x_getfR (q := (some (0, 8, 0))) (hS 2 rfl) (hR 2 4 8 rfl rfl)) ?_
          refine qm_G.s1 rfl (qm_x_iload rfl) ?_
          refine qm_G.s1 rfl (qm_x_aaldg (hS 8 rfl) rfl rfl (by decide) (by decide)) ?_
          refine qm_G.s1 rfl (qm_x_iload rfl) ?_
          refine qm_G.s1 rfl (qm_x_iload rfl) ?_
          refine qm_G.s1 rfl (qm_x_iast (qm_arS hS rfl rfl) rfl (by omega) (by omega) (by decide)) ?_
          refine qm_G.s1 rfl (qm_x_iload rfl) ?_
          refine qm_G.ret rfl rfl ⟨_, rfl, ?_⟩
          refine qm_G.s1 rfl (qm_x_aload rfl) ?_
          refine qm_G.s1 rfl (qm_x_aload rfl) ?_
          refine qm_G.s1 rfl (qm_x_iload rfl) ?_
          refine qm_G.s1 rfl (qm_x_pushI 1 rfl) ?_
          refine qm_G.s1 rfl (qm_x_iadd) ?_
          refine qm_G.s1 rfl (qm_x_iald2v (v := 1) (by omega) (by omega) hX e1) ?_
          refine qm_G.s1 rfl (qm_x_aload rfl) ?_
          refine qm_G.s1 rfl (qm_x_iload rfl) ?_
          refine qm_G.s1 rfl (qm_x_pushI 2 rfl) ?_
          refine qm_G.s1 rfl (qm_x_iadd) ?_
          refine qm_G.s1 rfl (qm_x_iald2v (v := a2) (by omega) (by omega) hX e2) ?_
          refine qm_G.s1 rfl (qm_x_aload rfl) ?_
          refine qm_G.s1 rfl (qm_x_iload rfl) ?_
          refine qm_G.s1 rfl (qm_x_pushI 3 rfl) ?_
          refine qm_G.s1 rfl (qm_x_iadd) ?_
          refine qm_G.s1 rfl (qm_x_iald2v (v := a3) (by omega) (by omega) hX e3) ?_
          refine qm_G.cm rfl rfl (hS 61 rfl) rfl ?_
          refine qm_C.go (cd := qm_P140) (lv := [(0, qm_R (some (0, 61, 0))), (1, qm_I (qm_i 1)), (2, qm_I (qm_i a2)), (3, qm_I (qm_i a3))]) rfl rfl ?_
          refine qm_G.s1 rfl (qm_x_iload rfl) ?_
          refine qm_G.cs rfl rfl rfl ?_
          refine qm_C.go (cd := qm_P80) (lv := [(0, qm_I (qm_i 1))]) rfl rfl ?_
          refine qm_G.s1 rfl (qm_x_iload rfl) ?_
          refine qm_G.s1 rfl (qm_x_pushI 0 rfl) ?_
          refine qm_G.s1 rfl (qm_x_pushI 2 rfl) ?_
          refine qm_G.cs rfl rfl rfl ?_
          refine qm_v_within11_t ⟨by decide, by decide⟩ ⟨by decide, by decide⟩ ⟨by decide, by decide⟩ (by decide) ⟨_, rfl, ?_⟩
          refine qm_G.ret rfl rfl ⟨_, rfl, ?_⟩
          refine qm_G.s1 rfl (qm_x_if_eq_f ⟨by decide, by decide⟩ (by decide)) ?_
          refine qm_G.s1 rfl (qm_x_iload rfl) ?_
          refine qm_G.s1 rfl (qm_x_pushI (-1) rfl) ?_
          refine qm_G.s1 rfl (qm_x_icmp_eq_t ⟨by omega, by omega⟩ ⟨by decide, by decide⟩ (by omega)) ?_
          refine qm_G.sp (lv1 := [(0, qm_R (some (0, 61, 0))), (1, qm_I (qm_i 1)), (2, qm_I (qm_i a2)), (3, qm_I (qm_i a3))]) rfl rfl (qm_x_iload rfl) ?_
          refine qm_G.s1 rfl (qm_x_pushI 0 rfl) ?_
          refine qm_G.s1 rfl (qm_x_pushI 3 rfl) ?_
          refine qm_G.cs rfl rfl rfl ?_
          refine qm_v_within11_t ⟨by omega, by omega⟩ ⟨by decide, by decide⟩ ⟨by decide, by decide⟩ (by omega) ⟨_, rfl, ?_⟩
          refine qm_G.s1 rfl (qm_x_if_ne_t ⟨by decide, by decide⟩ (by decide)) ?_
          refine qm_G.sp (lv1 := [(0, qm_R (some (0, 61, 0))), (1, qm_I (qm_i 1)), (2, qm_I (qm_i a2)), (3, qm_I (qm_i a3))]) rfl rfl (qm_x_aload rfl) ?_
          refine qm_G.s1 rfl (qm_x_iload rfl) ?_
          refine qm_G.s1 rfl (qm_x_iload rfl) ?_
          refine qm_G.cm rfl rfl (hS 61 rfl) rfl ?_
          refine qm_C.go (cd := qm_P26) (lv := [(0, qm_R (some (0, 61, 0))), (1, qm_I (qm_i 1)), (2, qm_I (qm_i a3))]) rfl rfl ?_
          refine qm_G.s1 rfl (qm_x_iload rfl) ?_
          refine qm_G.s1 rfl (qm_x_if_lt_t ⟨by omega, by omega⟩ (by omega)) ?_
          refine qm_G.sp (lv1 := []) rfl rfl (qm_x_pushI 1 rfl) ?_
          refine qm_G.ret rfl rfl ⟨_, rfl, ?_⟩
          refine qm_G.s1 rfl (qm_x_if_ne_t ⟨by decide, by decide⟩ (by decide)) ?_
          refine qm_G.sp (lv1 := [(0, qm_R (some (0, 61, 0))), (1, qm_I (qm_i 1)), (2, qm_I (qm_i a2)), (3, qm_I (qm_i a3))]) rfl rfl (qm_x_aload rfl) ?_
          refine qm_G.s1 rfl (qm_x_pushI 50 rfl) ?_
          refine qm_G.s1 rfl (qm_x_pushI 4 rfl) ?_
          refine qm_G.s1 rfl (qm_x_iload rfl) ?_
          refine qm_G.s1 rfl (qm_x_imul) ?_
          refine qm_G.s1 rfl (qm_x_iadd) ?_
          refine qm_G.s1 rfl (qm_x_iload rfl) ?_
          refine qm_G.s1 rfl (qm_x_iadd) ?_
          refine qm_G.s1 rfl (qm_x_iload rfl) ?_
          refine qm_G.s1 rfl (qm_x_pushI (-1) rfl) ?_
          refine qm_G.s1 rfl (qm_x_icmp_ne_f ⟨by omega, by omega⟩ ⟨by decide, by decide⟩ (by omega)) ?_
          refine qm_G.s1 rfl (qm_x_pushI (-5) rfl) ?_
          refine qm_G.s1 rfl (qm_x_goto) ?_
          refine qm_G.cm rfl rfl (hS 61 rfl) rfl ?_
          refine qm_C.go (cd := qm_P22) (lv := [(0, qm_R (some (0, 61, 0))), (1, qm_I (qm_i ((50 + (4 * 1)) + a2))), (2, qm_I (qm_i (-5)))]) rfl rfl ?_
          refine qm_G.s1 rfl (qm_x_aload rfl) ?_
          refine qm_G.s1 rfl (qm_x_getfR (q := (some (0, 62, 0))) (hS 61 rfl) (hR 61 0 62 rfl rfl)) ?_
          refine qm_G.s1 rfl (qm_x_iload rfl) ?_
          refine qm_G.s1 rfl (qm_x_iald (v := (J 62 0 (54 + (Int.toNat a2)))) (qm_arS hS rfl rfl) rfl (by omega) (by omega) (by decide) (congrArg (J 62 0) (by omega))) ?_
          refine qm_G.s1 rfl (qm_x_istore (lv' := [(3, qm_I (qm_i (J 62 0 (54 + (Int.toNat a2))))), (0, qm_R (some (0, 61, 0))), (1, qm_I (qm_i ((50 + (4 * 1)) + a2))), (2, qm_I (qm_i (-5)))]) rfl) ?_
          refine qm_G.s1 rfl (qm_x_aload rfl) ?_
          refine qm_G.s1 rfl (qm_x_getfR (q := (some (0, 62, 0))) (hS 61 rfl) (hR 61 0 62 rfl rfl)) ?_
          refine qm_G.s1 rfl (qm_x_iload rfl) ?_
          refine qm_G.s1 rfl (qm_x_iload rfl) ?_
          refine qm_G.s1 rfl (qm_x_iast (qm_arS hS rfl rfl) rfl (by omega) (by omega) (by decide)) ?_
          refine qm_G.s1 rfl (qm_x_iload rfl) ?_
          refine qm_G.ret rfl rfl ⟨_, rfl, ?_⟩
          refine qm_G.ret rfl rfl ⟨_, rfl, ?_⟩
          refine qm_G.s1 rfl (qm_x_icmp_eq_t ⟨by decide, by decide⟩ ⟨by omega, by omega⟩ (by omega)) ?_
          rw [show (Int.toNat ((50 + (4 * 1)) + a2)) = 54 + (Int.toNat a2) by omega]
          exact ih _ _ _ _ _ _ (qm_U_dek1 (by omega) (by omega) hI)
      · refine qm_G.ret rfl rfl ⟨_, rfl, ?_⟩
        refine qm_G.s1 rfl (qm_x_if_ne_f ⟨by decide, by decide⟩ (by decide)) ?_
        refine qm_G.s1 rfl (qm_x_pushI (-13) rfl) ?_
        refine qm_G.ret rfl rfl ⟨_, rfl, ?_⟩
        refine qm_G.s1 rfl (qm_x_aload rfl) ?_
        refine qm_G.s1 rfl (qm_x_aload rfl) ?_
        refine qm_G.s1 rfl (qm_x_iload rfl) ?_
        refine qm_G.s1 rfl (qm_x_pushI 1 rfl) ?_
        refine qm_G.s1 rfl (qm_x_iadd) ?_
        refine qm_G.s1 rfl (qm_x_iald2v (v := 1) (by omega) (by omega) hX e1) ?_
        refine qm_G.s1 rfl (qm_x_aload rfl) ?_
        refine qm_G.s1 rfl (qm_x_iload rfl) ?_
        refine qm_G.s1 rfl (qm_x_pushI 2 rfl) ?_
        refine qm_G.s1 rfl (qm_x_iadd) ?_
        refine qm_G.s1 rfl (qm_x_iald2v (v := a2) (by omega) (by omega) hX e2) ?_
        refine qm_G.s1 rfl (qm_x_aload rfl) ?_
        refine qm_G.s1 rfl (qm_x_iload rfl) ?_
        refine qm_G.s1 rfl (qm_x_pushI 3 rfl) ?_
        refine qm_G.s1 rfl (qm_x_iadd) ?_
        refine qm_G.s1 rfl (qm_x_iald2v (v := a3) (by omega) (by omega) hX e3) ?_
        refine qm_G.cm rfl rfl (hS 61 rfl) rfl ?_
        refine qm_C.go (cd := qm_P140) (lv := [(0, qm_R (some (0, 61, 0))), (1, qm_I (qm_i 1)), (2, qm_I (qm_i a2)), (3, qm_I (qm_i a3))]) rfl rfl ?_
        refine qm_G.s1 rfl (qm_x_iload rfl) ?_
        refine qm_G.cs rfl rfl rfl ?_
        refine qm_C.go (cd := qm_P80) (lv := [(0, qm_I (qm_i 1))]) rfl rfl ?_
        refine qm_G.s1 rfl (qm_x_iload rfl) ?_
        refine qm_G.s1 rfl (qm_x_pushI 0 rfl) ?_
        refine qm_G.s1 rfl (qm_x_pushI 2 rfl) ?_
        refine qm_G.cs rfl rfl rfl ?_
        refine qm_v_within11_t ⟨by decide, by decide⟩ ⟨by decide, by decide⟩ ⟨by decide, by decide⟩ (by decide) ⟨_, rfl, ?_⟩
        refine qm_G.ret rfl rfl ⟨_, rfl, ?_⟩
        refine qm_G.s1 rfl (qm_x_if_eq_f ⟨by decide, by decide⟩ (by decide)) ?_
        refine qm_G.s1 rfl (qm_x_iload rfl) ?_
        refine qm_G.s1 rfl (qm_x_pushI (-1) rfl) ?_
        refine qm_G.s1 rfl (qm_x_icmp_eq_t ⟨by omega, by omega⟩ ⟨by decide, by decide⟩ (by omega)) ?_
        refine qm_G.sp (lv1 := [(0, qm_R (some (0, 61, 0))), (1, qm_I (qm_i 1)), (2, qm_I (qm_i a2)), (3, qm_I (qm_i a3))]) rfl rfl (qm_x_iload rfl) ?_
        refine qm_G.s1 rfl (qm_x_pushI 0 rfl) ?_
        refine qm_G.s1 rfl (qm_x_pushI 3 rfl) ?_
        refine qm_G.cs rfl rfl rfl ?_
        refine qm_v_within11_f ⟨by omega, by omega⟩ ⟨by decide, by decide⟩ ⟨by decide, by decide⟩ (by omega) ⟨_, rfl, ?_⟩
        refine qm_G.s1 rfl (qm_x_if_ne_f ⟨by decide, by decide⟩ (by decide)) ?_
        refine qm_G.s1 rfl (qm_x_pushI (-13) rfl) ?_
        refine qm_G.ret rfl rfl ⟨_, rfl, ?_⟩
        refine qm_G.s1 rfl (qm_x_icmp_eq_t ⟨by decide, by decide⟩ ⟨by decide, by decide⟩ (by decide)) ?_
        exact ih _ _ _ _ _ _ hI.next
    · refine qm_G.s1 rfl (qm_x_aload rfl) ?_
      refine qm_G.s1 rfl (qm_x_getfR (q := (some (0, 1, 0))) (hS 0 rfl) (hR 0 0 1 rfl rfl)) ?_
      refine qm_G.s1 rfl (qm_x_getfR (q := (some (0, 2, 0))) (hS 1 rfl) (hR 1 0 2 rfl rfl)) ?_
      refine qm_G.s1 rfl (qm_x_iload rfl) ?_
      refine qm_G.cm rfl rfl (hS 2 rfl) rfl ?_
      refine qm_C.go (cd := qm_P93) (lv := [(0, qm_R (some (0, 2, 0))), (1, qm_I (qm_i a3))]) rfl rfl ?_
      refine qm_G.s1 rfl (qm_x_iload rfl) ?_
      refine qm_G.s1 rfl (qm_x_pushI 0 rfl) ?_
      refine qm_G.s1 rfl (qm_x_aload rfl) ?_
      have f62_7 : 0 ≤ J 62 0 7 ∧ J 62 0 7 ≤ 8 := hI.mk.rrc
      have f2_3 : J 2 0 3 = J 62 0 7 := hI.mk.rc
      refine qm_G.s1 rfl (qm_x_getfI (v := (J 2 0 3)) (hS 2 rfl) rfl) ?_
      refine qm_G.s1 rfl (qm_x_pushI 1 rfl) ?_
      refine qm_G.s1 rfl (qm_x_isub) ?_
      refine qm_G.cs rfl rfl rfl ?_
      refine qm_v_within10 ⟨by omega, by omega⟩ ⟨by decide, by decide⟩ ⟨by omega, by omega⟩ (fun c46 => ⟨_, rfl, ?_⟩) (fun c46 => ⟨_, rfl, ?_⟩)
      · refine qm_G.s1 rfl (qm_x_if_eq_f ⟨by decide, by decide⟩ (by decide)) ?_
        refine qm_G.s1 rfl (qm_x_aload rfl) ?_
        refine qm_G.s1 rfl (qm_x_getfR (q := (some (0, 7, 0))) (hS 2 rfl) (hR 2 2 7 rfl rfl)) ?_
        refine qm_G.s1 rfl (qm_x_iload rfl) ?_
        obtain ⟨q47, g48r, g48h, g48s, g48a, g48b, g48c, g48x, g48y, g48z⟩ := hI.mk.riv (Int.toNat a3) (by omega) (by omega)
        refine qm_G.s1 rfl (qm_x_aaldr (q := (some (0, q47, 0))) (hS 7 rfl) rfl rfl (by omega) (by omega) g48r) ?_
        refine qm_G.s1 rfl (qm_x_goto) ?_
        refine qm_G.ret rfl rfl ⟨_, rfl, ?_⟩
        refine qm_G.s1 rfl (qm_x_ifnonnull1) ?_
        refine qm_G.sp (lv1 := [(0, qm_R (some (0, 0, 0))), (1, qm_I (qm_i 1)), (2, qm_I (qm_i a2)), (3, qm_I (qm_i a3))]) rfl rfl (qm_x_iload rfl) ?_
        refine qm_G.cs rfl rfl rfl ?_
        refine qm_C.go (cd := qm_P73) (lv := [(0, qm_I (qm_i a2))]) rfl rfl ?_
        refine qm_G.s1 rfl (qm_x_iload rfl) ?_
        refine qm_G.s1 rfl (qm_x_pushI 0 rfl) ?_
        refine qm_G.s1 rfl (qm_x_pushI 3 rfl) ?_
        refine qm_G.cs rfl rfl rfl ?_
        refine qm_v_within10 ⟨by omega, by omega⟩ ⟨by decide, by decide⟩ ⟨by decide, by decide⟩ (fun c49 => ⟨_, rfl, ?_⟩) (fun c49 => ⟨_, rfl, ?_⟩)
        · refine qm_G.ret rfl rfl ⟨_, rfl, ?_⟩
          refine qm_G.s1 rfl (qm_x_if_ne_t ⟨by decide, by decide⟩ (by decide)) ?_
          refine qm_G.sp (lv1 := [(0, qm_R (some (0, 0, 0))), (1, qm_I (qm_i 1)), (2, qm_I (qm_i a2)), (3, qm_I (qm_i a3))]) rfl rfl (qm_x_aload rfl) ?_
          refine qm_G.s1 rfl (qm_x_getfR (q := (some (0, 1, 0))) (hS 0 rfl) (hR 0 0 1 rfl rfl)) ?_
          refine qm_G.s1 rfl (qm_x_getfR (q := (some (0, 2, 0))) (hS 1 rfl) (hR 1 0 2 rfl rfl)) ?_
          refine qm_G.s1 rfl (qm_x_iload rfl) ?_
          refine qm_G.s1 rfl (qm_x_iload rfl) ?_
          refine qm_G.cm rfl rfl (hS 2 rfl) rfl ?_
          refine qm_C.go (cd := qm_P145) (lv := [(0, qm_R (some (0, 2, 0))), (1, qm_I (qm_i 1)), (2, qm_I (qm_i a3))]) rfl rfl ?_
          refine qm_G.s1 rfl (qm_x_aload rfl) ?_
          refine qm_G.s1 rfl (qm_x_iload rfl) ?_
          refine qm_G.cm rfl rfl (hS 2 rfl) rfl ?_
          refine qm_C.go (cd := qm_P93) (lv := [(0, qm_R (some (0, 2, 0))), (1, qm_I (qm_i a3))]) rfl rfl ?_
          refine qm_G.s1 rfl (qm_x_iload rfl) ?_
          refine qm_G.s1 rfl (qm_x_pushI 0 rfl) ?_
          refine qm_G.s1 rfl (qm_x_aload rfl) ?_
          refine qm_G.s1 rfl (qm_x_getfI (v := (J 2 0 3)) (hS 2 rfl) rfl) ?_
          refine qm_G.s1 rfl (qm_x_pushI 1 rfl) ?_
          refine qm_G.s1 rfl (qm_x_isub) ?_
          refine qm_G.cs rfl rfl rfl ?_
          refine qm_v_within10_t ⟨by omega, by omega⟩ ⟨by decide, by decide⟩ ⟨by omega, by omega⟩ (by omega) ⟨_, rfl, ?_⟩
          refine qm_G.s1 rfl (qm_x_if_eq_f ⟨by decide, by decide⟩ (by decide)) ?_
          refine qm_G.s1 rfl (qm_x_aload rfl) ?_
          refine qm_G.s1 rfl (qm_x_getfR (q := (some (0, 7, 0))) (hS 2 rfl) (hR 2 2 7 rfl rfl)) ?_
          refine qm_G.s1 rfl (qm_x_iload rfl) ?_
          obtain ⟨q51, g52r, g52h, g52s, g52a, g52b, g52c, g52x, g52y, g52z⟩ := hI.mk.riv (Int.toNat a3) (by omega) (by omega)
          refine qm_G.s1 rfl (qm_x_aaldr (q := (some (0, q51, 0))) (hS 7 rfl) rfl rfl (by omega) (by omega) g52r) ?_
          refine qm_G.s1 rfl (qm_x_goto) ?_
          refine qm_G.ret rfl rfl ⟨_, rfl, ?_⟩
          refine qm_G.s1 rfl (qm_x_astore (lv' := [(3, qm_R (some (0, q51, 0))), (0, qm_R (some (0, 2, 0))), (1, qm_I (qm_i 1)), (2, qm_I (qm_i a3))]) rfl) ?_
          refine qm_G.s1 rfl (qm_x_aload rfl) ?_
          refine qm_G.s1 rfl (qm_x_ifnull1) ?_
          refine qm_G.s1 rfl (qm_x_iload rfl) ?_
          refine qm_G.s1 rfl (qm_x_if_ne_t ⟨by decide, by decide⟩ (by decide)) ?_
          refine qm_G.sp (lv1 := [(1, qm_I (qm_i 1)), (3, qm_R (some (0, q51, 0)))]) rfl rfl (qm_x_iload rfl) ?_
          refine qm_G.s1 rfl (qm_x_pushI 1 rfl) ?_
          refine qm_G.s1 rfl (qm_x_icmp_ne_f ⟨by decide, by decide⟩ ⟨by decide, by decide⟩ (by decide)) ?_
          refine qm_G.s1 rfl (qm_x_aload rfl) ?_
          refine qm_G.cm rfl rfl g52s rfl ?_
          refine qm_C.go (cd := qm_P46) (lv := [(0, qm_R (some (0, q51, 0)))]) rfl rfl ?_
          refine qm_G.s1 rfl (qm_x_aload rfl) ?_
          refine qm_G.s1 rfl (qm_x_getfI (v := (J q51 0 0)) g52s rfl) ?_
          refine qm_G.s1 rfl (qm_x_pushI 1 rfl) ?_
          refine qm_y_icmp_eq rfl ⟨by omega, by omega⟩ ⟨by decide, by decide⟩ (fun c53 => ?_) (fun c53 => ?_)
          · refine qm_G.sp (lv1 := []) rfl rfl (qm_x_pushI 1 rfl) ?_
            refine qm_G.s1 rfl (qm_x_goto) ?_
            refine qm_G.ret rfl rfl ⟨_, rfl, ?_⟩
            refine qm_G.s1 rfl (qm_x_goto) ?_
            refine qm_G.ret rfl rfl ⟨_, rfl, ?_⟩
            refine qm_G.s1 rfl (qm_x_if_ne_t ⟨by decide, by decide⟩ (by decide)) ?_
            refine qm_G.sp (lv1 := [(0, qm_R (some (0, 0, 0))), (1, qm_I (qm_i 1)), (2, qm_I (qm_i a2)), (3, qm_I (qm_i a3))]) rfl rfl (qm_x_aload rfl) ?_
            refine qm_G.s1 rfl (qm_x_getfR (q := (some (0, 1, 0))) (hS 0 rfl) (hR 0 0 1 rfl rfl)) ?_
            refine qm_G.s1 rfl (qm_x_getfR (q := (some (0, 2, 0))) (hS 1 rfl) (hR 1 0 2 rfl rfl)) ?_
            refine qm_G.s1 rfl (qm_x_iload rfl) ?_
            refine qm_G.s1 rfl (qm_x_iload rfl) ?_
            refine qm_G.cm rfl rfl (hS 2 rfl) rfl ?_
            refine qm_C.go (cd := qm_P38) (lv := [(0, qm_R (some (0, 2, 0))), (1, qm_I (qm_i 1)), (2, qm_I (qm_i a2))]) rfl rfl ?_
            refine qm_G.s1 rfl (qm_x_aload rfl) ?_
            refine qm_G.s1 rfl (qm_x_getfR (q := (some (0, 8, 0))) (hS 2 rfl) (hR 2 4 8 rfl rfl)) ?_
            refine qm_G.s1 rfl (qm_x_iload rfl) ?_
            refine qm_G.s1 rfl (qm_x_aaldg (hS 8 rfl) rfl rfl (by decide) (by decide)) ?_
            refine qm_G.s1 rfl (qm_x_iload rfl) ?_
            have g54 : (J 8 2 (Int.toNat a2) = -1 ∧ J 62 0 (54 + (Int.toNat a2)) = -5) ∨ (J 8 2 (Int.toNat a2) = J 62 0 (54 + (Int.toNat a2)) ∧ 0 ≤ J 62 0 (54 + (Int.toNat a2)) ∧ J 62 0 (54 + (Int.toNat a2)) < J 62 0 7) := hI.mk.dek 1 (Int.toNat a2) (by decide) (by omega)
            refine qm_G.s1 rfl (qm_x_iald (v := (J 8 2 (Int.toNat a2))) (qm_arS hS rfl rfl) rfl (by omega) (by omega) (by decide) rfl) ?_
            refine qm_G.s1 rfl (qm_x_istore (lv' := [(3, qm_I (qm_i (J 8 2 (Int.toNat a2)))), (0, qm_R (some (0, 2, 0))), (1, qm_I (qm_i 1)), (2, qm_I (qm_i a2))]) rfl) ?_
            refine qm_G.s1 rfl (qm_x_iload rfl) ?_
            refine qm_G.s1 rfl (qm_x_pushI (-1) rfl) ?_
            refine qm_y_icmp_ne rfl ⟨by omega, by omega⟩ ⟨by decide, by decide⟩ (fun c55 => ?_) (fun c55 => ?_)
            · refine qm_G.sp (lv1 := [(3, qm_I (qm_i (J 8 2 (Int.toNat a2))))]) rfl rfl (qm_x_iload rfl) ?_
              refine qm_G.ret rfl rfl ⟨_, rfl, ?_⟩
              refine qm_G.s1 rfl (qm_x_istore (lv' := [(4, qm_I (qm_i (J 8 2 (Int.toNat a2)))), (0, qm_R (some (0, 0, 0))), (1, qm_I (qm_i 1)), (2, qm_I (qm_i a2)), (3, qm_I (qm_i a3))]) rfl) ?_
              refine qm_G.s1 rfl (qm_x_aload rfl) ?_
              refine qm_G.s1 rfl (qm_x_getfR (q := (some (0, 1, 0))) (hS 0 rfl) (hR 0 0 1 rfl rfl)) ?_
              refine qm_G.s1 rfl (qm_x_getfR (q := (some (0, 2, 0))) (hS 1 rfl) (hR 1 0 2 rfl rfl)) ?_
              refine qm_G.s1 rfl (qm_x_getfR (q := (some (0, 8, 0))) (hS 2 rfl) (hR 2 4 8 rfl rfl)) ?_
              refine qm_G.s1 rfl (qm_x_iload rfl) ?_
              refine qm_G.s1 rfl (qm_x_aaldg (hS 8 rfl) rfl rfl (by decide) (by decide)) ?_
              refine qm_G.s1 rfl (qm_x_iload rfl) ?_
              refine qm_G.s1 rfl (qm_x_iload rfl) ?_
              refine qm_G.s1 rfl (qm_x_iast (qm_arS hS rfl rfl) rfl (by omega) (by omega) (by decide)) ?_
              refine qm_G.s1 rfl (qm_x_iload rfl) ?_
              refine qm_G.ret rfl rfl ⟨_, rfl, ?_⟩
              refine qm_G.s1 rfl (qm_x_aload rfl) ?_
              refine qm_G.s1 rfl (qm_x_aload rfl) ?_
              refine qm_G.s1 rfl (qm_x_iload rfl) ?_
              refine qm_G.s1 rfl (qm_x_pushI 1 rfl) ?_
              refine qm_G.s1 rfl (qm_x_iadd) ?_
              refine qm_G.s1 rfl (qm_x_iald2v (v := 1) (by omega) (by omega) hX e1) ?_
              refine qm_G.s1 rfl (qm_x_aload rfl) ?_
              refine qm_G.s1 rfl (qm_x_iload rfl) ?_
              refine qm_G.s1 rfl (qm_x_pushI 2 rfl) ?_
              refine qm_G.s1 rfl (qm_x_iadd) ?_
              refine qm_G.s1 rfl (qm_x_iald2v (v := a2) (by omega) (by omega) hX e2) ?_
              refine qm_G.s1 rfl (qm_x_aload rfl) ?_
              refine qm_G.s1 rfl (qm_x_iload rfl) ?_
              refine qm_G.s1 rfl (qm_x_pushI 3 rfl) ?_
              refine qm_G.s1 rfl (qm_x_iadd) ?_
              refine qm_G.s1 rfl (qm_x_iald2v (v := a3) (by omega) (by omega) hX e3) ?_
              refine qm_G.cm rfl rfl (hS 61 rfl) rfl ?_
              refine qm_C.go (cd := qm_P140) (lv := [(0, qm_R (some (0, 61, 0))), (1, qm_I (qm_i 1)), (2, qm_I (qm_i a2)), (3, qm_I (qm_i a3))]) rfl rfl ?_
              refine qm_G.s1 rfl (qm_x_iload rfl) ?_
              refine qm_G.cs rfl rfl rfl ?_
              refine qm_C.go (cd := qm_P80) (lv := [(0, qm_I (qm_i 1))]) rfl rfl ?_
              refine qm_G.s1 rfl (qm_x_iload rfl) ?_
              refine qm_G.s1 rfl (qm_x_pushI 0 rfl) ?_
              refine qm_G.s1 rfl (qm_x_pushI 2 rfl) ?_
              refine qm_G.cs rfl rfl rfl ?_
              refine qm_v_within11_t ⟨by decide, by decide⟩ ⟨by decide, by decide⟩ ⟨by decide, by decide⟩ (by decide) ⟨_, rfl, ?_⟩
              refine qm_G.ret rfl rfl ⟨_, rfl, ?_⟩
              refine qm_G.s1 rfl (qm_x_if_eq_f ⟨by decide, by decide⟩ (by decide)) ?_
              refine qm_G.s1 rfl (qm_x_iload rfl) ?_
              refine qm_G.s1 rfl (qm_x_pushI (-1) rfl) ?_
              refine qm_G.s1 rfl (qm_x_icmp_eq_f ⟨by omega, by omega⟩ ⟨by decide, by decide⟩ (by omega)) ?_
              refine qm_G.s1 rfl (qm_x_aload rfl) ?_
              refine qm_G.s1 rfl (qm_x_iload rfl) ?_
              refine qm_G.cm rfl rfl (hS 61 rfl) rfl ?_
              refine qm_C.go (cd := qm_P82) (lv := [(0, qm_R (some (0, 61, 0))), (1, qm_I (qm_i a3))]) rfl rfl ?_
              refine qm_G.s1 rfl (qm_x_iload rfl) ?_
              refine qm_G.s1 rfl (qm_x_pushI 0 rfl) ?_
              refine qm_G.s1 rfl (qm_x_aload rfl) ?_
              refine qm_G.s1 rfl (qm_x_getfR (q := (some (0, 62, 0))) (hS 61 rfl) (hR 61 0 62 rfl rfl)) ?_
              refine qm_G.s1 rfl (qm_x_pushI 7 rfl) ?_
              refine qm_G.s1 rfl (qm_x_iald (v := (J 62 0 7)) (qm_arS hS rfl rfl) rfl (by decide) (by decide) (by decide) rfl) ?_
              refine qm_G.s1 rfl (qm_x_pushI 1 rfl) ?_
              refine qm_G.s1 rfl (qm_x_isub) ?_
              refine qm_G.cs rfl rfl rfl ?_
              refine qm_v_within11_t ⟨by omega, by omega⟩ ⟨by decide, by decide⟩ ⟨by omega, by omega⟩ (by omega) ⟨_, rfl, ?_⟩
              refine qm_G.ret rfl rfl ⟨_, rfl, ?_⟩
              refine qm_G.s1 rfl (qm_x_if_ne_t ⟨by decide, by decide⟩ (by decide)) ?_
              refine qm_G.sp (lv1 := [(0, qm_R (some (0, 61, 0))), (1, qm_I (qm_i 1)), (2, qm_I (qm_i a2)), (3, qm_I (qm_i a3))]) rfl rfl (qm_x_iload rfl) ?_
              refine qm_G.s1 rfl (qm_x_pushI 0 rfl) ?_
              refine qm_G.s1 rfl (qm_x_pushI 3 rfl) ?_
              refine qm_G.cs rfl rfl rfl ?_
              refine qm_v_within11_t ⟨by omega, by omega⟩ ⟨by decide, by decide⟩ ⟨by decide, by decide⟩ (by omega) ⟨_, rfl, ?_⟩
              refine qm_G.s1 rfl (qm_x_if_ne_t ⟨by decide, by decide⟩ (by decide)) ?_
              refine qm_G.sp (lv1 := [(0, qm_R (some (0, 61, 0))), (1, qm_I (qm_i 1)), (2, qm_I (qm_i a2)), (3, qm_I (qm_i a3))]) rfl rfl (qm_x_aload rfl) ?_
              refine qm_G.s1 rfl (qm_x_iload rfl) ?_
              refine qm_G.s1 rfl (qm_x_iload rfl) ?_
              refine qm_G.cm rfl rfl (hS 61 rfl) rfl ?_
              refine qm_C.go (cd := qm_P26) (lv := [(0, qm_R (some (0, 61, 0))), (1, qm_I (qm_i 1)), (2, qm_I (qm_i a3))]) rfl rfl ?_
              refine qm_G.s1 rfl (qm_x_iload rfl) ?_
              refine qm_G.s1 rfl (qm_x_if_lt_f ⟨by omega, by omega⟩ (by omega)) ?_
              refine qm_G.s1 rfl (qm_x_iload rfl) ?_
              refine qm_G.s1 rfl (qm_x_if_ne_t ⟨by decide, by decide⟩ (by decide)) ?_
              refine qm_G.sp (lv1 := [(0, qm_R (some (0, 61, 0))), (1, qm_I (qm_i 1)), (2, qm_I (qm_i a3))]) rfl rfl (qm_x_aload rfl) ?_
              refine qm_G.s1 rfl (qm_x_getfR (q := (some (0, 62, 0))) (hS 61 rfl) (hR 61 0 62 rfl rfl)) ?_
              refine qm_G.s1 rfl (qm_x_pushI 26 rfl) ?_
              refine qm_G.s1 rfl (qm_x_pushI 3 rfl) ?_
              refine qm_G.s1 rfl (qm_x_iload rfl) ?_
              refine qm_G.s1 rfl (qm_x_imul) ?_
              refine qm_G.s1 rfl (qm_x_iadd) ?_
              refine qm_G.s1 rfl (qm_x_iald (v := (J 62 0 (26 + 3 * (Int.toNat a3)))) (qm_arS hS rfl rfl) rfl (by omega) (by omega) (by decide) (congrArg (J 62 0) (by omega))) ?_
              refine qm_G.s1 rfl (qm_x_istore (lv' := [(3, qm_I (qm_i (J 62 0 (26 + 3 * (Int.toNat a3))))), (0, qm_R (some (0, 61, 0))), (1, qm_I (qm_i 1)), (2, qm_I (qm_i a3))]) rfl) ?_
              refine qm_G.s1 rfl (qm_x_iload rfl) ?_
              refine qm_G.s1 rfl (qm_x_pushI 1 rfl) ?_
              refine qm_G.s1 rfl (qm_x_icmp_ne_f ⟨by decide, by decide⟩ ⟨by decide, by decide⟩ (by decide)) ?_
              refine qm_G.s1 rfl (qm_x_iload rfl) ?_
              refine qm_G.s1 rfl (qm_x_pushI 1 rfl) ?_
              refine qm_G.s1 rfl (qm_x_icmp_eq_t ⟨by omega, by omega⟩ ⟨by decide, by decide⟩ (by omega)) ?_
              refine qm_G.sp (lv1 := []) rfl rfl (qm_x_pushI 1 rfl) ?_
              refine qm_G.s1 rfl (qm_x_goto) ?_
              refine qm_G.ret rfl rfl ⟨_, rfl, ?_⟩
              refine qm_G.s1 rfl (qm_x_if_ne_t ⟨by decide, by decide⟩ (by decide)) ?_
              refine qm_G.sp (lv1 := [(0, qm_R (some (0, 61, 0))), (1, qm_I (qm_i 1)), (2, qm_I (qm_i a2)), (3, qm_I (qm_i a3))]) rfl rfl (qm_x_aload rfl) ?_
              refine qm_G.s1 rfl (qm_x_pushI 50 rfl) ?_
              refine qm_G.s1 rfl (qm_x_pushI 4 rfl) ?_
              refine qm_G.s1 rfl (qm_x_iload rfl) ?_
              refine qm_G.s1 rfl (qm_x_imul) ?_
              refine qm_G.s1 rfl (qm_x_iadd) ?_
              refine qm_G.s1 rfl (qm_x_iload rfl) ?_
              refine qm_G.s1 rfl (qm_x_iadd) ?_
              refine qm_G.s1 rfl (qm_x_iload rfl) ?_
              refine qm_G.s1 rfl (qm_x_pushI (-1) rfl) ?_
              refine qm_G.s1 rfl (qm_x_icmp_ne_t ⟨by omega, by omega⟩ ⟨by decide, by decide⟩ (by omega)) ?_
              refine qm_G.sp (lv1 := [(3, qm_I (qm_i a3))]) rfl rfl (qm_x_iload rfl) ?_
              refine qm_G.cm rfl rfl (hS 61 rfl) rfl ?_
              refine qm_C.go (cd := qm_P22) (lv := [(0, qm_R (some (0, 61, 0))), (1, qm_I (qm_i ((50 + (4 * 1)) + a2))), (2, qm_I (qm_i a3))]) rfl rfl ?_
              refine qm_G.s1 rfl (qm_x_aload rfl) ?_
              refine qm_G.s1 rfl (qm_x_getfR (q := (some (0, 62, 0))) (hS 61 rfl) (hR 61 0 62 rfl rfl)) ?_
              refine qm_G.s1 rfl (qm_x_iload rfl) ?_
              refine qm_G.s1 rfl (qm_x_iald (v := (J 62 0 (54 + (Int.toNat a2)))) (qm_arS hS rfl rfl) rfl (by omega) (by omega) (by decide) (congrArg (J 62 0) (by omega))) ?_
              refine qm_G.s1 rfl (qm_x_istore (lv' := [(3, qm_I (qm_i (J 62 0 (54 + (Int.toNat a2))))), (0, qm_R (some (0, 61, 0))), (1, qm_I (qm_i ((50 + (4 * 1)) + a2))), (2, qm_I (qm_i a3))]) rfl) ?_
              refine qm_G.s1 rfl (qm_x_aload rfl) ?_
              refine qm_G.s1 rfl (qm_x_getfR (q := (some (0, 62, 0))) (hS 61 rfl) (hR 61 0 62 rfl rfl)) ?_
              refine qm_G.s1 rfl (qm_x_iload rfl) ?_
              refine qm_G.s1 rfl (qm_x_iload rfl) ?_
              refine qm_G.s1 rfl (qm_x_iast (qm_arS hS rfl rfl) rfl (by omega) (by omega) (by decide)) ?_
              refine qm_G.s1 rfl (qm_x_iload rfl) ?_
              refine qm_G.ret rfl rfl ⟨_, rfl, ?_⟩
              refine qm_G.ret rfl rfl ⟨_, rfl, ?_⟩
              refine qm_G.s1 rfl (qm_x_icmp_eq_t ⟨by omega, by omega⟩ ⟨by omega, by omega⟩ (by omega)) ?_
              rw [show (Int.toNat ((50 + (4 * 1)) + a2)) = 54 + (Int.toNat a2) by omega]
              exact ih _ _ _ _ _ _ (qm_U_dek1 (by omega) (by omega) hI)
            · refine qm_G.s1 rfl (qm_x_pushI (-5) rfl) ?_
              refine qm_G.s1 rfl (qm_x_goto) ?_
              refine qm_G.ret rfl rfl ⟨_, rfl, ?_⟩
              refine qm_G.s1 rfl (qm_x_istore (lv' := [(4, qm_I (qm_i (-5))), (0, qm_R (some (0, 0, 0))), (1, qm_I (qm_i 1)), (2, qm_I (qm_i a2)), (3, qm_I (qm_i a3))]) rfl) ?_
              refine qm_G.s1 rfl (qm_x_aload rfl) ?_
              refine qm_G.s1 rfl (qm_x_getfR (q := (some (0, 1, 0))) (hS 0 rfl) (hR 0 0 1 rfl rfl)) ?_
              refine qm_G.s1 rfl (qm_x_getfR (q := (some (0, 2, 0))) (hS 1 rfl) (hR 1 0 2 rfl rfl)) ?_
              refine qm_G.s1 rfl (qm_x_getfR (q := (some (0, 8, 0))) (hS 2 rfl) (hR 2 4 8 rfl rfl)) ?_
              refine qm_G.s1 rfl (qm_x_iload rfl) ?_
              refine qm_G.s1 rfl (qm_x_aaldg (hS 8 rfl) rfl rfl (by decide) (by decide)) ?_
              refine qm_G.s1 rfl (qm_x_iload rfl) ?_
              refine qm_G.s1 rfl (qm_x_iload rfl) ?_
              refine qm_G.s1 rfl (qm_x_iast (qm_arS hS rfl rfl) rfl (by omega) (by omega) (by decide)) ?_
              refine qm_G.s1 rfl (qm_x_iload rfl) ?_
              refine qm_G.ret rfl rfl ⟨_, rfl, ?_⟩
              refine qm_G.s1 rfl (qm_x_aload rfl) ?_
              refine qm_G.s1 rfl (qm_x_aload rfl) ?_
              refine qm_G.s1 rfl (qm_x_iload rfl) ?_
              refine qm_G.s1 rfl (qm_x_pushI 1 rfl) ?_
              refine qm_G.s1 rfl (qm_x_iadd) ?_
              refine qm_G.s1 rfl (qm_x_iald2v (v := 1) (by omega) (by omega) hX e1) ?_
              refine qm_G.s1 rfl (qm_x_aload rfl) ?_
              refine qm_G.s1 rfl (qm_x_iload rfl) ?_
              refine qm_G.s1 rfl (qm_x_pushI 2 rfl) ?_
              refine qm_G.s1 rfl (qm_x_iadd) ?_
              refine qm_G.s1 rfl (qm_x_iald2v (v := a2) (by omega) (by omega) hX e2) ?_
              refine qm_G.s1 rfl (qm_x_aload rfl) ?_
              refine qm_G.s1 rfl (qm_x_iload rfl) ?_
              refine qm_G.s1 rfl (qm_x_pushI 3 rfl) ?_
              refine qm_G.s1 rfl (qm_x_iadd) ?_
              refine qm_G.s1 rfl (qm_x_iald2v (v := a3) (by omega) (by omega) hX e3) ?_
              refine qm_G.cm rfl rfl (hS 61 rfl) rfl ?_
              refine qm_C.go (cd := qm_P140) (lv := [(0, qm_R (some (0, 61, 0))), (1, qm_I (qm_i 1)), (2, qm_I (qm_i a2)), (3, qm_I (qm_i a3))]) rfl rfl ?_
              refine qm_G.s1 rfl (qm_x_iload rfl) ?_
              refine qm_G.cs rfl rfl rfl ?_
              refine qm_C.go (cd := qm_P80) (lv := [(0, qm_I (qm_i 1))]) rfl rfl ?_
              refine qm_G.s1 rfl (qm_x_iload rfl) ?_
              refine qm_G.s1 rfl (qm_x_pushI 0 rfl) ?_
              refine qm_G.s1 rfl (qm_x_pushI 2 rfl) ?_
              refine qm_G.cs rfl rfl rfl ?_
              refine qm_v_within11_t ⟨by decide, by decide⟩ ⟨by decide, by decide⟩ ⟨by decide, by decide⟩ (by decide) ⟨_, rfl, ?_⟩
              refine qm_G.ret rfl rfl ⟨_, rfl, ?_⟩
              refine qm_G.s1 rfl (qm_x_if_eq_f ⟨by decide, by decide⟩ (by decide)) ?_
              refine qm_G.s1 rfl (qm_x_iload rfl) ?_
              refine qm_G.s1 rfl (qm_x_pushI (-1) rfl) ?_
              refine qm_G.s1 rfl (qm_x_icmp_eq_f ⟨by omega, by omega⟩ ⟨by decide, by decide⟩ (by omega)) ?_
              refine qm_G.s1 rfl (qm_x_aload rfl) ?_
              refine qm_G.s1 rfl (qm_x_iload rfl) ?_
              refine qm_G.cm rfl rfl (hS 61 rfl) rfl ?_
              refine qm_C.go (cd := qm_P82) (lv := [(0, qm_R (some (0, 61, 0))), (1, qm_I (qm_i a3))]) rfl rfl ?_
              refine qm_G.s1 rfl (qm_x_iload rfl) ?_
              refine qm_G.s1 rfl (qm_x_pushI 0 rfl) ?_
              refine qm_G.s1 rfl (qm_x_aload rfl) ?_
              refine qm_G.s1 rfl (qm_x_getfR (q := (some (0, 62, 0))) (hS 61 rfl) (hR 61 0 62 rfl rfl)) ?_
              refine qm_G.s1 rfl (qm_x_pushI 7 rfl) ?_
              refine qm_G.s1 rfl (qm_x_iald (v := (J 62 0 7)) (qm_arS hS rfl rfl) rfl (by decide) (by decide) (by decide) rfl) ?_
              refine qm_G.s1 rfl (qm_x_pushI 1 rfl) ?_
              refine qm_G.s1 rfl (qm_x_isub) ?_
              refine qm_G.cs rfl rfl rfl ?_
              refine qm_v_within11_t ⟨by omega, by omega⟩ ⟨by decide, by decide⟩ ⟨by omega, by omega⟩ (by omega) ⟨_, rfl, ?_⟩
              refine qm_G.ret rfl rfl ⟨_, rfl, ?_⟩
              refine qm_G.s1 rfl (qm_x_if_ne_t ⟨by decide, by decide⟩ (by decide)) ?_
              refine qm_G.sp (lv1 := [(0, qm_R (some (0, 61, 0))), (1, qm_I (qm_i 1)), (2, qm_I (qm_i a2)), (3, qm_I (qm_i a3))]) rfl rfl (qm_x_iload rfl) ?_
              refine qm_G.s1 rfl (qm_x_pushI 0 rfl) ?_
              refine qm_G.s1 rfl (qm_x_pushI 3 rfl) ?_
              refine qm_G.cs rfl rfl rfl ?_
              refine qm_v_within11_t ⟨by omega, by omega⟩ ⟨by decide, by decide⟩ ⟨by decide, by decide⟩ (by omega) ⟨_, rfl, ?_⟩
              refine qm_G.s1 rfl (qm_x_if_ne_t ⟨by decide, by decide⟩ (by decide)) ?_
              refine qm_G.sp (lv1 := [(0, qm_R (some (0, 61, 0))), (1, qm_I (qm_i 1)), (2, qm_I (qm_i a2)), (3, qm_I (qm_i a3))]) rfl rfl (qm_x_aload rfl) ?_
              refine qm_G.s1 rfl (qm_x_iload rfl) ?_
              refine qm_G.s1 rfl (qm_x_iload rfl) ?_
              refine qm_G.cm rfl rfl (hS 61 rfl) rfl ?_
              refine qm_C.go (cd := qm_P26) (lv := [(0, qm_R (some (0, 61, 0))), (1, qm_I (qm_i 1)), (2, qm_I (qm_i a3))]) rfl rfl ?_
              refine qm_G.s1 rfl (qm_x_iload rfl) ?_
              refine qm_G.s1 rfl (qm_x_if_lt_f ⟨by omega, by omega⟩ (by omega)) ?_
              refine qm_G.s1 rfl (qm_x_iload rfl) ?_
              refine qm_G.s1 rfl (qm_x_if_ne_t ⟨by decide, by decide⟩ (by decide)) ?_
              refine qm_G.sp (lv1 := [(0, qm_R (some (0, 61, 0))), (1, qm_I (qm_i 1)), (2, qm_I (qm_i a3))]) rfl rfl (qm_x_aload rfl) ?_
              refine qm_G.s1 rfl (qm_x_getfR (q := (some (0, 62, 0))) (hS 61 rfl) (hR 61 0 62 rfl rfl)) ?_
              refine qm_G.s1 rfl (qm_x_pushI 26 rfl) ?_
              refine qm_G.s1 rfl (qm_x_pushI 3 rfl) ?_
              refine qm_G.s1 rfl (qm_x_iload rfl) ?_
              refine qm_G.s1 rfl (qm_x_imul) ?_
              refine qm_G.s1 rfl (qm_x_iadd) ?_
              refine qm_G.s1 rfl (qm_x_iald (v := (J 62 0 (26 + 3 * (Int.toNat a3)))) (qm_arS hS rfl rfl) rfl (by omega) (by omega) (by decide) (congrArg (J 62 0) (by omega))) ?_
              refine qm_G.s1 rfl (qm_x_istore (lv' := [(3, qm_I (qm_i (J 62 0 (26 + 3 * (Int.toNat a3))))), (0, qm_R (some (0, 61, 0))), (1, qm_I (qm_i 1)), (2, qm_I (qm_i a3))]) rfl) ?_
              refine qm_G.s1 rfl (qm_x_iload rfl) ?_
              refine qm_G.s1 rfl (qm_x_pushI 1 rfl) ?_
              refine qm_G.s1 rfl (qm_x_icmp_ne_f ⟨by decide, by decide⟩ ⟨by decide, by decide⟩ (by decide)) ?_
              refine qm_G.s1 rfl (qm_x_iload rfl) ?_
              refine qm_G.s1 rfl (qm_x_pushI 1 rfl) ?_
              refine qm_G.s1 rfl (qm_x_icmp_eq_t ⟨by omega, by omega⟩ ⟨by decide, by decide⟩ (by omega)) ?_
              refine qm_G.sp (lv1 := []) rfl rfl (qm_x_pushI 1 rfl) ?_
              refine qm_G.s1 rfl (qm_x_goto) ?_
              refine qm_G.ret rfl rfl ⟨_, rfl, ?_⟩
              refine qm_G.s1 rfl (qm_x_if_ne_t ⟨by decide, by decide⟩ (by decide)) ?_
              refine qm_G.sp (lv1 := [(0, qm_R (some (0, 61, 0))), (1, qm_I (qm_i 1)), (2, qm_I (qm_i a2)), (3, qm_I (qm_i a3))]) rfl rfl (qm_x_aload rfl) ?_
              refine qm_G.s1 rfl (qm_x_pushI 50 rfl) ?_
              refine qm_G.s1 rfl (qm_x_pushI 4 rfl) ?_
              refine qm_G.s1 rfl (qm_x_iload rfl) ?_
              refine qm_G.s1 rfl (qm_x_imul) ?_
              refine qm_G.s1 rfl (qm_x_iadd) ?_
              refine qm_G.s1 rfl (qm_x_iload rfl) ?_
              refine qm_G.s1 rfl (qm_x_iadd) ?_
              refine qm_G.s1 rfl (qm_x_iload rfl) ?_
              refine qm_G.s1 rfl (qm_x_pushI (-1) rfl) ?_
              refine qm_G.s1 rfl (qm_x_icmp_ne_t ⟨by omega, by omega⟩ ⟨by decide, by decide⟩ (by omega)) ?_
              refine qm_G.sp (lv1 := [(3, qm_I (qm_i a3))]) rfl rfl (qm_x_iload rfl) ?_
              refine qm_G.cm rfl rfl (hS 61 rfl) rfl ?_
              refine qm_C.go (cd := qm_P22) (lv := [(0, qm_R (some (0, 61, 0))), (1, qm_I (qm_i ((50 + (4 * 1)) + a2))), (2, qm_I (qm_i a3))]) rfl rfl ?_
              refine qm_G.s1 rfl (qm_x_aload rfl) ?_
              refine qm_G.s1 rfl (qm_x_getfR (q := (some (0, 62, 0))) (hS 61 rfl) (hR 61 0 62 rfl rfl)) ?_
              refine qm_G.s1 rfl (qm_x_iload rfl) ?_
              refine qm_G.s1 rfl (qm_x_iald (v := (J 62 0 (54 + (Int.toNat a2)))) (qm_arS hS rfl rfl) rfl (by omega) (by omega) (by decide) (congrArg (J 62 0) (by omega))) ?_
              refine qm_G.s1 rfl (qm_x_istore (lv' := [(3, qm_I (qm_i (J 62 0 (54 + (Int.toNat a2))))), (0, qm_R (some (0, 61, 0))), (1, qm_I (qm_i ((50 + (4 * 1)) + a2))), (2, qm_I (qm_i a3))]) rfl) ?_
              refine qm_G.s1 rfl (qm_x_aload rfl) ?_
              refine qm_G.s1 rfl (qm_x_getfR (q := (some (0, 62, 0))) (hS 61 rfl) (hR 61 0 62 rfl rfl)) ?_
              refine qm_G.s1 rfl (qm_x_iload rfl) ?_
              refine qm_G.s1 rfl (qm_x_iload rfl) ?_
              refine qm_G.s1 rfl (qm_x_iast (qm_arS hS rfl rfl) rfl (by omega) (by omega) (by decide)) ?_
              refine qm_G.s1 rfl (qm_x_iload rfl) ?_
              refine qm_G.ret rfl rfl ⟨_, rfl, ?_⟩
              refine qm_G.ret rfl rfl ⟨_, rfl, ?_⟩
              refine qm_G.s1 rfl (qm_x_icmp_eq_t ⟨by decide, by decide⟩ ⟨by omega, by omega⟩ (by omega)) ?_
              rw [show (Int.toNat ((50 + (4 * 1)) + a2)) = 54 + (Int.toNat a2) by omega]
              exact ih _ _ _ _ _ _ (qm_U_dek1 (by omega) (by omega) hI)
          · refine qm_G.s1 rfl (qm_x_aload rfl) ?_
            refine qm_G.s1 rfl (qm_x_getfI (v := (J q51 0 0)) g52s rfl) ?_
            refine qm_G.s1 rfl (qm_x_pushI 3 rfl) ?_
            refine qm_y_icmp_ne rfl ⟨by omega, by omega⟩ ⟨by decide, by decide⟩ (fun c62 => ?_) (fun c62 => ?_)
            · refine qm_G.sp (lv1 := []) rfl rfl (qm_x_pushI 0 rfl) ?_
              refine qm_G.ret rfl rfl ⟨_, rfl, ?_⟩
              refine qm_G.s1 rfl (qm_x_goto) ?_
              refine qm_G.ret rfl rfl ⟨_, rfl, ?_⟩
              refine qm_G.s1 rfl (qm_x_if_ne_f ⟨by decide, by decide⟩ (by decide)) ?_
              refine qm_G.s1 rfl (qm_x_pushI (-12) rfl) ?_
              refine qm_G.ret rfl rfl ⟨_, rfl, ?_⟩
              refine qm_G.s1 rfl (qm_x_aload rfl) ?_
              refine qm_G.s1 rfl (qm_x_aload rfl) ?_
              refine qm_G.s1 rfl (qm_x_iload rfl) ?_
              refine qm_G.s1 rfl (qm_x_pushI 1 rfl) ?_
              refine qm_G.s1 rfl (qm_x_iadd) ?_
              refine qm_G.s1 rfl (qm_x_iald2v (v := 1) (by omega) (by omega) hX e1) ?_
              refine qm_G.s1 rfl (qm_x_aload rfl) ?_
              refine qm_G.s1 rfl (qm_x_iload rfl) ?_
              refine qm_G.s1 rfl (qm_x_pushI 2 rfl) ?_
              refine qm_G.s1 rfl (qm_x_iadd) ?_
              refine qm_G.s1 rfl (qm_x_iald2v (v := a2) (by omega) (by omega) hX e2) ?_
              refine qm_G.s1 rfl (qm_x_aload rfl) ?_
              refine qm_G.s1 rfl (qm_x_iload rfl) ?_
              refine qm_G.s1 rfl (qm_x_pushI 3 rfl) ?_
              refine qm_G.s1 rfl (qm_x_iadd) ?_
              refine qm_G.s1 rfl (qm_x_iald2v (v := a3) (by omega) (by omega) hX e3) ?_
              refine qm_G.cm rfl rfl (hS 61 rfl) rfl ?_
              refine qm_C.go (cd := qm_P140) (lv := [(0, qm_R (some (0, 61, 0))), (1, qm_I (qm_i 1)), (2, qm_I (qm_i a2)), (3, qm_I (qm_i a3))]) rfl rfl ?_
              refine qm_G.s1 rfl (qm_x_iload rfl) ?_
              refine qm_G.cs rfl rfl rfl ?_
              refine qm_C.go (cd := qm_P80) (lv := [(0, qm_I (qm_i 1))]) rfl rfl ?_
              refine qm_G.s1 rfl (qm_x_iload rfl) ?_
              refine qm_G.s1 rfl (qm_x_pushI 0 rfl) ?_
              refine qm_G.s1 rfl (qm_x_pushI 2 rfl) ?_
              refine qm_G.cs rfl rfl rfl ?_
              refine qm_v_within11_t ⟨by decide, by decide⟩ ⟨by decide, by decide⟩ ⟨by decide, by decide⟩ (by decide) ⟨_, rfl, ?_⟩
              refine qm_G.ret rfl rfl ⟨_, rfl, ?_⟩
              refine qm_G.s1 rfl (qm_x_if_eq_f ⟨by decide, by decide⟩ (by decide)) ?_
              refine qm_G.s1 rfl (qm_x_iload rfl) ?_
              refine qm_G.s1 rfl (qm_x_pushI (-1) rfl) ?_
              refine qm_G.s1 rfl (qm_x_icmp_eq_f ⟨by omega, by omega⟩ ⟨by decide, by decide⟩ (by omega)) ?_
              refine qm_G.s1 rfl (qm_x_aload rfl) ?_
              refine qm_G.s1 rfl (qm_x_iload rfl) ?_
              refine qm_G.cm rfl rfl (hS 61 rfl) rfl ?_
              refine qm_C.go (cd := qm_P82) (lv := [(0, qm_R (some (0, 61, 0))), (1, qm_I (qm_i a3))]) rfl rfl ?_
              refine qm_G.s1 rfl (qm_x_iload rfl) ?_
              refine qm_G.s1 rfl (qm_x_pushI 0 rfl) ?_
              refine qm_G.s1 rfl (qm_x_aload rfl) ?_
              refine qm_G.s1 rfl (qm_x_getfR (q := (some (0, 62, 0))) (hS 61 rfl) (hR 61 0 62 rfl rfl)) ?_
              refine qm_G.s1 rfl (qm_x_pushI 7 rfl) ?_
              refine qm_G.s1 rfl (qm_x_iald (v := (J 62 0 7)) (qm_arS hS rfl rfl) rfl (by decide) (by decide) (by decide) rfl) ?_
              refine qm_G.s1 rfl (qm_x_pushI 1 rfl) ?_
              refine qm_G.s1 rfl (qm_x_isub) ?_
              refine qm_G.cs rfl rfl rfl ?_
              refine qm_v_within11_t ⟨by omega, by omega⟩ ⟨by decide, by decide⟩ ⟨by omega, by omega⟩ (by omega) ⟨_, rfl, ?_⟩
              refine qm_G.ret rfl rfl ⟨_, rfl, ?_⟩
              refine qm_G.s1 rfl (qm_x_if_ne_t ⟨by decide, by decide⟩ (by decide)) ?_
              refine qm_G.sp (lv1 := [(0, qm_R (some (0, 61, 0))), (1, qm_I (qm_i 1)), (2, qm_I (qm_i a2)), (3, qm_I (qm_i a3))]) rfl rfl (qm_x_iload rfl) ?_
              refine qm_G.s1 rfl (qm_x_pushI 0 rfl) ?_
              refine qm_G.s1 rfl (qm_x_pushI 3 rfl) ?_
              refine qm_G.cs rfl rfl rfl ?_
              refine qm_v_within11_t ⟨by omega, by omega⟩ ⟨by decide, by decide⟩ ⟨by decide, by decide⟩ (by omega) ⟨_, rfl, ?_⟩
              refine qm_G.s1 rfl (qm_x_if_ne_t ⟨by decide, by decide⟩ (by decide)) ?_
              refine qm_G.sp (lv1 := [(0, qm_R (some (0, 61, 0))), (1, qm_I (qm_i 1)), (2, qm_I (qm_i a2)), (3, qm_I (qm_i a3))]) rfl rfl (qm_x_aload rfl) ?_
              refine qm_G.s1 rfl (qm_x_iload rfl) ?_
              refine qm_G.s1 rfl (qm_x_iload rfl) ?_
              refine qm_G.cm rfl rfl (hS 61 rfl) rfl ?_
              refine qm_C.go (cd := qm_P26) (lv := [(0, qm_R (some (0, 61, 0))), (1, qm_I (qm_i 1)), (2, qm_I (qm_i a3))]) rfl rfl ?_
              refine qm_G.s1 rfl (qm_x_iload rfl) ?_
              refine qm_G.s1 rfl (qm_x_if_lt_f ⟨by omega, by omega⟩ (by omega)) ?_
              refine qm_G.s1 rfl (qm_x_iload rfl) ?_
              refine qm_G.s1 rfl (qm_x_if_ne_t ⟨by decide, by decide⟩ (by decide)) ?_
              refine qm_G.sp (lv1 := [(0, qm_R (some (0, 61, 0))), (1, qm_I (qm_i 1)), (2, qm_I (qm_i a3))]) rfl rfl (qm_x_aload rfl) ?_
              refine qm_G.s1 rfl (qm_x_getfR (q := (some (0, 62, 0))) (hS 61 rfl) (hR 61 0 62 rfl rfl)) ?_
              refine qm_G.s1 rfl (qm_x_pushI 26 rfl) ?_
              refine qm_G.s1 rfl (qm_x_pushI 3 rfl) ?_
              refine qm_G.s1 rfl (qm_x_iload rfl) ?_
              refine qm_G.s1 rfl (qm_x_imul) ?_
              refine qm_G.s1 rfl (qm_x_iadd) ?_
              refine qm_G.s1 rfl (qm_x_iald (v := (J 62 0 (26 + 3 * (Int.toNat a3)))) (qm_arS hS rfl rfl) rfl (by omega) (by omega) (by decide) (congrArg (J 62 0) (by omega))) ?_
              refine qm_G.s1 rfl (qm_x_istore (lv' := [(3, qm_I (qm_i (J 62 0 (26 + 3 * (Int.toNat a3))))), (0, qm_R (some (0, 61, 0))), (1, qm_I (qm_i 1)), (2, qm_I (qm_i a3))]) rfl) ?_
              refine qm_G.s1 rfl (qm_x_iload rfl) ?_
              refine qm_G.s1 rfl (qm_x_pushI 1 rfl) ?_
              refine qm_G.s1 rfl (qm_x_icmp_ne_f ⟨by decide, by decide⟩ ⟨by decide, by decide⟩ (by decide)) ?_
              refine qm_G.s1 rfl (qm_x_iload rfl) ?_
              refine qm_G.s1 rfl (qm_x_pushI 1 rfl) ?_
              refine qm_G.s1 rfl (qm_x_icmp_eq_f ⟨by omega, by omega⟩ ⟨by decide, by decide⟩ (by omega)) ?_
              refine qm_G.s1 rfl (qm_x_iload rfl) ?_
              refine qm_G.s1 rfl (qm_x_pushI 3 rfl) ?_
              refine qm_G.s1 rfl (qm_x_icmp_ne_t ⟨by omega, by omega⟩ ⟨by decide, by decide⟩ (by omega)) ?_
              refine qm_G.sp (lv1 := []) rfl rfl (qm_x_pushI 0 rfl) ?_
              refine qm_G.s1 rfl (qm_x_goto) ?_
              refine qm_G.ret rfl rfl ⟨_, rfl, ?_⟩
              refine qm_G.s1 rfl (qm_x_if_ne_f ⟨by decide, by decide⟩ (by decide)) ?_
              refine qm_G.s1 rfl (qm_x_pushI (-12) rfl) ?_
              refine qm_G.ret rfl rfl ⟨_, rfl, ?_⟩
              refine qm_G.s1 rfl (qm_x_icmp_eq_t ⟨by decide, by decide⟩ ⟨by decide, by decide⟩ (by decide)) ?_
              exact ih _ _ _ _ _ _ hI.next
            · refine qm_G.sp (lv1 := []) rfl rfl (qm_x_pushI 1 rfl) ?_
              refine qm_G.s1 rfl (qm_x_goto) ?_
              refine qm_G.ret rfl rfl ⟨_, rfl, ?_⟩
              refine qm_G.s1 rfl (qm_x_goto) ?_
              refine qm_G.ret rfl rfl ⟨_, rfl, ?_⟩
              refine qm_G.s1 rfl (qm_x_if_ne_t ⟨by decide, by decide⟩ (by decide)) ?_
              refine qm_G.sp (lv1 := [(0, qm_R (some (0, 0, 0))), (1, qm_I (qm_i 1)), (2, qm_I (qm_i a2)), (3, qm_I (qm_i a3))]) rfl rfl (qm_x_aload rfl) ?_
              refine qm_G.s1 rfl (qm_x_getfR (q := (some (0, 1, 0))) (hS 0 rfl) (hR 0 0 1 rfl rfl)) ?_
              refine qm_G.s1 rfl (qm_x_getfR (q := (some (0, 2, 0))) (hS 1 rfl) (hR 1 0 2 rfl rfl)) ?_
              refine qm_G.s1 rfl (qm_x_iload rfl) ?_
              refine qm_G.s1 rfl (qm_x_iload rfl) ?_
              refine qm_G.cm rfl rfl (hS 2 rfl) rfl ?_
              refine qm_C.go (cd := qm_P38) (lv := [(0, qm_R (some (0, 2, 0))), (1, qm_I (qm_i 1)), (2, qm_I (qm_i a2))]) rfl rfl ?_
              refine qm_G.s1 rfl (qm_x_aload rfl) ?_
              refine qm_G.s1 rfl (qm_x_getfR (q := (some (0, 8, 0))) (hS 2 rfl) (hR 2 4 8 rfl rfl)) ?_
              refine qm_G.s1 rfl (qm_x_iload rfl) ?_
              refine qm_G.s1 rfl (qm_x_aaldg (hS 8 rfl) rfl rfl (by decide) (by decide)) ?_
              refine qm_G.s1 rfl (qm_x_iload rfl) ?_
              have g66 : (J 8 2 (Int.toNat a2) = -1 ∧ J 62 0 (54 + (Int.toNat a2)) = -5) ∨ (J 8 2 (Int.toNat a2) = J 62 0 (54 + (Int.toNat a2)) ∧ 0 ≤ J 62 0 (54 + (Int.toNat a2)) ∧ J 62 0 (54 + (Int.toNat a2)) < J 62 0 7) := hI.mk.dek 1 (Int.toNat a2) (by decide) (by omega)
              refine qm_G.s1 rfl (qm_x_iald (v := (J 8 2 (Int.toNat a2))) (qm_arS hS rfl rfl) rfl (by omega) (by omega) (by decide) rfl) ?_
              refine qm_G.s1 rfl (qm_x_istore (lv' := [(3, qm_I (qm_i (J 8 2 (Int.toNat a2)))), (0, qm_R (some (0, 2, 0))), (1, qm_I (qm_i 1)), (2, qm_I (qm_i a2))]) rfl) ?_
              refine qm_G.s1 rfl (qm_x_iload rfl) ?_
              refine qm_G.s1 rfl (qm_x_pushI (-1) rfl) ?_
              refine qm_y_icmp_ne rfl ⟨by omega, by omega⟩ ⟨by decide, by decide⟩ (fun c67 => ?_) (fun c67 => ?_)
              · refine qm_G.sp (lv1 := [(3, qm_I (qm_i (J 8 2 (Int.toNat a2))))]) rfl rfl (qm_x_iload rfl) ?_
                refine qm_G.ret rfl rfl ⟨_, rfl, ?_⟩
                refine qm_G.s1 rfl (qm_x_istore (lv' := [(4, qm_I (qm_i (J 8 2 (Int.toNat a2)))), (0, qm_R (some (0, 0, 0))), (1, qm_I (qm_i 1)), (2, qm_I (qm_i a2)), (3, qm_I (qm_i a3))]) rfl) ?_
                refine qm_G.s1 rfl (qm_x_aload rfl) ?_
                refine qm_G.s1 rfl (qm_x_getfR (q := (some (0, 1, 0))) (hS 0 rfl) (hR 0 0 1 rfl rfl)) ?_
                refine qm_G.s1 rfl (qm_x_getfR (q := (some (0, 2, 0))) (hS 1 rfl) (hR 1 0 2 rfl rfl)) ?_
                refine qm_G.s1 rfl (qm_x_getfR (q := (some (0, 8, 0))) (hS 2 rfl) (hR 2 4 8 rfl rfl)) ?_
                refine qm_G.s1 rfl (qm_x_iload rfl) ?_
                refine qm_G.s1 rfl (qm_x_aaldg (hS 8 rfl) rfl rfl (by decide) (by decide)) ?_
                refine qm_G.s1 rfl (qm_x_iload rfl) ?_
                refine qm_G.s1 rfl (qm_x_iload rfl) ?_
                refine qm_G.s1 rfl (qm_x_iast (qm_arS hS rfl rfl) rfl (by omega) (by omega) (by decide)) ?_
                refine qm_G.s1 rfl (qm_x_iload rfl) ?_
                refine qm_G.ret rfl rfl ⟨_, rfl, ?_⟩
                refine qm_G.s1 rfl (qm_x_aload rfl) ?_
                refine qm_G.s1 rfl (qm_x_aload rfl) ?_
                refine qm_G.s1 rfl (qm_x_iload rfl) ?_
                refine qm_G.s1 rfl (qm_x_pushI 1 rfl) ?_
                refine qm_G.s1 rfl (qm_x_iadd) ?_
                refine qm_G.s1 rfl (qm_x_iald2v (v := 1) (by omega) (by omega) hX e1) ?_
                refine qm_G.s1 rfl (qm_x_aload rfl) ?_
                refine qm_G.s1 rfl (qm_x_iload rfl) ?_
                refine qm_G.s1 rfl (qm_x_pushI 2 rfl) ?_
                refine qm_G.s1 rfl (qm_x_iadd) ?_
                refine qm_G.s1 rfl (qm_x_iald2v (v := a2) (by omega) (by omega) hX e2) ?_
                refine qm_G.s1 rfl (qm_x_aload rfl) ?_
                refine qm_G.s1 rfl (qm_x_iload rfl) ?_
                refine qm_G.s1 rfl (qm_x_pushI 3 rfl) ?_
                refine qm_G.s1 rfl (qm_x_iadd) ?_
                refine qm_G.s1 rfl (qm_x_iald2v (v := a3) (by omega) (by omega) hX e3) ?_
                refine qm_G.cm rfl rfl (hS 61 rfl) rfl ?_
                refine qm_C.go (cd := qm_P140) (lv := [(0, qm_R (some (0, 61, 0))), (1, qm_I (qm_i 1)), (2, qm_I (qm_i a2)), (3, qm_I (qm_i a3))]) rfl rfl ?_
                refine qm_G.s1 rfl (qm_x_iload rfl) ?_
                refine qm_G.cs rfl rfl rfl ?_
                refine qm_C.go (cd := qm_P80) (lv := [(0, qm_I (qm_i 1))]) rfl rfl ?_
                refine qm_G.s1 rfl (qm_x_iload rfl) ?_
                refine qm_G.s1 rfl (qm_x_pushI 0 rfl) ?_
                refine qm_G.s1 rfl (qm_x_pushI 2 rfl) ?_
                refine qm_G.cs rfl rfl rfl ?_
                refine qm_v_within11_t ⟨by decide, by decide⟩ ⟨by decide, by decide⟩ ⟨by decide, by decide⟩ (by decide) ⟨_, rfl, ?_⟩
                refine qm_G.ret rfl rfl ⟨_, rfl, ?_⟩
                refine qm_G.s1 rfl (qm_x_if_eq_f ⟨by decide, by decide⟩ (by decide)) ?_
                refine qm_G.s1 rfl (qm_x_iload rfl) ?_
                refine qm_G.s1 rfl (qm_x_pushI (-1) rfl) ?_
                refine qm_G.s1 rfl (qm_x_icmp_eq_f ⟨by omega, by omega⟩ ⟨by decide, by decide⟩ (by omega)) ?_
                refine qm_G.s1 rfl (qm_x_aload rfl) ?_
                refine qm_G.s1 rfl (qm_x_iload rfl) ?_
                refine qm_G.cm rfl rfl (hS 61 rfl) rfl ?_
                refine qm_C.go (cd := qm_P82) (lv := [(0, qm_R (some (0, 61, 0))), (1, qm_I (qm_i a3))]) rfl rfl ?_
                refine qm_G.s1 rfl (qm_x_iload rfl) ?_
                refine qm_G.s1 rfl (qm_x_pushI 0 rfl) ?_
                refine qm_G.s1 rfl (qm_x_aload rfl) ?_
                refine qm_G.s1 rfl (qm_x_getfR (q := (some (0, 62, 0))) (hS 61 rfl) (hR 61 0 62 rfl rfl)) ?_
                refine qm_G.s1 rfl (qm_x_pushI 7 rfl) ?_
                refine qm_G.s1 rfl (qm_x_iald (v := (J 62 0 7)) (qm_arS hS rfl rfl) rfl (by decide) (by decide) (by decide) rfl) ?_
                refine qm_G.s1 rfl (qm_x_pushI 1 rfl) ?_
                refine qm_G.s1 rfl (qm_x_isub) ?_
                refine qm_G.cs rfl rfl rfl ?_
                refine qm_v_within11_t ⟨by omega, by omega⟩ ⟨by decide, by decide⟩ ⟨by omega, by omega⟩ (by omega) ⟨_, rfl, ?_⟩
                refine qm_G.ret rfl rfl ⟨_, rfl, ?_⟩
                refine qm_G.s1 rfl (qm_x_if_ne_t ⟨by decide, by decide⟩ (by decide)) ?_
                refine qm_G.sp (lv1 := [(0, qm_R (some (0, 61, 0))), (1, qm_I (qm_i 1)), (2, qm_I (qm_i a2)), (3, qm_I (qm_i a3))]) rfl rfl (qm_x_iload rfl) ?_
                refine qm_G.s1 rfl (qm_x_pushI 0 rfl) ?_
                refine qm_G.s1 rfl (qm_x_pushI 3 rfl) ?_
                refine qm_G.cs rfl rfl rfl ?_
                refine qm_v_within11_t ⟨by omega, by omega⟩ ⟨by decide, by decide⟩ ⟨by decide, by decide⟩ (by omega) ⟨_, rfl, ?_⟩
                refine qm_G.s1 rfl (qm_x_if_ne_t ⟨by decide, by decide⟩ (by decide)) ?_
                refine qm_G.sp (lv1 := [(0, qm_R (some (0, 61, 0))), (1, qm_I (qm_i 1)), (2, qm_I (qm_i a2)), (3, qm_I (qm_i a3))]) rfl rfl (qm_x_aload rfl) ?_
                refine qm_G.s1 rfl (qm_x_iload rfl) ?_
                refine qm_G.s1 rfl (qm_x_iload rfl) ?_
                refine qm_G.cm rfl rfl (hS 61 rfl) rfl ?_
                refine qm_C.go (cd := qm_P26) (lv := [(0, qm_R (some (0, 61, 0))), (1, qm_I (qm_i 1)), (2, qm_I (qm_i a3))]) rfl rfl ?_
                refine qm_G.s1 rfl (qm_x_iload rfl) ?_
                refine qm_G.s1 rfl (qm_x_if_lt_f ⟨by omega, by omega⟩ (by omega)) ?_
                refine qm_G.s1 rfl (qm_x_iload rfl) ?_
                refine qm_G.s1 rfl (qm_x_if_ne_t ⟨by decide, by decide⟩ (by decide)) ?_
                refine qm_G.sp (lv1 := [(0, qm_R (some (0, 61, 0))), (1, qm_I (qm_i 1)), (2, qm_I (qm_i a3))]) rfl rfl (qm_x_aload rfl) ?_
                refine qm_G.s1 rfl (qm_x_getfR (q := (some (0, 62, 0))) (hS 61 rfl) (hR 61 0 62 rfl rfl)) ?_
                refine qm_G.s1 rfl (qm_x_pushI 26 rfl) ?_
                refine qm_G.s1 rfl (qm_x_pushI 3 rfl) ?_
                refine qm_G.s1 rfl (qm_x_iload rfl) ?_
                refine qm_G.s1 rfl (qm_x_imul) ?_
                refine qm_G.s1 rfl (qm_x_iadd) ?_
                refine qm_G.s1 rfl (qm_x_iald (v := (J 62 0 (26 + 3 * (Int.toNat a3)))) (qm_arS hS rfl rfl) rfl (by omega) (by omega) (by decide) (congrArg (J 62 0) (by omega))) ?_
                refine qm_G.s1 rfl (qm_x_istore (lv' := [(3, qm_I (qm_i (J 62 0 (26 + 3 * (Int.toNat a3))))), (0, qm_R (some (0, 61, 0))), (1, qm_I (qm_i 1)), (2, qm_I (qm_i a3))]) rfl) ?_
                refine qm_G.s1 rfl (qm_x_iload rfl) ?_
                refine qm_G.s1 rfl (qm_x_pushI 1 rfl) ?_
                refine qm_G.s1 rfl (qm_x_icmp_ne_f ⟨by decide, by decide⟩ ⟨by decide, by decide⟩ (by decide)) ?_
                refine qm_G.s1 rfl (qm_x_iload rfl) ?_
                refine qm_G.s1 rfl (qm_x_pushI 1 rfl) ?_
                refine qm_G.s1 rfl (qm_x_icmp_eq_f ⟨by omega, by omega⟩ ⟨by decide, by decide⟩ (by omega)) ?_
                refine qm_G.s1 rfl (qm_x_iload rfl) ?_
                refine qm_G.s1 rfl (qm_x_pushI 3 rfl) ?_
                refine qm_G.s1 rfl (qm_x_icmp_ne_f ⟨by omega, by omega⟩ ⟨by decide, by decide⟩ (by omega)) ?_
                refine qm_G.sp (lv1 := []) rfl rfl (qm_x_pushI 1 rfl) ?_
                refine qm_G.s1 rfl (qm_x_goto) ?_
                refine qm_G.ret rfl rfl ⟨_, rfl, ?_⟩
                refine qm_G.s1 rfl (qm_x_if_ne_t ⟨by decide, by decide⟩ (by decide)) ?_
                refine qm_G.sp (lv1 := [(0, qm_R (some (0, 61, 0))), (1, qm_I (qm_i 1)), (2, qm_I (qm_i a2)), (3, qm_I (qm_i a3))]) rfl rfl (qm_x_aload rfl) ?_
                refine qm_G.s1 rfl (qm_x_pushI 50 rfl) ?_
                refine qm_G.s1 rfl (qm_x_pushI 4 rfl) ?_
                refine qm_G.s1 rfl (qm_x_iload rfl) ?_
                refine qm_G.s1 rfl (qm_x_imul) ?_
                refine qm_G.s1 rfl (qm_x_iadd) ?_
                refine qm_G.s1 rfl (qm_x_iload rfl) ?_
                refine qm_G.s1 rfl (qm_x_iadd) ?_
                refine qm_G.s1 rfl (qm_x_iload rfl) ?_
                refine qm_G.s1 rfl (qm_x_pushI (-1) rfl) ?_
                refine qm_G.s1 rfl (qm_x_icmp_ne_t ⟨by omega, by omega⟩ ⟨by decide, by decide⟩ (by omega)) ?_
                refine qm_G.sp (lv1 := [(3, qm_I (qm_i a3))]) rfl rfl (qm_x_iload rfl) ?_
                refine qm_G.cm rfl rfl (hS 61 rfl) rfl ?_
                refine qm_C.go (cd := qm_P22) (lv := [(0, qm_R (some (0, 61, 0))), (1, qm_I (qm_i ((50 + (4 * 1)) + a2))), (2, qm_I (qm_i a3))]) rfl rfl ?_
                refine qm_G.s1 rfl (qm_x_aload rfl) ?_
                refine qm_G.s1 rfl (qm_x_getfR (q := (some (0, 62, 0))) (hS 61 rfl) (hR 61 0 62 rfl rfl)) ?_
                refine qm_G.s1 rfl (qm_x_iload rfl) ?_
                refine qm_G.s1 rfl (qm_x_iald (v := (J 62 0 (54 + (Int.toNat a2)))) (qm_arS hS rfl rfl) rfl (by omega) (by omega) (by decide) (congrArg (J 62 0) (by omega))) ?_
                refine qm_G.s1 rfl (qm_x_istore (lv' := [(3, qm_I (qm_i (J 62 0 (54 + (Int.toNat a2))))), (0, qm_R (some (0, 61, 0))), (1, qm_I (qm_i ((50 + (4 * 1)) + a2))), (2, qm_I (qm_i a3))]) rfl) ?_
                refine qm_G.s1 rfl (qm_x_aload rfl) ?_
                refine qm_G.s1 rfl (qm_x_getfR (q := (some (0, 62, 0))) (hS 61 rfl) (hR 61 0 62 rfl rfl)) ?_
                refine qm_G.s1 rfl (qm_x_iload rfl) ?_
                refine qm_G.s1 rfl (qm_x_iload rfl) ?_
                refine qm_G.s1 rfl (qm_x_iast (qm_arS hS rfl rfl) rfl (by omega) (by omega) (by decide)) ?_
                refine qm_G.s1 rfl (qm_x_iload rfl) ?_
                refine qm_G.ret rfl rfl ⟨_, rfl, ?_⟩
                refine qm_G.ret rfl rfl ⟨_, rfl, ?_⟩
                refine qm_G.s1 rfl (qm_x_icmp_eq_t ⟨by omega, by omega⟩ ⟨by omega, by omega⟩ (by omega)) ?_
                rw [show (Int.toNat ((50 + (4 * 1)) + a2)) = 54 + (Int.toNat a2) by omega]
                exact ih _ _ _ _ _ _ (qm_U_dek1 (by omega) (by omega) hI)
              · refine qm_G.s1 rfl (qm_x_pushI (-5) rfl) ?_
                refine qm_G.s1 rfl (qm_x_goto) ?_
                refine qm_G.ret rfl rfl ⟨_, rfl, ?_⟩
                refine qm_G.s1 rfl (qm_x_istore (lv' := [(4, qm_I (qm_i (-5))), (0, qm_R (some (0, 0, 0))), (1, qm_I (qm_i 1)), (2, qm_I (qm_i a2)), (3, qm_I (qm_i a3))]) rfl) ?_
                refine qm_G.s1 rfl (qm_x_aload rfl) ?_
                refine qm_G.s1 rfl (qm_x_getfR (q := (some (0, 1, 0))) (hS 0 rfl) (hR 0 0 1 rfl rfl)) ?_
                refine qm_G.s1 rfl (qm_x_getfR (q := (some (0, 2, 0))) (hS 1 rfl) (hR 1 0 2 rfl rfl)) ?_
                refine qm_G.s1 rfl (qm_x_getfR (q := (some (0, 8, 0))) (hS 2 rfl) (hR 2 4 8 rfl rfl)) ?_
                refine qm_G.s1 rfl (qm_x_iload rfl) ?_
                refine qm_G.s1 rfl (qm_x_aaldg (hS 8 rfl) rfl rfl (by decide) (by decide)) ?_
                refine qm_G.s1 rfl (qm_x_iload rfl) ?_
                refine qm_G.s1 rfl (qm_x_iload rfl) ?_
                refine qm_G.s1 rfl (qm_x_iast (qm_arS hS rfl rfl) rfl (by omega) (by omega) (by decide)) ?_
                refine qm_G.s1 rfl (qm_x_iload rfl) ?_
                refine qm_G.ret rfl rfl ⟨_, rfl, ?_⟩
                refine qm_G.s1 rfl (qm_x_aload rfl) ?_
                refine qm_G.s1 rfl (qm_x_aload rfl) ?_
                refine qm_G.s1 rfl (qm_x_iload rfl) ?_
                refine qm_G.s1 rfl (qm_x_pushI 1 rfl) ?_
                refine qm_G.s1 rfl (qm_x_iadd) ?_
                refine qm_G.s1 rfl (qm_x_iald2v (v := 1) (by omega) (by omega) hX e1) ?_
                refine qm_G.s1 rfl (qm_x_aload rfl) ?_
                refine qm_G.s1 rfl (qm_x_iload rfl) ?_
                refine qm_G.s1 rfl (qm_x_pushI 2 rfl) ?_
                refine qm_G.s1 rfl (qm_x_iadd) ?_
                refine qm_G.s1 rfl (qm_x_iald2v (v := a2) (by omega) (by omega) hX e2) ?_
                refine qm_G.s1 rfl (qm_x_aload rfl) ?_
                refine qm_G.s1 rfl (qm_x_iload rfl) ?_
                refine qm_G.s1 rfl (qm_x_pushI 3 rfl) ?_
                refine qm_G.s1 rfl (qm_x_iadd) ?_
                refine qm_G.s1 rfl (qm_x_iald2v (v := a3) (by omega) (by omega) hX e3) ?_
                refine qm_G.cm rfl rfl (hS 61 rfl) rfl ?_
                refine qm_C.go (cd := qm_P140) (lv := [(0, qm_R (some (0, 61, 0))), (1, qm_I (qm_i 1)), (2, qm_I (qm_i a2)), (3, qm_I (qm_i a3))]) rfl rfl ?_
                refine qm_G.s1 rfl (qm_x_iload rfl) ?_
                refine qm_G.cs rfl rfl rfl ?_
                refine qm_C.go (cd := qm_P80) (lv := [(0, qm_I (qm_i 1))]) rfl rfl ?_
                refine qm_G.s1 rfl (qm_x_iload rfl) ?_
                refine qm_G.s1 rfl (qm_x_pushI 0 rfl) ?_
                refine qm_G.s1 rfl (qm_x_pushI 2 rfl) ?_
                refine qm_G.cs rfl rfl rfl ?_
                refine qm_v_within11_t ⟨by decide, by decide⟩ ⟨by decide, by decide⟩ ⟨by decide, by decide⟩ (by decide) ⟨_, rfl, ?_⟩
                refine qm_G.ret rfl rfl ⟨_, rfl, ?_⟩
                refine qm_G.s1 rfl (qm_x_if_eq_f ⟨by decide, by decide⟩ (by decide)) ?_
                refine qm_G.s1 rfl (qm_x_iload rfl) ?_
                refine qm_G.s1 rfl (qm_x_pushI (-1) rfl) ?_
                refine qm_G.s1 rfl (qm_x_icmp_eq_f ⟨by omega, by omega⟩ ⟨by decide, by decide⟩ (by omega)) ?_
                refine qm_G.s1 rfl (qm_x_aload rfl) ?_
                refine qm_G.s1 rfl (qm_x_iload rfl) ?_
                refine qm_G.cm rfl rfl (hS 61 rfl) rfl ?_
                refine qm_C.go (cd := qm_P82) (lv := [(0, qm_R (some (0, 61, 0))), (1, qm_I (qm_i a3))]) rfl rfl ?_
                refine qm_G.s1 rfl (qm_x_iload rfl) ?_
                refine qm_G.s1 rfl (qm_x_pushI 0 rfl) ?_
                refine qm_G.s1 rfl (qm_x_aload rfl) ?_
                refine qm_G.s1 rfl (qm_x_getfR (q := (some (0, 62, 0))) (hS 61 rfl) (hR 61 0 62 rfl rfl)) ?_
                refine qm_G.s1 rfl (qm_x_pushI 7 rfl) ?_
                refine qm_G.s1 rfl (qm_x_iald (v := (J 62 0 7)) (qm_arS hS rfl rfl) rfl (by decide) (by decide) (by decide) rfl) ?_
                refine qm_G.s1 rfl (qm_x_pushI 1 rfl) ?_
                refine qm_G.s1 rfl (qm_x_isub) ?_
                refine qm_G.cs rfl rfl rfl ?_
                refine qm_v_within11_t ⟨by omega, by omega⟩ ⟨by decide, by decide⟩ ⟨by omega, by omega⟩ (by omega) ⟨_, rfl, ?_⟩
                refine qm_G.ret rfl rfl ⟨_, rfl, ?_⟩
                refine qm_G.s1 rfl (qm_x_if_ne_t ⟨by decide, by decide⟩ (by decide)) ?_
                refine qm_G.sp (lv1 := [(0, qm_R (some (0, 61, 0))), (1, qm_I (qm_i 1)), (2, qm_I (qm_i a2)), (3, qm_I (qm_i a3))]) rfl rfl (qm_x_iload rfl) ?_
                refine qm_G.s1 rfl (qm_x_pushI 0 rfl) ?_
                refine qm_G.s1 rfl (qm_x_pushI 3 rfl) ?_
                refine qm_G.cs rfl rfl rfl ?_
                refine qm_v_within11_t ⟨by omega, by omega⟩ ⟨by decide, by decide⟩ ⟨by decide, by decide⟩ (by omega) ⟨_, rfl, ?_⟩
                refine qm_G.s1 rfl (qm_x_if_ne_t ⟨by decide, by decide⟩ (by decide)) ?_
                refine qm_G.sp (lv1 := [(0, qm_R (some (0, 61, 0))), (1, qm_I (qm_i 1)), (2, qm_I (qm_i a2)), (3, qm_I (qm_i a3))]) rfl rfl (qm_x_aload rfl) ?_
                refine qm_G.s1 rfl (qm_x_iload rfl) ?_
                refine qm_G.s1 rfl (qm_x_iload rfl) ?_
                refine qm_G.cm rfl rfl (hS 61 rfl) rfl ?_
                refine qm_C.go (cd := qm_P26) (lv := [(0, qm_R (some (0, 61, 0))), (1, qm_I (qm_i 1)), (2, qm_I (qm_i a3))]) rfl rfl ?_
                refine qm_G.s1 rfl (qm_x_iload rfl) ?_
                refine qm_G.s1 rfl (qm_x_if_lt_f ⟨by omega, by omega⟩ (by omega)) ?_
                refine qm_G.s1 rfl (qm_x_iload rfl) ?_
                refine qm_G.s1 rfl (qm_x_if_ne_t ⟨by decide, by decide⟩ (by decide)) ?_
                refine qm_G.sp (lv1 := [(0, qm_R (some (0, 61, 0))), (1, qm_I (qm_i 1)), (2, qm_I (qm_i a3))]) rfl rfl (qm_x_aload rfl) ?_
                refine qm_G.s1 rfl (qm_x_getfR (q := (some (0, 62, 0))) (hS 61 rfl) (hR 61 0 62 rfl rfl)) ?_
                refine qm_G.s1 rfl (qm_x_pushI 26 rfl) ?_
                refine qm_G.s1 rfl (qm_x_pushI 3 rfl) ?_
                refine qm_G.s1 rfl (qm_x_iload rfl) ?_
                refine qm_G.s1 rfl (qm_x_imul) ?_
                refine qm_G.s1 rfl (qm_x_iadd) ?_
                refine qm_G.s1 rfl (qm_x_iald (v := (J 62 0 (26 + 3 * (Int.toNat a3)))) (qm_arS hS rfl rfl) rfl (by omega) (by omega) (by decide) (congrArg (J 62 0) (by omega))) ?_
                refine qm_G.s1 rfl (qm_x_istore (lv' := [(3, qm_I (qm_i (J 62 0 (26 + 3 * (Int.toNat a3))))), (0, qm_R (some (0, 61, 0))), (1, qm_I (qm_i 1)), (2, qm_I (qm_i a3))]) rfl) ?_
                refine qm_G.s1 rfl (qm_x_iload rfl) ?_
                refine qm_G.s1 rfl (qm_x_pushI 1 rfl) ?_
                refine qm_G.s1 rfl (qm_x_icmp_ne_f ⟨by decide, by decide⟩ ⟨by decide, by decide⟩ (by decide)) ?_
                refine qm_G.s1 rfl (qm_x_iload rfl) ?_
                refine qm_G.s1 rfl (qm_x_pushI 1 rfl) ?_
                refine qm_G.s1 rfl (qm_x_icmp_eq_f ⟨by omega, by omega⟩ ⟨by decide, by decide⟩ (by omega)) ?_
                refine qm_G.s1 rfl (qm_x_iload rfl) ?_
                refine qm_G.s1 rfl (qm_x_pushI 3 rfl) ?_
                refine qm_G.s1 rfl (qm_x_icmp_ne_f ⟨by omega, by omega⟩ ⟨by decide, by decide⟩ (by omega)) ?_
                refine qm_G.sp (lv1 := []) rfl rfl (qm_x_pushI 1 rfl) ?_
                refine qm_G.s1 rfl (qm_x_goto) ?_
                refine qm_G.ret rfl rfl ⟨_, rfl, ?_⟩
                refine qm_G.s1 rfl (qm_x_if_ne_t ⟨by decide, by decide⟩ (by decide)) ?_
                refine qm_G.sp (lv1 := [(0, qm_R (some (0, 61, 0))), (1, qm_I (qm_i 1)), (2, qm_I (qm_i a2)), (3, qm_I (qm_i a3))]) rfl rfl (qm_x_aload rfl) ?_
                refine qm_G.s1 rfl (qm_x_pushI 50 rfl) ?_
                refine qm_G.s1 rfl (qm_x_pushI 4 rfl) ?_
                refine qm_G.s1 rfl (qm_x_iload rfl) ?_
                refine qm_G.s1 rfl (qm_x_imul) ?_
                refine qm_G.s1 rfl (qm_x_iadd) ?_
                refine qm_G.s1 rfl (qm_x_iload rfl) ?_
                refine qm_G.s1 rfl (qm_x_iadd) ?_
                refine qm_G.s1 rfl (qm_x_iload rfl) ?_
                refine qm_G.s1 rfl (qm_x_pushI (-1) rfl) ?_
                refine qm_G.s1 rfl (qm_x_icmp_ne_t ⟨by omega, by omega⟩ ⟨by decide, by decide⟩ (by omega)) ?_
                refine qm_G.sp (lv1 := [(3, qm_I (qm_i a3))]) rfl rfl (qm_x_iload rfl) ?_
                refine qm_G.cm rfl rfl (hS 61 rfl) rfl ?_
                refine qm_C.go (cd := qm_P22) (lv := [(0, qm_R (some (0, 61, 0))), (1, qm_I (qm_i ((50 + (4 * 1)) + a2))), (2, qm_I (qm_i a3))]) rfl rfl ?_
                refine qm_G.s1 rfl (qm_x_aload rfl) ?_
                refine qm_G.s1 rfl (qm_x_getfR (q := (some (0, 62, 0))) (hS 61 rfl) (hR 61 0 62 rfl rfl)) ?_
                refine qm_G.s1 rfl (qm_x_iload rfl) ?_
                refine qm_G.s1 rfl (qm_x_iald (v := (J 62 0 (54 + (Int.toNat a2)))) (qm_arS hS rfl rfl) rfl (by omega) (by omega) (by decide) (congrArg (J 62 0) (by omega))) ?_
                refine qm_G.s1 rfl (qm_x_istore (lv' := [(3, qm_I (qm_i (J 62 0 (54 + (Int.toNat a2))))), (0, qm_R (some (0, 61, 0))), (1, qm_I (qm_i ((50 + (4 * 1)) + a2))), (2, qm_I (qm_i a3))]) rfl) ?_
                refine qm_G.s1 rfl (qm_x_aload rfl) ?_
                refine qm_G.s1 rfl (qm_x_getfR (q := (some (0, 62, 0))) (hS 61 rfl) (hR 61 0 62 rfl rfl)) ?_
                refine qm_G.s1 rfl (qm_x_iload rfl) ?_
                refine qm_G.s1 rfl (qm_x_iload rfl) ?_
                refine qm_G.s1 rfl (qm_x_iast (qm_arS hS rfl rfl) rfl (by omega) (by omega) (by decide)) ?_
                refine qm_G.s1 rfl (qm_x_iload rfl) ?_
                refine qm_G.ret rfl rfl ⟨_, rfl, ?_⟩
                refine qm_G.ret rfl rfl ⟨_, rfl, ?_⟩
                refine qm_G.s1 rfl (qm_x_icmp_eq_t ⟨by decide, by decide⟩ ⟨by omega, by omega⟩ (by omega)) ?_
                rw [show (Int.toNat ((50 + (4 * 1)) + a2)) = 54 + (Int.toNat a2) by omega]
                exact ih _ _ _ _ _ _ (qm_U_dek1 (by omega) (by omega) hI)
        · refine qm_G.ret rfl rfl ⟨_, rfl, ?_⟩
          refine qm_G.s1 rfl (qm_x_if_ne_f ⟨by decide, by decide⟩ (by decide)) ?_
          refine qm_G.s1 rfl (qm_x_pushI (-13) rfl) ?_
          refine qm_G.ret rfl rfl ⟨_, rfl, ?_⟩
          refine qm_G.s1 rfl (qm_x_aload rfl) ?_
          refine qm_G.s1 rfl (qm_x_aload rfl) ?_
          refine qm_G.s1 rfl (qm_x_iload rfl) ?_
          refine qm_G.s1 rfl (qm_x_pushI 1 rfl) ?_
          refine qm_G.s1 rfl (qm_x_iadd) ?_
          refine qm_G.s1 rfl (qm_x_iald2v (v := 1) (by omega) (by omega) hX e1) ?_
          refine qm_G.s1 rfl (qm_x_aload rfl) ?_
          refine qm_G.s1 rfl (qm_x_iload rfl) ?_
          refine qm_G.s1 rfl (qm_x_pushI 2 rfl) ?_
          refine qm_G.s1 rfl (qm_x_iadd) ?_
          refine qm_G.s1 rfl (qm_x_iald2v (v := a2) (by omega) (by omega) hX e2) ?_
          refine qm_G.s1 rfl (qm_x_aload rfl) ?_
          refine qm_G.s1 rfl (qm_x_iload rfl) ?_
          refine qm_G.s1 rfl (qm_x_pushI 3 rfl) ?_
          refine qm_G.s1 rfl (qm_x_iadd) ?_
          refine qm_G.s1 rfl (qm_x_iald2v (v := a3) (by omega) (by omega) hX e3) ?_
          refine qm_G.cm rfl rfl (hS 61 rfl) rfl ?_
          refine qm_C.go (cd := qm_P140) (lv := [(0, qm_R (some (0, 61, 0))), (1, qm_I (qm_i 1)), (2, qm_I (qm_i a2)), (3, qm_I (qm_i a3))]) rfl rfl ?_
          refine qm_G.s1 rfl (qm_x_iload rfl) ?_
          refine qm_G.cs rfl rfl rfl ?_
          refine qm_C.go (cd := qm_P80) (lv := [(0, qm_I (qm_i 1))]) rfl rfl ?_
          refine qm_G.s1 rfl (qm_x_iload rfl) ?_
          refine qm_G.s1 rfl (qm_x_pushI 0 rfl) ?_
          refine qm_G.s1 rfl (qm_x_pushI 2 rfl) ?_
          refine qm_G.cs rfl rfl rfl ?_
          refine qm_v_within11_t ⟨by decide, by decide⟩ ⟨by decide, by decide⟩ ⟨by decide, by decide⟩ (by decide) ⟨_, rfl, ?_⟩
          refine qm_G.ret rfl rfl ⟨_, rfl, ?_⟩
          refine qm_G.s1 rfl (qm_x_if_eq_f ⟨by decide, by decide⟩ (by decide)) ?_
          refine qm_G.s1 rfl (qm_x_iload rfl) ?_
          refine qm_G.s1 rfl (qm_x_pushI (-1) rfl) ?_
          refine qm_G.s1 rfl (qm_x_icmp_eq_f ⟨by omega, by omega⟩ ⟨by decide, by decide⟩ (by omega)) ?_
          refine qm_G.s1 rfl (qm_x_aload rfl) ?_
          refine qm_G.s1 rfl (qm_x_iload rfl) ?_
          refine qm_G.cm rfl rfl (hS 61 rfl) rfl ?_
          refine qm_C.go (cd := qm_P82) (lv := [(0, qm_R (some (0, 61, 0))), (1, qm_I (qm_i a3))]) rfl rfl ?_
          refine qm_G.s1 rfl (qm_x_iload rfl) ?_
          refine qm_G.s1 rfl (qm_x_pushI 0 rfl) ?_
          refine qm_G.s1 rfl (qm_x_aload rfl) ?_
          refine qm_G.s1 rfl (qm_x_getfR (q := (some (0, 62, 0))) (hS 61 rfl) (hR 61 0 62 rfl rfl)) ?_
          refine qm_G.s1 rfl (qm_x_pushI 7 rfl) ?_
          refine qm_G.s1 rfl (qm_x_iald (v := (J 62 0 7)) (qm_arS hS rfl rfl) rfl (by decide) (by decide) (by decide) rfl) ?_
          refine qm_G.s1 rfl (qm_x_pushI 1 rfl) ?_
          refine qm_G.s1 rfl (qm_x_isub) ?_
          refine qm_G.cs rfl rfl rfl ?_
          refine qm_v_within11_t ⟨by omega, by omega⟩ ⟨by decide, by decide⟩ ⟨by omega, by omega⟩ (by omega) ⟨_, rfl, ?_⟩
          refine qm_G.ret rfl rfl ⟨_, rfl, ?_⟩
          refine qm_G.s1 rfl (qm_x_if_ne_t ⟨by decide, by decide⟩ (by decide)) ?_
          refine qm_G.sp (lv1 := [(0, qm_R (some (0, 61, 0))), (1, qm_I (qm_i 1)), (2, qm_I (qm_i a2)), (3, qm_I (qm_i a3))]) rfl rfl (qm_x_iload rfl) ?_
          refine qm_G.s1 rfl (qm_x_pushI 0 rfl) ?_
          refine qm_G.s1 rfl (qm_x_pushI 3 rfl) ?_
          refine qm_G.cs rfl rfl rfl ?_
          refine qm_v_within11_f ⟨by omega, by omega⟩ ⟨by decide, by decide⟩ ⟨by decide, by decide⟩ (by omega) ⟨_, rfl, ?_⟩
          refine qm_G.s1 rfl (qm_x_if_ne_f ⟨by decide, by decide⟩ (by decide)) ?_
          refine qm_G.s1 rfl (qm_x_pushI (-13) rfl) ?_
          refine qm_G.ret rfl rfl ⟨_, rfl, ?_⟩
          refine qm_G.s1 rfl (qm_x_icmp_eq_t ⟨by decide, by decide⟩ ⟨by decide, by decide⟩ (by decide)) ?_
          exact ih _ _ _ _ _ _ hI.next
      · refine qm_G.s1 rfl (qm_x_if_eq_t ⟨by decide, by decide⟩ (by decide)) ?_
        refine qm_G.sp (lv1 := []) rfl rfl (qm_x_push) ?_
        refine qm_G.ret rfl rfl ⟨_, rfl, ?_⟩
        refine qm_G.s1 rfl (qm_x_ifnonnull0) ?_
        refine qm_G.sp (lv1 := []) rfl rfl (qm_x_pushI (-1) rfl) ?_
        refine qm_G.ret rfl rfl ⟨_, rfl, ?_⟩
        refine qm_G.s1 rfl (qm_x_aload rfl) ?_
        refine qm_G.s1 rfl (qm_x_aload rfl) ?_
        refine qm_G.s1 rfl (qm_x_iload rfl) ?_
        refine qm_G.s1 rfl (qm_x_pushI 1 rfl) ?_
        refine qm_G.s1 rfl (qm_x_iadd) ?_
        refine qm_G.s1 rfl (qm_x_iald2v (v := 1) (by omega) (by omega) hX e1) ?_
        refine qm_G.s1 rfl (qm_x_aload rfl) ?_
        refine qm_G.s1 rfl (qm_x_iload rfl) ?_
        refine qm_G.s1 rfl (qm_x_pushI 2 rfl) ?_
        refine qm_G.s1 rfl (qm_x_iadd) ?_
        refine qm_G.s1 rfl (qm_x_iald2v (v := a2) (by omega) (by omega) hX e2) ?_
        refine qm_G.s1 rfl (qm_x_aload rfl) ?_
        refine qm_G.s1 rfl (qm_x_iload rfl) ?_
        refine qm_G.s1 rfl (qm_x_pushI 3 rfl) ?_
        refine qm_G.s1 rfl (qm_x_iadd) ?_
        refine qm_G.s1 rfl (qm_x_iald2v (v := a3) (by omega) (by omega) hX e3) ?_
        refine qm_G.cm rfl rfl (hS 61 rfl) rfl ?_
        refine qm_C.go (cd := qm_P140) (lv := [(0, qm_R (some (0, 61, 0))), (1, qm_I (qm_i 1)), (2, qm_I (qm_i a2)), (3, qm_I (qm_i a3))]) rfl rfl ?_
        refine qm_G.s1 rfl (qm_x_iload rfl) ?_
        refine qm_G.cs rfl rfl rfl ?_
        refine qm_C.go (cd := qm_P80) (lv := [(0, qm_I (qm_i 1))]) rfl rfl ?_
        refine qm_G.s1 rfl (qm_x_iload rfl) ?_
        refine qm_G.s1 rfl (qm_x_pushI 0 rfl) ?_
        refine qm_G.s1 rfl (qm_x_pushI 2 rfl) ?_
        refine qm_G.cs rfl rfl rfl ?_
        refine qm_v_within11_t ⟨by decide, by decide⟩ ⟨by decide, by decide⟩ ⟨by decide, by decide⟩ (by decide) ⟨_, rfl, ?_⟩
        refine qm_G.ret rfl rfl ⟨_, rfl, ?_⟩
        refine qm_G.s1 rfl (qm_x_if_eq_f ⟨by decide, by decide⟩ (by decide)) ?_
        refine qm_G.s1 rfl (qm_x_iload rfl) ?_
        refine qm_G.s1 rfl (qm_x_pushI (-1) rfl) ?_
        refine qm_G.s1 rfl (qm_x_icmp_eq_f ⟨by omega, by omega⟩ ⟨by decide, by decide⟩ (by omega)) ?_
        refine qm_G.s1 rfl (qm_x_aload rfl) ?_
        refine qm_G.s1 rfl (qm_x_iload rfl) ?_
        refine qm_G.cm rfl rfl (hS 61 rfl) rfl ?_
        refine qm_C.go (cd := qm_P82) (lv := [(0, qm_R (some (0, 61, 0))), (1, qm_I (qm_i a3))]) rfl rfl ?_
        refine qm_G.s1 rfl (qm_x_iload rfl) ?_
        refine qm_G.s1 rfl (qm_x_pushI 0 rfl) ?_
        refine qm_G.s1 rfl (qm_x_aload rfl) ?_
        refine qm_G.s1 rfl (qm_x_getfR (q := (some (0, 62, 0))) (hS 61 rfl) (hR 61 0 62 rfl rfl)) ?_
        refine qm_G.s1 rfl (qm_x_pushI 7 rfl) ?_
        refine qm_G.s1 rfl (qm_x_iald (v := (J 62 0 7)) (qm_arS hS rfl rfl) rfl (by decide) (by decide) (by decide) rfl) ?_
        refine qm_G.s1 rfl (qm_x_pushI 1 rfl) ?_
        refine qm_G.s1 rfl (qm_x_isub) ?_
        refine qm_G.cs rfl rfl rfl ?_
        refine qm_v_within11_f ⟨by omega, by omega⟩ ⟨by decide, by decide⟩ ⟨by omega, by omega⟩ (by omega) ⟨_, rfl, ?_⟩
        refine qm_G.ret rfl rfl ⟨_, rfl, ?_⟩
        refine qm_G.s1 rfl (qm_x_if_ne_f ⟨by decide, by decide⟩ (by decide)) ?_
        refine qm_G.sp (lv1 := []) rfl rfl (qm_x_pushI (-1) rfl) ?_
        refine qm_G.ret rfl rfl ⟨_, rfl, ?_⟩
        refine qm_G.s1 rfl (qm_x_icmp_eq_t ⟨by decide, by decide⟩ ⟨by decide, by decide⟩ (by decide)) ?_
        exact ih _ _ _ _ _ _ hI.next
  · subst d1
    refine qm_G.sp (lv1 := [(0, qm_R (some (2, 0, 0))), (1, qm_R (some (0, 0, 0))), (2, qm_R (some (0, 61, 0))), (3, qm_I (qm_i z))]) rfl rfl (qm_x_aload rfl) ?_
    refine qm_G.s1 rfl (qm_x_aload rfl) ?_
    refine qm_G.s1 rfl (qm_x_iload rfl) ?_
    refine qm_G.s1 rfl (qm_x_pushI 1 rfl) ?_
    refine qm_G.s1 rfl (qm_x_iadd) ?_
    refine qm_G.s1 rfl (qm_x_iald2v (v := 2) (by omega) (by omega) hX e1) ?_
    refine qm_G.s1 rfl (qm_x_aload rfl) ?_
    refine qm_G.s1 rfl (qm_x_iload rfl) ?_
    refine qm_G.s1 rfl (qm_x_pushI 2 rfl) ?_
    refine qm_G.s1 rfl (qm_x_iadd) ?_
    refine qm_G.s1 rfl (qm_x_iald2v (v := a2) (by omega) (by omega) hX e2) ?_
    refine qm_G.s1 rfl (qm_x_aload rfl) ?_
    refine qm_G.s1 rfl (qm_x_iload rfl) ?_
    refine qm_G.s1 rfl (qm_x_pushI 3 rfl) ?_
    refine qm_G.s1 rfl (qm_x_iadd) ?_
    refine qm_G.s1 rfl (qm_x_iald2v (v := a3) (by omega) (by omega) hX e3) ?_
    refine qm_G.cm rfl rfl (hS 0 rfl) rfl ?_
    refine qm_C.go (cd := qm_P164) (lv := [(0, qm_R (some (0, 0, 0))), (1, qm_I (qm_i 2)), (2, qm_I (qm_i a2)), (3, qm_I (qm_i a3))]) rfl rfl ?_
    refine qm_G.s1 rfl (qm_x_iload rfl) ?_
    refine qm_G.cs rfl rfl rfl ?_
    refine qm_C.go (cd := qm_P71) (lv := [(0, qm_I (qm_i 2))]) rfl rfl ?_
    refine qm_G.s1 rfl (qm_x_iload rfl) ?_
    refine qm_G.s1 rfl (qm_x_pushI 0 rfl) ?_
    refine qm_G.s1 rfl (qm_x_pushI 2 rfl) ?_
    refine qm_G.cs rfl rfl rfl ?_
    refine qm_v_within10_t ⟨by decide, by decide⟩ ⟨by decide, by decide⟩ ⟨by decide, by decide⟩ (by decide) ⟨_, rfl, ?_⟩
    refine qm_G.ret rfl rfl ⟨_, rfl, ?_⟩
    refine qm_G.s1 rfl (qm_x_if_eq_f ⟨by decide, by decide⟩ (by decide)) ?_
    refine qm_G.s1 rfl (qm_x_iload rfl) ?_
    refine qm_G.s1 rfl (qm_x_pushI (-1) rfl) ?_
    refine qm_y_icmp_eq rfl ⟨by omega, by omega⟩ ⟨by decide, by decide⟩ (fun c80 => ?_) (fun c80 => ?_)
    · refine qm_G.sp (lv1 := [(0, qm_R (some (0, 0, 0))), (1, qm_I (qm_i 2)), (2, qm_I (qm_i a2)), (3, qm_I (qm_i a3))]) rfl rfl (qm_x_iload rfl) ?_
      refine qm_G.cs rfl rfl rfl ?_
      refine qm_C.go (cd := qm_P73) (lv := [(0, qm_I (qm_i a2))]) rfl rfl ?_
      refine qm_G.s1 rfl (qm_x_iload rfl) ?_
      refine qm_G.s1 rfl (qm_x_pushI 0 rfl) ?_
      refine qm_G.s1 rfl (qm_x_pushI 3 rfl) ?_
      refine qm_G.cs rfl rfl rfl ?_
      refine qm_v_within10 ⟨by omega, by omega⟩ ⟨by decide, by decide⟩ ⟨by decide, by decide⟩ (fun c81 => ⟨_, rfl, ?_⟩) (fun c81 => ⟨_, rfl, ?_⟩)
      · refine qm_G.ret rfl rfl ⟨_, rfl, ?_⟩
        refine qm_G.s1 rfl (qm_x_if_ne_t ⟨by decide, by decide⟩ (by decide)) ?_
        refine qm_G.sp (lv1 := [(0, qm_R (some (0, 0, 0))), (1, qm_I (qm_i 2)), (2, qm_I (qm_i a2)), (3, qm_I (qm_i a3))]) rfl rfl (qm_x_aload rfl) ?_
        refine qm_G.s1 rfl (qm_x_getfR (q := (some (0, 1, 0))) (hS 0 rfl) (hR 0 0 1 rfl rfl)) ?_
        refine qm_G.s1 rfl (qm_x_getfR (q := (some (0, 2, 0))) (hS 1 rfl) (hR 1 0 2 rfl rfl)) ?_
        refine qm_G.s1 rfl (qm_x_iload rfl) ?_
        refine qm_G.s1 rfl (qm_x_iload rfl) ?_
        refine qm_G.cm rfl rfl (hS 2 rfl) rfl ?_
        refine qm_C.go (cd := qm_P145) (lv := [(0, qm_R (some (0, 2, 0))), (1, qm_I (qm_i 2)), (2, qm_I (qm_i a3))]) rfl rfl ?_
        refine qm_G.s1 rfl (qm_x_aload rfl) ?_
        refine qm_G.s1 rfl (qm_x_iload rfl) ?_
        refine qm_G.cm rfl rfl (hS 2 rfl) rfl ?_
        refine qm_C.go (cd := qm_P93) (lv := [(0, qm_R (some (0, 2, 0))), (1, qm_I (qm_i a3))]) rfl rfl ?_
        refine qm_G.s1 rfl (qm_x_iload rfl) ?_
        refine qm_G.s1 rfl (qm_x_pushI 0 rfl) ?_
        refine qm_G.s1 rfl (qm_x_aload rfl) ?_
        have f62_7 : 0 ≤ J 62 0 7 ∧ J 62 0 7 ≤ 8 := hI.mk.rrc
        have f2_3 : J 2 0 3 = J 62 0 7 := hI.mk.rc
        refine qm_G.s1 rfl (qm_x_getfI (v := (J 2 0 3)) (hS 2 rfl) rfl) ?_
        refine qm_G.s1 rfl (qm_x_pushI 1 rfl) ?_
        refine qm_G.s1 rfl (qm_x_isub) ?_
        refine qm_G.cs rfl rfl rfl ?_
        refine qm_v_within10_f ⟨by omega, by omega⟩ ⟨by decide, by decide⟩ ⟨by omega, by omega⟩ (by omega) ⟨_, rfl, ?_⟩
        refine qm_G.s1 rfl (qm_x_if_eq_t ⟨by decide, by decide⟩ (by decide)) ?_
        refine qm_G.sp (lv1 := []) rfl rfl (qm_x_push) ?_
        refine qm_G.ret rfl rfl ⟨_, rfl, ?_⟩
        refine qm_G.s1 rfl (qm_x_astore (lv' := [(3, qm_R (none)), (0, qm_R (some (0, 2, 0))), (1, qm_I (qm_i 2)), (2, qm_I (qm_i a3))]) rfl) ?_
        refine qm_G.s1 rfl (qm_x_aload rfl) ?_
        refine qm_G.s1 rfl (qm_x_ifnull0) ?_
        refine qm_G.sp (lv1 := []) rfl rfl (qm_x_pushI 1 rfl) ?_
        refine qm_G.ret rfl rfl ⟨_, rfl, ?_⟩
        refine qm_G.s1 rfl (qm_x_if_ne_t ⟨by decide, by decide⟩ (by decide)) ?_
        refine qm_G.sp (lv1 := [(0, qm_R (some (0, 0, 0))), (1, qm_I (qm_i 2)), (2, qm_I (qm_i a2)), (3, qm_I (qm_i a3))]) rfl rfl (qm_x_aload rfl) ?_
        refine qm_G.s1 rfl (qm_x_getfR (q := (some (0, 1, 0))) (hS 0 rfl) (hR 0 0 1 rfl rfl)) ?_
        refine qm_G.s1 rfl (qm_x_getfR (q := (some (0, 2, 0))) (hS 1 rfl) (hR 1 0 2 rfl rfl)) ?_
        refine qm_G.s1 rfl (qm_x_iload rfl) ?_
        refine qm_G.s1 rfl (qm_x_iload rfl) ?_
        refine qm_G.cm rfl rfl (hS 2 rfl) rfl ?_
        refine qm_C.go (cd := qm_P38) (lv := [(0, qm_R (some (0, 2, 0))), (1, qm_I (qm_i 2)), (2, qm_I (qm_i a2))]) rfl rfl ?_
        refine qm_G.s1 rfl (qm_x_aload rfl) ?_
        refine qm_G.s1 rfl (qm_x_getfR (q := (some (0, 8, 0))) (hS 2 rfl) (hR 2 4 8 rfl rfl)) ?_
        refine qm_G.s1 rfl (qm_x_iload rfl) ?_
        refine qm_G.s1 rfl (qm_x_aaldg (hS 8 rfl) rfl rfl (by decide) (by decide)) ?_
        refine qm_G.s1 rfl (qm_x_iload rfl) ?_
        have g83 : (J 8 3 (Int.toNat a2) = -1 ∧ J 62 0 (58 + (Int.toNat a2)) = -5) ∨ (J 8 3 (Int.toNat a2) = J 62 0 (58 + (Int.toNat a2)) ∧ 0 ≤ J 62 0 (58 + (Int.toNat a2)) ∧ J 62 0 (58 + (Int.toNat a2)) < J 62 0 7) := hI.mk.dek 2 (Int.toNat a2) (by decide) (by omega)
        refine qm_G.s1 rfl (qm_x_iald (v := (J 8 3 (Int.toNat a2))) (qm_arS hS rfl rfl) rfl (by omega) (by omega) (by decide) rfl) ?_
        refine qm_G.s1 rfl (qm_x_istore (lv' := [(3, qm_I (qm_i (J 8 3 (Int.toNat a2)))), (0, qm_R (some (0, 2, 0))), (1, qm_I (qm_i 2)), (2, qm_I (qm_i a2))]) rfl) ?_
        refine qm_G.s1 rfl (qm_x_iload rfl) ?_
        refine qm_G.s1 rfl (qm_x_pushI (-1) rfl) ?_
        refine qm_y_icmp_ne rfl ⟨by omega, by omega⟩ ⟨by decide, by decide⟩ (fun c84 => ?_) (fun c84 => ?_)
        · refine qm_G.sp (lv1 := [(3, qm_I (qm_i (J 8 3 (Int.toNat a2))))]) rfl rfl (qm_x_iload rfl) ?_
          refine qm_G.ret rfl rfl ⟨_, rfl, ?_⟩
          refine qm_G.s1 rfl (qm_x_istore (lv' := [(4, qm_I (qm_i (J 8 3 (Int.toNat a2)))), (0, qm_R (some (0, 0, 0))), (1, qm_I (qm_i 2)), (2, qm_I (qm_i a2)), (3, qm_I (qm_i a3))]) rfl) ?_
          refine qm_G.s1 rfl (qm_x_aload rfl) ?_
          refine qm_G.s1 rfl (qm_x_getfR (q := (some (0, 1, 0))) (hS 0 rfl) (hR 0 0 1 rfl rfl)) ?_
          refine qm_G.s1 rfl (qm_x_getfR (q := (some (0, 2, 0))) (hS 1 rfl) (hR 1 0 2 rfl rfl)) ?_
          refine qm_G.s1 rfl (qm_x_getfR (q := (some (0, 8, 0))) (hS 2 rfl) (hR 2 4 8 rfl rfl)) ?_
          refine qm_G.s1 rfl (qm_x_iload rfl) ?_
          refine qm_G.s1 rfl (qm_x_aaldg (hS 8 rfl) rfl rfl (by decide) (by decide)) ?_
          refine qm_G.s1 rfl (qm_x_iload rfl) ?_
          refine qm_G.s1 rfl (qm_x_iload rfl) ?_
          refine qm_G.s1 rfl (qm_x_iast (qm_arS hS rfl rfl) rfl (by omega) (by omega) (by decide)) ?_
          refine qm_G.s1 rfl (qm_x_iload rfl) ?_
          refine qm_G.ret rfl rfl ⟨_, rfl, ?_⟩
          refine qm_G.s1 rfl (qm_x_aload rfl) ?_
          refine qm_G.s1 rfl (qm_x_aload rfl) ?_
          refine qm_G.s1 rfl (qm_x_iload rfl) ?_
          refine qm_G.s1 rfl (qm_x_pushI 1 rfl) ?_
          refine qm_G.s1 rfl (qm_x_iadd) ?_
          refine qm_G.s1 rfl (qm_x_iald2v (v := 2) (by omega) (by omega) hX e1) ?_
          refine qm_G.s1 rfl (qm_x_aload rfl) ?_
          refine qm_G.s1 rfl (qm_x_iload rfl) ?_
          refine qm_G.s1 rfl (qm_x_pushI 2 rfl) ?_
          refine qm_G.s1 rfl (qm_x_iadd) ?_
          refine qm_G.s1 rfl (qm_x_iald2v (v := a2) (by omega) (by omega) hX e2) ?_
          refine qm_G.s1 rfl (qm_x_aload rfl) ?_
          refine qm_G.s1 rfl (qm_x_iload rfl) ?_
          refine qm_G.s1 rfl (qm_x_pushI 3 rfl) ?_
          refine qm_G.s1 rfl (qm_x_iadd) ?_
          refine qm_G.s1 rfl (qm_x_iald2v (v := a3) (by omega) (by omega) hX e3) ?_
          refine qm_G.cm rfl rfl (hS 61 rfl) rfl ?_
          refine qm_C.go (cd := qm_P140) (lv := [(0, qm_R (some (0, 61, 0))), (1, qm_I (qm_i 2)), (2, qm_I (qm_i a2)), (3, qm_I (qm_i a3))]) rfl rfl ?_
          refine qm_G.s1 rfl (qm_x_iload rfl) ?_
          refine qm_G.cs rfl rfl rfl ?_
          refine qm_C.go (cd := qm_P80) (lv := [(0, qm_I (qm_i 2))]) rfl rfl ?_
          refine qm_G.s1 rfl (qm_x_iload rfl) ?_
          refine qm_G.s1 rfl (qm_x_pushI 0 rfl) ?_
          refine qm_G.s1 rfl (qm_x_pushI 2 rfl) ?_
          refine qm_G.cs rfl rfl rfl ?_
          refine qm_v_within11_t ⟨by decide, by decide⟩ ⟨by decide, by decide⟩ ⟨by decide, by decide⟩ (by decide) ⟨_, rfl, ?_⟩
          refine qm_G.ret rfl rfl ⟨_, rfl, ?_⟩
          refine qm_G.s1 rfl (qm_x_if_eq_f ⟨by decide, by decide⟩ (by decide)) ?_
          refine qm_G.s1 rfl (qm_x_iload rfl) ?_
          refine qm_G.s1 rfl (qm_x_pushI (-1) rfl) ?_
          refine qm_G.s1 rfl (qm_x_icmp_eq_t ⟨by omega, by omega⟩ ⟨by decide, by decide⟩ (by omega)) ?_
          refine qm_G.sp (lv1 := [(0, qm_R (some (0, 61, 0))), (1, qm_I (qm_i 2)), (2, qm_I (qm_i a2)), (3, qm_I (qm_i a3))]) rfl rfl (qm_x_iload rfl) ?_
          refine qm_G.s1 rfl (qm_x_pushI 0 rfl) ?_
          refine qm_G.s1 rfl (qm_x_pushI 3 rfl) ?_
          refine qm_G.cs rfl rfl rfl ?_
          refine qm_v_within11_t ⟨by omega, by omega⟩ ⟨by decide, by decide⟩ ⟨by decide, by decide⟩ (by omega) ⟨_, rfl, ?_⟩
          refine qm_G.s1 rfl (qm_x_if_ne_t ⟨by decide, by decide⟩ (by decide)) ?_
          refine qm_G.sp (lv1 := [(0, qm_R (some (0, 61, 0))), (1, qm_I (qm_i 2)), (2, qm_I (qm_i a2)), (3, qm_I (qm_i a3))]) rfl rfl (qm_x_aload rfl) ?_
          refine qm_G.s1 rfl (qm_x_iload rfl) ?_
          refine qm_G.s1 rfl (qm_x_iload rfl) ?_
          refine qm_G.cm rfl rfl (hS 61 rfl) rfl ?_
          refine qm_C.go (cd := qm_P26) (lv := [(0, qm_R (some (0, 61, 0))), (1, qm_I (qm_i 2)), (2, qm_I (qm_i a3))]) rfl rfl ?_
          refine qm_G.s1 rfl (qm_x_iload rfl) ?_
          refine qm_G.s1 rfl (qm_x_if_lt_t ⟨by omega, by omega⟩ (by omega)) ?_
          refine qm_G.sp (lv1 := []) rfl rfl (qm_x_pushI 1 rfl) ?_
          refine qm_G.ret rfl rfl ⟨_, rfl, ?_⟩
          refine qm_G.s1 rfl (qm_x_if_ne_t ⟨by decide, by decide⟩ (by decide)) ?_
          refine qm_G.sp (lv1 := [(0, qm_R (some (0, 61, 0))), (1, qm_I (qm_i 2)), (2, qm_I (qm_i a2)), (3, qm_I (qm_i a3))]) rfl rfl (qm_x_aload rfl) ?_
          refine qm_G.s1 rfl (qm_x_pushI 50 rfl) ?_
          refine qm_G.s1 rfl (qm_x_pushI 4 rfl) ?_
          refine qm_G.s1 rfl (qm_x_iload rfl) ?_
          refine qm_G.s1 rfl (qm_x_imul) ?_
          refine qm_G.s1 rfl (qm_x_iadd) ?_
          refine qm_G.s1 rfl (qm_x_iload rfl) ?_
          refine qm_G.s1 rfl (qm_x_iadd) ?_
          refine qm_G.s1 rfl (qm_x_iload rfl) ?_
          refine qm_G.s1 rfl (qm_x_pushI (-1) rfl) ?_
          refine qm_G.s1 rfl (qm_x_icmp_ne_f ⟨by omega, by omega⟩ ⟨by decide, by decide⟩ (by omega)) ?_
          refine qm_G.s1 rfl (qm_x_pushI (-5) rfl) ?_
          refine qm_G.s1 rfl (qm_x_goto) ?_
          refine qm_G.cm rfl rfl (hS 61 rfl) rfl ?_
          refine qm_C.go (cd := qm_P22) (lv := [(0, qm_R (some (0, 61, 0))), (1, qm_I (qm_i ((50 + (4 * 2)) + a2))), (2, qm_I (qm_i (-5)))]) rfl rfl ?_
          refine qm_G.s1 rfl (qm_x_aload rfl) ?_
          refine qm_G.s1 rfl (qm_x_getfR (q := (some (0, 62, 0))) (hS 61 rfl) (hR 61 0 62 rfl rfl)) ?_
          refine qm_G.s1 rfl (qm_x_iload rfl) ?_
          refine qm_G.s1 rfl (qm_x_iald (v := (J 62 0 (58 + (Int.toNat a2)))) (qm_arS hS rfl rfl) rfl (by omega) (by omega) (by decide) (congrArg (J 62 0) (by omega))) ?_
          refine qm_G.s1 rfl (qm_x_istore (lv' := [(3, qm_I (qm_i (J 62 0 (58 + (Int.toNat a2))))), (0, qm_R (some (0, 61, 0))), (1, qm_I (qm_i ((50 + (4 * 2)) + a2))), (2, qm_I (qm_i (-5)))]) rfl) ?_
          refine qm_G.s1 rfl (qm_x_aload rfl) ?_
          refine qm_G.s1 rfl (qm_x_getfR (q := (some (0, 62, 0))) (hS 61 rfl) (hR 61 0 62 rfl rfl)) ?_
          refine qm_G.s1 rfl (qm_x_iload rfl) ?_
          refine qm_G.s1 rfl (qm_x_iload rfl) ?_
          refine qm_G.s1 rfl (qm_x_iast (qm_arS hS rfl rfl) rfl (by omega) (by omega) (by decide)) ?_
          refine qm_G.s1 rfl (qm_x_iload rfl) ?_
          refine qm_G.ret rfl rfl ⟨_, rfl, ?_⟩
          refine qm_G.ret rfl rfl ⟨_, rfl, ?_⟩
          refine qm_G.s1 rfl (qm_x_icmp_eq_t ⟨by omega, by omega⟩ ⟨by omega, by omega⟩ (by omega)) ?_
          rw [show (Int.toNat ((50 + (4 * 2)) + a2)) = 58 + (Int.toNat a2) by omega]
          exact ih _ _ _ _ _ _ (qm_U_dek2 (by omega) (by omega) hI)
        · refine qm_G.s1 rfl (qm_x_pushI (-5) rfl) ?_
          refine qm_G.s1 rfl (qm_x_goto) ?_
          refine qm_G.ret rfl rfl ⟨_, rfl, ?_⟩
          refine qm_G.s1 rfl (qm_x_istore (lv' := [(4, qm_I (qm_i (-5))), (0, qm_R (some (0, 0, 0))), (1, qm_I (qm_i 2)), (2, qm_I (qm_i a2)), (3, qm_I (qm_i a3))]) rfl) ?_
          refine qm_G.s1 rfl (qm_x_aload rfl) ?_
          refine qm_G.s1 rfl (qm_x_getfR (q := (some (0, 1, 0))) (hS 0 rfl) (hR 0 0 1 rfl rfl)) ?_
          refine qm_G.s1 rfl (qm_x_getfR (q := (some (0, 2, 0))) (hS 1 rfl) (hR 1 0 2 rfl rfl)) ?_
          refine qm_G.s1 rfl (qm_x_getfR (q := (some (0, 8, 0))) (hS 2 rfl) (hR 2 4 8 rfl rfl)) ?_
          refine qm_G.s1 rfl (qm_x_iload rfl) ?_
          refine qm_G.s1 rfl (qm_x_aaldg (hS 8 rfl) rfl rfl (by decide) (by decide)) ?_
          refine qm_G.s1 rfl (qm_x_iload rfl) ?_
          refine qm_G.s1 rfl (qm_x_iload rfl) ?_
          refine qm_G.s1 rfl (qm_x_iast (qm_arS hS rfl rfl) rfl (by omega) (by omega) (by decide)) ?_
          refine qm_G.s1 rfl (qm_x_iload rfl) ?_
          refine qm_G.ret rfl rfl ⟨_, rfl, ?_⟩
          refine qm_G.s1 rfl (qm_x_aload rfl) ?_
          refine qm_G.s1 rfl (qm_x_aload rfl) ?_
          refine qm_G.s1 rfl (qm_x_iload rfl) ?_
          refine qm_G.s1 rfl (qm_x_pushI 1 rfl) ?_
          refine qm_G.s1 rfl (qm_x_iadd) ?_
          refine qm_G.s1 rfl (qm_x_iald2v (v := 2) (by omega) (by omega) hX e1) ?_
          refine qm_G.s1 rfl (qm_x_aload rfl) ?_
          refine qm_G.s1 rfl (qm_x_iload rfl) ?_
          refine qm_G.s1 rfl (qm_x_pushI 2 rfl) ?_
          refine qm_G.s1 rfl (qm_x_iadd) ?_
          refine qm_G.s1 rfl (qm_x_iald2v (v := a2) (by omega) (by omega) hX e2) ?_
          refine qm_G.s1 rfl (qm_x_aload rfl) ?_
          refine qm_G.s1 rfl (qm_x_iload rfl) ?_
          refine qm_G.s1 rfl (qm_x_pushI 3 rfl) ?_
          refine qm_G.s1 rfl (qm_x_iadd) ?_
          refine qm_G.s1 rfl (qm_x_iald2v (v := a3) (by omega) (by omega) hX e3) ?_
          refine qm_G.cm rfl rfl (hS 61 rfl) rfl ?_
          refine qm_C.go (cd := qm_P140) (lv := [(0, qm_R (some (0, 61, 0))), (1, qm_I (qm_i 2)), (2, qm_I (qm_i a2)), (3, qm_I (qm_i a3))]) rfl rfl ?_
          refine qm_G.s1 rfl (qm_x_iload rfl) ?_
          refine qm_G.cs rfl rfl rfl ?_
          refine qm_C.go (cd := qm_P80) (lv := [(0, qm_I (qm_i 2))]) rfl rfl ?_
          refine qm_G.s1 rfl (qm_x_iload rfl) ?_
          refine qm_G.s1 rfl (qm_x_pushI 0 rfl) ?_
          refine qm_G.s1 rfl (qm_x_pushI 2 rfl) ?_
          refine qm_G.cs rfl rfl rfl ?_
          refine qm_v_within11_t ⟨by decide, by decide⟩ ⟨by decide, by decide⟩ ⟨by decide, by decide⟩ (by decide) ⟨_, rfl, ?_⟩
          refine qm_G.ret rfl rfl ⟨_, rfl, ?_⟩
          refine qm_G.s1 rfl (qm_x_if_eq_f ⟨by decide, by decide⟩ (by decide)) ?_
          refine qm_G.s1 rfl (qm_x_iload rfl) ?_
          refine qm_G.s1 rfl (qm_x_pushI (-1) rfl) ?_
          refine qm_G.s1 rfl (qm_x_icmp_eq_t ⟨by omega, by omega⟩ ⟨by decide, by decide⟩ (by omega)) ?_
          refine qm_G.sp (lv1 := [(0, qm_R (some (0, 61, 0))), (1, qm_I (qm_i 2)), (2, qm_I (qm_i a2)), (3, qm_I (qm_i a3))]) rfl rfl (qm_x_iload rfl) ?_
          refine qm_G.s1 rfl (qm_x_pushI 0 rfl) ?_
          refine qm_G.s1 rfl (qm_x_pushI 3 rfl) ?_
          refine qm_G.cs rfl rfl rfl ?_
          refine qm_v_within11_t ⟨by omega, by omega⟩ ⟨by decide, by decide⟩ ⟨by decide, by decide⟩ (by omega) ⟨_, rfl, ?_⟩
          refine qm_G.s1 rfl (qm_x_if_ne_t ⟨by decide, by decide⟩ (by decide)) ?_
          refine qm_G.sp (lv1 := [(0, qm_R (some (0, 61, 0))), (1, qm_I (qm_i 2)), (2, qm_I (qm_i a2)), (3, qm_I (qm_i a3))]) rfl rfl (qm_x_aload rfl) ?_
          refine qm_G.s1 rfl (qm_x_iload rfl) ?_
          refine qm_G.s1 rfl (qm_x_iload rfl) ?_
          refine qm_G.cm rfl rfl (hS 61 rfl) rfl ?_
          refine qm_C.go (cd := qm_P26) (lv := [(0, qm_R (some (0, 61, 0))), (1, qm_I (qm_i 2)), (2, qm_I (qm_i a3))]) rfl rfl ?_
          refine qm_G.s1 rfl (qm_x_iload rfl) ?_
          refine qm_G.s1 rfl (qm_x_if_lt_t ⟨by omega, by omega⟩ (by omega)) ?_
          refine qm_G.sp (lv1 := []) rfl rfl (qm_x_pushI 1 rfl) ?_
          refine qm_G.ret rfl rfl ⟨_, rfl, ?_⟩
          refine qm_G.s1 rfl (qm_x_if_ne_t ⟨by decide, by decide⟩ (by decide)) ?_
          refine qm_G.sp (lv1 := [(0, qm_R (some (0, 61, 0))), (1, qm_I (qm_i 2)), (2, qm_I (qm_i a2)), (3, qm_I (qm_i a3))]) rfl rfl (qm_x_aload rfl) ?_
          refine qm_G.s1 rfl (qm_x_pushI 50 rfl) ?_
          refine qm_G.s1 rfl (qm_x_pushI 4 rfl) ?_
          refine qm_G.s1 rfl (qm_x_iload rfl) ?_
          refine qm_G.s1 rfl (qm_x_imul) ?_
          refine qm_G.s1 rfl (qm_x_iadd) ?_
          refine qm_G.s1 rfl (qm_x_iload rfl) ?_
          refine qm_G.s1 rfl (qm_x_iadd) ?_
          refine qm_G.s1 rfl (qm_x_iload rfl) ?_
          refine qm_G.s1 rfl (qm_x_pushI (-1) rfl) ?_
          refine qm_G.s1 rfl (qm_x_icmp_ne_f ⟨by omega, by omega⟩ ⟨by decide, by decide⟩ (by omega)) ?_
          refine qm_G.s1 rfl (qm_x_pushI (-5) rfl) ?_
          refine qm_G.s1 rfl (qm_x_goto) ?_
          refine qm_G.cm rfl rfl (hS 61 rfl) rfl ?_
          refine qm_C.go (cd := qm_P22) (lv := [(0, qm_R (some (0, 61, 0))), (1, qm_I (qm_i ((50 + (4 * 2)) + a2))), (2, qm_I (qm_i (-5)))]) rfl rfl ?_
          refine qm_G.s1 rfl (qm_x_aload rfl) ?_
          refine qm_G.s1 rfl (qm_x_getfR (q := (some (0, 62, 0))) (hS 61 rfl) (hR 61 0 62 rfl rfl)) ?_
          refine qm_G.s1 rfl (qm_x_iload rfl) ?_
          refine qm_G.s1 rfl (qm_x_iald (v := (J 62 0 (58 + (Int.toNat a2)))) (qm_arS hS rfl rfl) rfl (by omega) (by omega) (by decide) (congrArg (J 62 0) (by omega))) ?_
          refine qm_G.s1 rfl (qm_x_istore (lv' := [(3, qm_I (qm_i (J 62 0 (58 + (Int.toNat a2))))), (0, qm_R (some (0, 61, 0))), (1, qm_I (qm_i ((50 + (4 * 2)) + a2))), (2, qm_I (qm_i (-5)))]) rfl) ?_
          refine qm_G.s1 rfl (qm_x_aload rfl) ?_
          refine qm_G.s1 rfl (qm_x_getfR (q := (some (0, 62, 0))) (hS 61 rfl) (hR 61 0 62 rfl rfl)) ?_
          refine qm_G.s1 rfl (qm_x_iload rfl) ?_
          refine qm_G.s1 rfl (qm_x_iload rfl) ?_
          refine qm_G.s1 rfl (qm_x_iast (qm_arS hS rfl rfl) rfl (by omega) (by omega) (by decide)) ?_
          refine qm_G.s1 rfl (qm_x_iload rfl) ?_
          refine qm_G.ret rfl rfl ⟨_, rfl, ?_⟩
          refine qm_G.ret rfl rfl ⟨_, rfl, ?_⟩
          refine qm_G.s1 rfl (qm_x_icmp_eq_t ⟨by decide, by decide⟩ ⟨by omega, by omega⟩ (by omega)) ?_
          rw [show (Int.toNat ((50 + (4 * 2)) + a2)) = 58 + (Int.toNat a2) by omega]
          exact ih _ _ _ _ _ _ (qm_U_dek2 (by omega) (by omega) hI)
      · refine qm_G.ret rfl rfl ⟨_, rfl, ?_⟩
        refine qm_G.s1 rfl (qm_x_if_ne_f ⟨by decide, by decide⟩ (by decide)) ?_
        refine qm_G.s1 rfl (qm_x_pushI (-13) rfl) ?_
        refine qm_G.ret rfl rfl ⟨_, rfl, ?_⟩
        refine qm_G.s1 rfl (qm_x_aload rfl) ?_
        refine qm_G.s1 rfl (qm_x_aload rfl) ?_
        refine qm_G.s1 rfl (qm_x_iload rfl) ?_
        refine qm_G.s1 rfl (qm_x_pushI 1 rfl) ?_
        refine qm_G.s1 rfl (qm_x_iadd) ?_
        refine qm_G.s1 rfl (qm_x_iald2v (v := 2) (by omega) (by omega) hX e1) ?_
        refine qm_G.s1 rfl (qm_x_aload rfl) ?_
        refine qm_G.s1 rfl (qm_x_iload rfl) ?_
        refine qm_G.s1 rfl (qm_x_pushI 2 rfl) ?_
        refine qm_G.s1 rfl (qm_x_iadd) ?_
        refine qm_G.s1 rfl (qm_x_iald2v (v := a2) (by omega) (by omega) hX e2) ?_
        refine qm_G.s1 rfl (qm_x_aload rfl) ?_
        refine qm_G.s1 rfl (qm_x_iload rfl) ?_
        refine qm_G.s1 rfl (qm_x_pushI 3 rfl) ?_
        refine qm_G.s1 rfl (qm_x_iadd) ?_
        refine qm_G.s1 rfl (qm_x_iald2v (v := a3) (by omega) (by omega) hX e3) ?_
        refine qm_G.cm rfl rfl (hS 61 rfl) rfl ?_
        refine qm_C.go (cd := qm_P140) (lv := [(0, qm_R (some (0, 61, 0))), (1, qm_I (qm_i 2)), (2, qm_I (qm_i a2)), (3, qm_I (qm_i a3))]) rfl rfl ?_
        refine qm_G.s1 rfl (qm_x_iload rfl) ?_
        refine qm_G.cs rfl rfl rfl ?_
        refine qm_C.go (cd := qm_P80) (lv := [(0, qm_I (qm_i 2))]) rfl rfl ?_
        refine qm_G.s1 rfl (qm_x_iload rfl) ?_
        refine qm_G.s1 rfl (qm_x_pushI 0 rfl) ?_
        refine qm_G.s1 rfl (qm_x_pushI 2 rfl) ?_
        refine qm_G.cs rfl rfl rfl ?_
        refine qm_v_within11_t ⟨by decide, by decide⟩ ⟨by decide, by decide⟩ ⟨by decide, by decide⟩ (by decide) ⟨_, rfl, ?_⟩
        refine qm_G.ret rfl rfl ⟨_, rfl, ?_⟩
        refine qm_G.s1 rfl (qm_x_if_eq_f ⟨by decide, by decide⟩ (by decide)) ?_
        refine qm_G.s1 rfl (qm_x_iload rfl) ?_
        refine qm_G.s1 rfl (qm_x_pushI (-1) rfl) ?_
        refine qm_G.s1 rfl (qm_x_icmp_eq_t ⟨by omega, by omega⟩ ⟨by decide, by decide⟩ (by omega)) ?_
        refine qm_G.sp (lv1 := [(0, qm_R (some (0, 61, 0))), (1, qm_I (qm_i 2)), (2, qm_I (qm_i a2)), (3, qm_I (qm_i a3))]) rfl rfl (qm_x_iload rfl) ?_
        refine qm_G.s1 rfl (qm_x_pushI 0 rfl) ?_
        refine qm_G.s1 rfl (qm_x_pushI 3 rfl) ?_
        refine qm_G.cs rfl rfl rfl ?_
        refine qm_v_within11_f ⟨by omega, by omega⟩ ⟨by decide, by decide⟩ ⟨by decide, by decide⟩ (by omega) ⟨_, rfl, ?_⟩
        refine qm_G.s1 rfl (qm_x_if_ne_f ⟨by decide, by decide⟩ (by decide)) ?_
        refine qm_G.s1 rfl (qm_x_pushI (-13) rfl) ?_
        refine qm_G.ret rfl rfl ⟨_, rfl, ?_⟩
        refine qm_G.s1 rfl (qm_x_icmp_eq_t ⟨by decide, by decide⟩ ⟨by decide, by decide⟩ (by decide)) ?_
        exact ih _ _ _ _ _ _ hI.next
    · refine qm_G.s1 rfl (qm_x_aload rfl) ?_
      refine qm_G.s1 rfl (qm_x_getfR (q := (some (0, 1, 0))) (hS 0 rfl) (hR 0 0 1 rfl rfl)) ?_
      refine qm_G.s1 rfl (qm_x_getfR (q := (some (0, 2, 0))) (hS 1 rfl) (hR 1 0 2 rfl rfl)) ?_
      refine qm_G.s1 rfl (qm_x_iload rfl) ?_
      refine qm_G.cm rfl rfl (hS 2 rfl) rfl ?_
      refine qm_C.go (cd := qm_P93) (lv := [(0, qm_R (some (0, 2, 0))), (1, qm_I (qm_i a3))]) rfl rfl ?_
      refine qm_G.s1 rfl (qm_x_iload rfl) ?_
      refine qm_G.s1 rfl (qm_x_pushI 0 rfl) ?_
      refine qm_G.s1 rfl (qm_x_aload rfl) ?_
      have f62_7 : 0 ≤ J 62 0 7 ∧ J 62 0 7 ≤ 8 := hI.mk.rrc
      have f2_3 : J 2 0 3 = J 62 0 7 := hI.mk.rc
      refine qm_G.s1 rfl (qm_x_getfI (v := (J 2 0 3)) (hS 2 rfl) rfl) ?_
      refine qm_G.s1 rfl (qm_x_pushI 1 rfl) ?_
      refine qm_G.s1 rfl (qm_x_isub) ?_
      refine qm_G.cs rfl rfl rfl ?_
      refine qm_v_within10 ⟨by omega, by omega⟩ ⟨by decide, by decide⟩ ⟨by omega, by omega⟩ (fun c91 => ⟨_, rfl, ?_⟩) (fun c91 => ⟨_, rfl, ?_⟩)
      · refine qm_G.s1 rfl (qm_x_if_eq_f ⟨by decide, by decide⟩ (by decide)) ?_
        refine qm_G.s1 rfl (qm_x_aload rfl) ?_
        refine qm_G.s1 rfl (qm_x_getfR (q := (some (0, 7, 0))) (hS 2 rfl) (hR 2 2 7 rfl rfl)) ?_
        refine qm_G.s1 rfl (qm_x_iload rfl) ?_
        obtain ⟨q92, g93r, g93h, g93s, g93a, g93b, g93c, g93x, g93y, g93z⟩ := hI.mk.riv (Int.toNat a3) (by omega) (by omega)
        refine qm_G.s1 rfl (qm_x_aaldr (q := (some (0, q92, 0))) (hS 7 rfl) rfl rfl (by omega) (by omega) g93r) ?_
        refine qm_G.s1 rfl (qm_x_goto) ?_
        refine qm_G.ret rfl rfl ⟨_, rfl, ?_⟩
        refine qm_G.s1 rfl (qm_x_ifnonnull1) ?_
        refine qm_G.sp (lv1 := [(0, qm_R (some (0, 0, 0))), (1, qm_I (qm_i 2)), (2, qm_I (qm_i a2)), (3, qm_I (qm_i a3))]) rfl rfl (qm_x_iload rfl) ?_
        refine qm_G.cs rfl rfl rfl ?_
        refine qm_C.go (cd := qm_P73) (lv := [(0, qm_I (qm_i a2))]) rfl rfl ?_
        refine qm_G.s1 rfl (qm_x_iload rfl) ?_
        refine qm_G.s1 rfl (qm_x_pushI 0 rfl) ?_
        refine qm_G.s1 rfl (qm_x_pushI 3 rfl) ?_
        refine qm_G.cs rfl rfl rfl ?_
        refine qm_v_within10 ⟨by omega, by omega⟩ ⟨by decide, by decide⟩ ⟨by decide, by decide⟩ (fun c94 => ⟨_, rfl, ?_⟩) (fun c94 => ⟨_, rfl, ?_⟩)
        · refine qm_G.ret rfl rfl ⟨_, rfl, ?_⟩
          refine qm_G.s1 rfl (qm_x_if_ne_t ⟨by decide, by decide⟩ (by decide)) ?_
          refine qm_G.sp (lv1 := [(0, qm_R (some (0, 0, 0))), (1, qm_I (qm_i 2)), (2, qm_I (qm_i a2)), (3, qm_I (qm_i a3))]) rfl rfl (qm_x_aload rfl) ?_
          refine qm_G.s1 rfl (qm_x_getfR (q := (some (0, 1, 0))) (hS 0 rfl) (hR 0 0 1 rfl rfl)) ?_
          refine qm_G.s1 rfl (qm_x_getfR (q := (some (0, 2, 0))) (hS 1 rfl) (hR 1 0 2 rfl rfl)) ?_
          refine qm_G.s1 rfl (qm_x_iload rfl) ?_
          refine qm_G.s1 rfl (qm_x_iload rfl) ?_
          refine qm_G.cm rfl rfl (hS 2 rfl) rfl ?_
          refine qm_C.go (cd := qm_P145) (lv := [(0, qm_R (some (0, 2, 0))), (1, qm_I (qm_i 2)), (2, qm_I (qm_i a3))]) rfl rfl ?_
          refine qm_G.s1 rfl (qm_x_aload rfl) ?_
          refine qm_G.s1 rfl (qm_x_iload rfl) ?_
          refine qm_G.cm rfl rfl (hS 2 rfl) rfl ?_
          refine qm_C.go (cd := qm_P93) (lv := [(0, qm_R (some (0, 2, 0))), (1, qm_I (qm_i a3))]) rfl rfl ?_
          refine qm_G.s1 rfl (qm_x_iload rfl) ?_
          refine qm_G.s1 rfl (qm_x_pushI 0 rfl) ?_
          refine qm_G.s1 rfl (qm_x_aload rfl) ?_
          refine qm_G.s1 rfl (qm_x_getfI (v := (J 2 0 3)) (hS 2 rfl) rfl) ?_
          refine qm_G.s1 rfl (qm_x_pushI 1 rfl) ?_
          refine qm_G.s1 rfl (qm_x_isub) ?_
          refine qm_G.cs rfl rfl rfl ?_
          refine qm_v_within10_t ⟨by omega, by omega⟩ ⟨by decide, by decide⟩ ⟨by omega, by omega⟩ (by omega) ⟨_, rfl, ?_⟩
          refine qm_G.s1 rfl (qm_x_if_eq_f ⟨by decide, by decide⟩ (by decide)) ?_
          refine qm_G.s1 rfl (qm_x_aload rfl) ?_
          refine qm_G.s1 rfl (qm_x_getfR (q := (some (0, 7, 0))) (hS 2 rfl) (hR 2 2 7 rfl rfl)) ?_
          refine qm_G.s1 rfl (qm_x_iload rfl) ?_
          obtain ⟨q96, g97r, g97h, g97s, g97a, g97b, g97c, g97x, g97y, g97z⟩ := hI.mk.riv (Int.toNat a3) (by omega) (by omega)
          refine qm_G.s1 rfl (qm_x_aaldr (q := (some (0, q96, 0))) (hS 7 rfl) rfl rfl (by omega) (by omega) g97r) ?_
          refine qm_G.s1 rfl (qm_x_goto) ?_
          refine qm_G.ret rfl rfl ⟨_, rfl, ?_⟩
          refine qm_G.s1 rfl (qm_x_astore (lv' := [(3, qm_R (some (0, q96, 0))), (0, qm_R (some (0, 2, 0))), (1, qm_I (qm_i 2)), (2, qm_I (qm_i a3))]) rfl) ?_
          refine qm_G.s1 rfl (qm_x_aload rfl) ?_
          refine qm_G.s1 rfl (qm_x_ifnull1) ?_
          refine qm_G.s1 rfl (qm_x_iload rfl) ?_
          refine qm_G.s1 rfl (qm_x_if_ne_t ⟨by decide, by decide⟩ (by decide)) ?_
          refine qm_G.sp (lv1 := [(1, qm_I (qm_i 2)), (3, qm_R (some (0, q96, 0)))]) rfl rfl (qm_x_iload rfl) ?_
          refine qm_G.s1 rfl (qm_x_pushI 1 rfl) ?_
          refine qm_G.s1 rfl (qm_x_icmp_ne_t ⟨by decide, by decide⟩ ⟨by decide, by decide⟩ (by decide)) ?_
          refine qm_G.sp (lv1 := [(3, qm_R (some (0, q96, 0)))]) rfl rfl (qm_x_aload rfl) ?_
          refine qm_G.cm rfl rfl g97s rfl ?_
          refine qm_C.go (cd := qm_P47) (lv := [(0, qm_R (some (0, q96, 0)))]) rfl rfl ?_
          refine qm_G.s1 rfl (qm_x_aload rfl) ?_
          refine qm_G.s1 rfl (qm_x_getfI (v := (J q96 0 0)) g97s rfl) ?_
          refine qm_G.s1 rfl (qm_x_pushI 2 rfl) ?_
          refine qm_y_icmp_ne rfl ⟨by omega, by omega⟩ ⟨by decide, by decide⟩ (fun c98 => ?_) (fun c98 => ?_)
          · refine qm_G.sp (lv1 := []) rfl rfl (qm_x_pushI 0 rfl) ?_
            refine qm_G.ret rfl rfl ⟨_, rfl, ?_⟩
            refine qm_G.ret rfl rfl ⟨_, rfl, ?_⟩
            refine qm_G.s1 rfl (qm_x_if_ne_f ⟨by decide, by decide⟩ (by decide)) ?_
            refine qm_G.s1 rfl (qm_x_pushI (-12) rfl) ?_
            refine qm_G.ret rfl rfl ⟨_, rfl, ?_⟩
            refine qm_G.s1 rfl (qm_x_aload rfl) ?_
            refine qm_G.s1 rfl (qm_x_aload rfl) ?_
            refine qm_G.s1 rfl (qm_x_iload rfl) ?_
            refine qm_G.s1 rfl (qm_x_pushI 1 rfl) ?_
            refine qm_G.s1 rfl (qm_x_iadd) ?_
            refine qm_G.s1 rfl (qm_x_iald2v (v := 2) (by omega) (by omega) hX e1) ?_
            refine qm_G.s1 rfl (qm_x_aload rfl) ?_
            refine qm_G.s1 rfl (qm_x_iload rfl) ?_
            refine qm_G.s1 rfl (qm_x_pushI 2 rfl) ?_
            refine qm_G.s1 rfl (qm_x_iadd) ?_
            refine qm_G.s1 rfl (qm_x_iald2v (v := a2) (by omega) (by omega) hX e2) ?_
            refine qm_G.s1 rfl (qm_x_aload rfl) ?_
            refine qm_G.s1 rfl (qm_x_iload rfl) ?_
            refine qm_G.s1 rfl (qm_x_pushI 3 rfl) ?_
            refine qm_G.s1 rfl (qm_x_iadd) ?_
            refine qm_G.s1 rfl (qm_x_iald2v (v := a3) (by omega) (by omega) hX e3) ?_
            refine qm_G.cm rfl rfl (hS 61 rfl) rfl ?_
            refine qm_C.go (cd := qm_P140) (lv := [(0, qm_R (some (0, 61, 0))), (1, qm_I (qm_i 2)), (2, qm_I (qm_i a2)), (3, qm_I (qm_i a3))]) rfl rfl ?_
            refine qm_G.s1 rfl (qm_x_iload rfl) ?_
            refine qm_G.cs rfl rfl rfl ?_
            refine qm_C.go (cd := qm_P80) (lv := [(0, qm_I (qm_i 2))]) rfl rfl ?_
            refine qm_G.s1 rfl (qm_x_iload rfl) ?_
            refine qm_G.s1 rfl (qm_x_pushI 0 rfl) ?_
            refine qm_G.s1 rfl (qm_x_pushI 2 rfl) ?_
            refine qm_G.cs rfl rfl rfl ?_
            refine qm_v_within11_t ⟨by decide, by decide⟩ ⟨by decide, by decide⟩ ⟨by decide, by decide⟩ (by decide) ⟨_, rfl, ?_⟩
            refine qm_G.ret rfl rfl ⟨_, rfl, ?_⟩
            refine qm_G.s1 rfl (qm_x_if_eq_f ⟨by decide, by decide⟩ (by decide)) ?_
            refine qm_G.s1 rfl (qm_x_iload rfl) ?_
            refine qm_G.s1 rfl (qm_x_pushI (-1) rfl) ?_
            refine qm_G.s1 rfl (qm_x_icmp_eq_f ⟨by omega, by omega⟩ ⟨by decide, by decide⟩ (by omega)) ?_
            refine qm_G.s1 rfl (qm_x_aload rfl) ?_
            refine qm_G.s1 rfl (qm_x_iload rfl) ?_
            refine qm_G.cm rfl rfl (hS 61 rfl) rfl ?_
            refine qm_C.go (cd := qm_P82) (lv := [(0, qm_R (some (0, 61, 0))), (1, qm_I (qm_i a3))]) rfl rfl ?_
            refine qm_G.s1 rfl (qm_x_iload rfl) ?_
            refine qm_G.s1 rfl (qm_x_pushI 0 rfl) ?_
            refine qm_G.s1 rfl (qm_x_aload rfl) ?_
            refine qm_G.s1 rfl (qm_x_getfR (q := (some (0, 62, 0))) (hS 61 rfl) (hR 61 0 62 rfl rfl)) ?_
            refine qm_G.s1 rfl (qm_x_pushI 7 rfl) ?_
            refine qm_G.s1 rfl (qm_x_iald (v := (J 62 0 7)) (qm_arS hS rfl rfl) rfl (by decide) (by decide) (by decide) rfl) ?_
            refine qm_G.s1 rfl (qm_x_pushI 1 rfl) ?_
            refine qm_G.s1 rfl (qm_x_isub) ?_
            refine qm_G.cs rfl rfl rfl ?_
            refine qm_v_within11_t ⟨by omega, by omega⟩ ⟨by decide, by decide⟩ ⟨by omega, by omega⟩ (by omega) ⟨_, rfl, ?_⟩
            refine qm_G.ret rfl rfl ⟨_, rfl, ?_⟩
            refine qm_G.s1 rfl (qm_x_if_ne_t ⟨by decide, by decide⟩ (by decide)) ?_
            refine qm_G.sp (lv1 := [(0, qm_R (some (0, 61, 0))), (1, qm_I (qm_i 2)), (2, qm_I (qm_i a2)), (3, qm_I (qm_i a3))]) rfl rfl (qm_x_iload rfl) ?_
            refine qm_G.s1 rfl (qm_x_pushI 0 rfl) ?_
            refine qm_G.s1 rfl (qm_x_pushI 3 rfl) ?_
            refine qm_G.cs rfl rfl rfl ?_
            refine qm_v_within11_t ⟨by omega, by omega⟩ ⟨by decide, by decide⟩ ⟨by decide, by decide⟩ (by omega) ⟨_, rfl, ?_⟩
            refine qm_G.s1 rfl (qm_x_if_ne_t ⟨by decide, by decide⟩ (by decide)) ?_
            refine qm_G.sp (lv1 := [(0, qm_R (some (0, 61, 0))), (1, qm_I (qm_i 2)), (2, qm_I (qm_i a2)), (3, qm_I (qm_i a3))]) rfl rfl (qm_x_aload rfl) ?_
            refine qm_G.s1 rfl (qm_x_iload rfl) ?_
            refine qm_G.s1 rfl (qm_x_iload rfl) ?_
            refine qm_G.cm rfl rfl (hS 61 rfl) rfl ?_
            refine qm_C.go (cd := qm_P26) (lv := [(0, qm_R (some (0, 61, 0))), (1, qm_I (qm_i 2)), (2, qm_I (qm_i a3))]) rfl rfl ?_
            refine qm_G.s1 rfl (qm_x_iload rfl) ?_
            refine qm_G.s1 rfl (qm_x_if_lt_f ⟨by omega, by omega⟩ (by omega)) ?_
            refine qm_G.s1 rfl (qm_x_iload rfl) ?_
            refine qm_G.s1 rfl (qm_x_if_ne_t ⟨by decide, by decide⟩ (by decide)) ?_
            refine qm_G.sp (lv1 := [(0, qm_R (some (0, 61, 0))), (1, qm_I (qm_i 2)), (2, qm_I (qm_i a3))]) rfl rfl (qm_x_aload rfl) ?_
            refine qm_G.s1 rfl (qm_x_getfR (q := (some (0, 62, 0))) (hS 61 rfl) (hR 61 0 62 rfl rfl)) ?_
            refine qm_G.s1 rfl (qm_x_pushI 26 rfl) ?_
            refine qm_G.s1 rfl (qm_x_pushI 3 rfl) ?_
            refine qm_G.s1 rfl (qm_x_iload rfl) ?_
            refine qm_G.s1 rfl (qm_x_imul) ?_
            refine qm_G.s1 rfl (qm_x_iadd) ?_
            refine qm_G.s1 rfl (qm_x_iald (v := (J 62 0 (26 + 3 * (Int.toNat a3)))) (qm_arS hS rfl rfl) rfl (by omega) (by omega) (by decide) (congrArg (J 62 0) (by omega))) ?_
            refine qm_G.s1 rfl (qm_x_istore (lv' := [(3, qm_I (qm_i (J 62 0 (26 + 3 * (Int.toNat a3))))), (0, qm_R (some (0, 61, 0))), (1, qm_I (qm_i 2)), (2, qm_I (qm_i a3))]) rfl) ?_
            refine qm_G.s1 rfl (qm_x_iload rfl) ?_
            refine qm_G.s1 rfl (qm_x_pushI 1 rfl) ?_
            refine qm_G.s1 rfl (qm_x_icmp_ne_t ⟨by decide, by decide⟩ ⟨by decide, by decide⟩ (by decide)) ?_
            refine qm_G.sp (lv1 := [(3, qm_I (qm_i (J 62 0 (26 + 3 * (Int.toNat a3)))))]) rfl rfl (qm_x_iload rfl) ?_
            refine qm_G.s1 rfl (qm_x_pushI 2 rfl) ?_
            refine qm_G.s1 rfl (qm_x_icmp_ne_t ⟨by omega, by omega⟩ ⟨by decide, by decide⟩ (by omega)) ?_
            refine qm_G.sp (lv1 := []) rfl rfl (qm_x_pushI 0 rfl) ?_
            refine qm_G.ret rfl rfl ⟨_, rfl, ?_⟩
            refine qm_G.s1 rfl (qm_x_if_ne_f ⟨by decide, by decide⟩ (by decide)) ?_
            refine qm_G.s1 rfl (qm_x_pushI (-12) rfl) ?_
            refine qm_G.ret rfl rfl ⟨_, rfl, ?_⟩
            refine qm_G.s1 rfl (qm_x_icmp_eq_t ⟨by decide, by decide⟩ ⟨by decide, by decide⟩ (by decide)) ?_
            exact ih _ _ _ _ _ _ hI.next
          · refine qm_G.s1 rfl (qm_x_pushI 1 rfl) ?_
            refine qm_G.s1 rfl (qm_x_goto) ?_
            refine qm_G.ret rfl rfl ⟨_, rfl, ?_⟩
            refine qm_G.ret rfl rfl ⟨_, rfl, ?_⟩
            refine qm_G.s1 rfl (qm_x_if_ne_t ⟨by decide, by decide⟩ (by decide)) ?_
            refine qm_G.sp (lv1 := [(0, qm_R (some (0, 0, 0))), (1, qm_I (qm_i 2)), (2, qm_I (qm_i a2)), (3, qm_I (qm_i a3))]) rfl rfl (qm_x_aload rfl) ?_
            refine qm_G.s1 rfl (qm_x_getfR (q := (some (0, 1, 0))) (hS 0 rfl) (hR 0 0 1 rfl rfl)) ?_
            refine qm_G.s1 rfl (qm_x_getfR (q := (some (0, 2, 0))) (hS 1 rfl) (hR 1 0 2 rfl rfl)) ?_
            refine qm_G.s1 rfl (qm_x_iload rfl) ?_
            refine qm_G.s1 rfl (qm_x_iload rfl) ?_
            refine qm_G.cm rfl rfl (hS 2 rfl) rfl ?_
            refine qm_C.go (cd := qm_P38) (lv := [(0, qm_R (some (0, 2, 0))), (1, qm_I (qm_i 2)), (2, qm_I (qm_i a2))]) rfl rfl ?_
            refine qm_G.s1 rfl (qm_x_aload rfl) ?_
            refine qm_G.s1 rfl (qm_x_getfR (q := (some (0, 8, 0))) (hS 2 rfl) (hR 2 4 8 rfl rfl)) ?_
            refine qm_G.s1 rfl (qm_x_iload rfl) ?_
            refine qm_G.s1 rfl (qm_x_aaldg (hS 8 rfl) rfl rfl (by decide) (by decide)) ?_
            refine qm_G.s1 rfl (qm_x_iload rfl) ?_
            have g102 : (J 8 3 (Int.toNat a2) = -1 ∧ J 62 0 (58 + (Int.toNat a2)) = -5) ∨ (J 8 3 (Int.toNat a2) = J 62 0 (58 + (Int.toNat a2)) ∧ 0 ≤ J 62 0 (58 + (Int.toNat a2)) ∧ J 62 0 (58 + (Int.toNat a2)) < J 62 0 7) := hI.mk.dek 2 (Int.toNat a2) (by decide) (by omega)
            refine qm_G.s1 rfl (qm_x_iald (v := (J 8 3 (Int.toNat a2))) (qm_arS hS rfl rfl) rfl (by omega) (by omega) (by decide) rfl) ?_
            refine qm_G.s1 rfl (qm_x_istore (lv' := [(3, qm_I (qm_i (J 8 3 (Int.toNat a2)))), (0, qm_R (some (0, 2, 0))), (1, qm_I (qm_i 2)), (2, qm_I (qm_i a2))]) rfl) ?_
            refine qm_G.s1 rfl (qm_x_iload rfl) ?_
            refine qm_G.s1 rfl (qm_x_pushI (-1) rfl) ?_
            refine qm_y_icmp_ne rfl ⟨by omega, by omega⟩ ⟨by decide, by decide⟩ (fun c103 => ?_) (fun c103 => ?_)
            · refine qm_G.sp (lv1 := [(3, qm_I (qm_i (J 8 3 (Int.toNat a2))))]) rfl rfl (qm_x_iload rfl) ?_
              refine qm_G.ret rfl rfl ⟨_, rfl, ?_⟩
              refine qm_G.s1 rfl (qm_x_istore (lv' := [(4, qm_I (qm_i (J 8 3 (Int.toNat a2)))), (0, qm_R (some (0, 0, 0))), (1, qm_I (qm_i 2)), (2, qm_I (qm_i a2)), (3, qm_I (qm_i a3))]) rfl) ?_
              refine qm_G.s1 rfl (qm_x_aload rfl) ?_
              refine qm_G.s1 rfl (qm_x_getfR (q := (some (0, 1, 0))) (hS 0 rfl) (hR 0 0 1 rfl rfl)) ?_
              refine qm_G.s1 rfl (qm_x_getfR (q := (some (0, 2, 0))) (hS 1 rfl) (hR 1 0 2 rfl rfl)) ?_
              refine qm_G.s1 rfl (qm_x_getfR (q := (some (0, 8, 0))) (hS 2 rfl) (hR 2 4 8 rfl rfl)) ?_
              refine qm_G.s1 rfl (qm_x_iload rfl) ?_
              refine qm_G.s1 rfl (qm_x_aaldg (hS 8 rfl) rfl rfl (by decide) (by decide)) ?_
              refine qm_G.s1 rfl (qm_x_iload rfl) ?_
              refine qm_G.s1 rfl (qm_x_iload rfl) ?_
              refine qm_G.s1 rfl (qm_x_iast (qm_arS hS rfl rfl) rfl (by omega) (by omega) (by decide)) ?_
              refine qm_G.s1 rfl (qm_x_iload rfl) ?_
              refine qm_G.ret rfl rfl ⟨_, rfl, ?_⟩
              refine qm_G.s1 rfl (qm_x_aload rfl) ?_
              refine qm_G.s1 rfl (qm_x_aload rfl) ?_
              refine qm_G.s1 rfl (qm_x_iload rfl) ?_
              refine qm_G.s1 rfl (qm_x_pushI 1 rfl) ?_
              refine qm_G.s1 rfl (qm_x_iadd) ?_
              refine qm_G.s1 rfl (qm_x_iald2v (v := 2) (by omega) (by omega) hX e1) ?_
              refine qm_G.s1 rfl (qm_x_aload rfl) ?_
              refine qm_G.s1 rfl (qm_x_iload rfl) ?_
              refine qm_G.s1 rfl (qm_x_pushI 2 rfl) ?_
              refine qm_G.s1 rfl (qm_x_iadd) ?_
              refine qm_G.s1 rfl (qm_x_iald2v (v := a2) (by omega) (by omega) hX e2) ?_
              refine qm_G.s1 rfl (qm_x_aload rfl) ?_
              refine qm_G.s1 rfl (qm_x_iload rfl) ?_
              refine qm_G.s1 rfl (qm_x_pushI 3 rfl) ?_
              refine qm_G.s1 rfl (qm_x_iadd) ?_
              refine qm_G.s1 rfl (qm_x_iald2v (v := a3) (by omega) (by omega) hX e3) ?_
              refine qm_G.cm rfl rfl (hS 61 rfl) rfl ?_
              refine qm_C.go (cd := qm_P140) (lv := [(0, qm_R (some (0, 61, 0))), (1, qm_I (qm_i 2)), (2, qm_I (qm_i a2)), (3, qm_I (qm_i a3))]) rfl rfl ?_
              refine qm_G.s1 rfl (qm_x_iload rfl) ?_
              refine qm_G.cs rfl rfl rfl ?_
              refine qm_C.go (cd := qm_P80) (lv := [(0, qm_I (qm_i 2))]) rfl rfl ?_
              refine qm_G.s1 rfl (qm_x_iload rfl) ?_
              refine qm_G.s1 rfl (qm_x_pushI 0 rfl) ?_
              refine qm_G.s1 rfl (qm_x_pushI 2 rfl) ?_
              refine qm_G.cs rfl rfl rfl ?_
              refine qm_v_within11_t ⟨by decide, by decide⟩ ⟨by decide, by decide⟩ ⟨by decide, by decide⟩ (by decide) ⟨_, rfl, ?_⟩
              refine qm_G.ret rfl rfl ⟨_, rfl, ?_⟩
              refine qm_G.s1 rfl (qm_x_if_eq_f ⟨by decide, by decide⟩ (by decide)) ?_
              refine qm_G.s1 rfl (qm_x_iload rfl) ?_
              refine qm_G.s1 rfl (qm_x_pushI (-1) rfl) ?_
              refine qm_G.s1 rfl (qm_x_icmp_eq_f ⟨by omega, by omega⟩ ⟨by decide, by decide⟩ (by omega)) ?_
              refine qm_G.s1 rfl (qm_x_aload rfl) ?_
              refine qm_G.s1 rfl (qm_x_iload rfl) ?_
              refine qm_G.cm rfl rfl (hS 61 rfl) rfl ?_
              refine qm_C.go (cd := qm_P82) (lv := [(0, qm_R (some (0, 61, 0))), (1, qm_I (qm_i a3))]) rfl rfl ?_
              refine qm_G.s1 rfl (qm_x_iload rfl) ?_
              refine qm_G.s1 rfl (qm_x_pushI 0 rfl) ?_
              refine qm_G.s1 rfl (qm_x_aload rfl) ?_
              refine qm_G.s1 rfl (qm_x_getfR (q := (some (0, 62, 0))) (hS 61 rfl) (hR 61 0 62 rfl rfl)) ?_
              refine qm_G.s1 rfl (qm_x_pushI 7 rfl) ?_
              refine qm_G.s1 rfl (qm_x_iald (v := (J 62 0 7)) (qm_arS hS rfl rfl) rfl (by decide) (by decide) (by decide) rfl) ?_
              refine qm_G.s1 rfl (qm_x_pushI 1 rfl) ?_
              refine qm_G.s1 rfl (qm_x_isub) ?_
              refine qm_G.cs rfl rfl rfl ?_
              refine qm_v_within11_t ⟨by omega, by omega⟩ ⟨by decide, by decide⟩ ⟨by omega, by omega⟩ (by omega) ⟨_, rfl, ?_⟩
              refine qm_G.ret rfl rfl ⟨_, rfl, ?_⟩
              refine qm_G.s1 rfl (qm_x_if_ne_t ⟨by decide, by decide⟩ (by decide)) ?_
              refine qm_G.sp (lv1 := [(0, qm_R (some (0, 61, 0))), (1, qm_I (qm_i 2)), (2, qm_I (qm_i a2)), (3, qm_I (qm_i a3))]) rfl rfl (qm_x_iload rfl) ?_
              refine qm_G.s1 rfl (qm_x_pushI 0 rfl) ?_
              refine qm_G.s1 rfl (qm_x_pushI 3 rfl) ?_
              refine qm_G.cs rfl rfl rfl ?_
              refine qm_v_within11_t ⟨by omega, by omega⟩ ⟨by decide, by decide⟩ ⟨by decide, by decide⟩ (by omega) ⟨_, rfl, ?_⟩
              refine qm_G.s1 rfl (qm_x_if_ne_t ⟨by decide, by decide⟩ (by decide)) ?_
              refine qm_G.sp (lv1 := [(0, qm_R (some (0, 61, 0))), (1, qm_I (qm_i 2)), (2, qm_I (qm_i a2)), (3, qm_I (qm_i a3))]) rfl rfl (qm_x_aload rfl) ?_
              refine qm_G.s1 rfl (qm_x_iload rfl) ?_
              refine qm_G.s1 rfl (qm_x_iload rfl) ?_
              refine qm_G.cm rfl rfl (hS 61 rfl) rfl ?_
              refine qm_C.go (cd := qm_P26) (lv := [(0, qm_R (some (0, 61, 0))), (1, qm_I (qm_i 2)), (2, qm_I (qm_i a3))]) rfl rfl ?_
              refine qm_G.s1 rfl (qm_x_iload rfl) ?_
              refine qm_G.s1 rfl (qm_x_if_lt_f ⟨by omega, by omega⟩ (by omega)) ?_
              refine qm_G.s1 rfl (qm_x_iload rfl) ?_
              refine qm_G.s1 rfl (qm_x_if_ne_t ⟨by decide, by decide⟩ (by decide)) ?_
              refine qm_G.sp (lv1 := [(0, qm_R (some (0, 61, 0))), (1, qm_I (qm_i 2)), (2, qm_I (qm_i a3))]) rfl rfl (qm_x_aload rfl) ?_
              refine qm_G.s1 rfl (qm_x_getfR (q := (some (0, 62, 0))) (hS 61 rfl) (hR 61 0 62 rfl rfl)) ?_
              refine qm_G.s1 rfl (qm_x_pushI 26 rfl) ?_
              refine qm_G.s1 rfl (qm_x_pushI 3 rfl) ?_
              refine qm_G.s1 rfl (qm_x_iload rfl) ?_
              refine qm_G.s1 rfl (qm_x_imul) ?_
              refine qm_G.s1 rfl (qm_x_iadd) ?_
              refine qm_G.s1 rfl (qm_x_iald (v := (J 62 0 (26 + 3 * (Int.toNat a3)))) (qm_arS hS rfl rfl) rfl (by omega) (by omega) (by decide) (congrArg (J 62 0) (by omega))) ?_
              refine qm_G.s1 rfl (qm_x_istore (lv' := [(3, qm_I (qm_i (J 62 0 (26 + 3 * (Int.toNat a3))))), (0, qm_R (some (0, 61, 0))), (1, qm_I (qm_i 2)), (2, qm_I (qm_i a3))]) rfl) ?_
              refine qm_G.s1 rfl (qm_x_iload rfl) ?_
              refine qm_G.s1 rfl (qm_x_pushI 1 rfl) ?_
              refine qm_G.s1 rfl (qm_x_icmp_ne_t ⟨by decide, by decide⟩ ⟨by decide, by decide⟩ (by decide)) ?_
              refine qm_G.sp (lv1 := [(3, qm_I (qm_i (J 62 0 (26 + 3 * (Int.toNat a3)))))]) rfl rfl (qm_x_iload rfl) ?_
              refine qm_G.s1 rfl (qm_x_pushI 2 rfl) ?_
              refine qm_G.s1 rfl (qm_x_icmp_ne_f ⟨by omega, by omega⟩ ⟨by decide, by decide⟩ (by omega)) ?_
              refine qm_G.s1 rfl (qm_x_pushI 1 rfl) ?_
              refine qm_G.s1 rfl (qm_x_goto) ?_
              refine qm_G.ret rfl rfl ⟨_, rfl, ?_⟩
              refine qm_G.s1 rfl (qm_x_if_ne_t ⟨by decide, by decide⟩ (by decide)) ?_
              refine qm_G.sp (lv1 := [(0, qm_R (some (0, 61, 0))), (1, qm_I (qm_i 2)), (2, qm_I (qm_i a2)), (3, qm_I (qm_i a3))]) rfl rfl (qm_x_aload rfl) ?_
              refine qm_G.s1 rfl (qm_x_pushI 50 rfl) ?_
              refine qm_G.s1 rfl (qm_x_pushI 4 rfl) ?_
              refine qm_G.s1 rfl (qm_x_iload rfl) ?_
              refine qm_G.s1 rfl (qm_x_imul) ?_
              refine qm_G.s1 rfl (qm_x_iadd) ?_
              refine qm_G.s1 rfl (qm_x_iload rfl) ?_
              refine qm_G.s1 rfl (qm_x_iadd) ?_
              refine qm_G.s1 rfl (qm_x_iload rfl) ?_
              refine qm_G.s1 rfl (qm_x_pushI (-1) rfl) ?_
              refine qm_G.s1 rfl (qm_x_icmp_ne_t ⟨by omega, by omega⟩ ⟨by decide, by decide⟩ (by omega)) ?_
              refine qm_G.sp (lv1 := [(3, qm_I (qm_i a3))]) rfl rfl (qm_x_iload rfl) ?_
              refine qm_G.cm rfl rfl (hS 61 rfl) rfl ?_
              refine qm_C.go (cd := qm_P22) (lv := [(0, qm_R (some (0, 61, 0))), (1, qm_I (qm_i ((50 + (4 * 2)) + a2))), (2, qm_I (qm_i a3))]) rfl rfl ?_
              refine qm_G.s1 rfl (qm_x_aload rfl) ?_
              refine qm_G.s1 rfl (qm_x_getfR (q := (some (0, 62, 0))) (hS 61 rfl) (hR 61 0 62 rfl rfl)) ?_
              refine qm_G.s1 rfl (qm_x_iload rfl) ?_
              refine qm_G.s1 rfl (qm_x_iald (v := (J 62 0 (58 + (Int.toNat a2)))) (qm_arS hS rfl rfl) rfl (by omega) (by omega) (by decide) (congrArg (J 62 0) (by omega))) ?_
              refine qm_G.s1 rfl (qm_x_istore (lv' := [(3, qm_I (qm_i (J 62 0 (58 + (Int.toNat a2))))), (0, qm_R (some (0, 61, 0))), (1, qm_I (qm_i ((50 + (4 * 2)) + a2))), (2, qm_I (qm_i a3))]) rfl) ?_
              refine qm_G.s1 rfl (qm_x_aload rfl) ?_
              refine qm_G.s1 rfl (qm_x_getfR (q := (some (0, 62, 0))) (hS 61 rfl) (hR 61 0 62 rfl rfl)) ?_
              refine qm_G.s1 rfl (qm_x_iload rfl) ?_
              refine qm_G.s1 rfl (qm_x_iload rfl) ?_
              refine qm_G.s1 rfl (qm_x_iast (qm_arS hS rfl rfl) rfl (by omega) (by omega) (by decide)) ?_
              refine qm_G.s1 rfl (qm_x_iload rfl) ?_
              refine qm_G.ret rfl rfl ⟨_, rfl, ?_⟩
              refine qm_G.ret rfl rfl ⟨_, rfl, ?_⟩
              refine qm_G.s1 rfl (qm_x_icmp_eq_t ⟨by omega, by omega⟩ ⟨by omega, by omega⟩ (by omega)) ?_
              rw [show (Int.toNat ((50 + (4 * 2)) + a2)) = 58 + (Int.toNat a2) by omega]
              exact ih _ _ _ _ _ _ (qm_U_dek2 (by omega) (by omega) hI)
            · refine qm_G.s1 rfl (qm_x_pushI (-5) rfl) ?_
              refine qm_G.s1 rfl (qm_x_goto) ?_
              refine qm_G.ret rfl rfl ⟨_, rfl, ?_⟩
              refine qm_G.s1 rfl (qm_x_istore (lv' := [(4, qm_I (qm_i (-5))), (0, qm_R (some (0, 0, 0))), (1, qm_I (qm_i 2)), (2, qm_I (qm_i a2)), (3, qm_I (qm_i a3))]) rfl) ?_
              refine qm_G.s1 rfl (qm_x_aload rfl) ?_
              refine qm_G.s1 rfl (qm_x_getfR (q := (some (0, 1, 0))) (hS 0 rfl) (hR 0 0 1 rfl rfl)) ?_
              refine qm_G.s1 rfl (qm_x_getfR (q := (some (0, 2, 0))) (hS 1 rfl) (hR 1 0 2 rfl rfl)) ?_
              refine qm_G.s1 rfl (qm_x_getfR (q := (some (0, 8, 0))) (hS 2 rfl) (hR 2 4 8 rfl rfl)) ?_
              refine qm_G.s1 rfl (qm_x_iload rfl) ?_
              refine qm_G.s1 rfl (qm_x_aaldg (hS 8 rfl) rfl rfl (by decide) (by decide)) ?_
              refine qm_G.s1 rfl (qm_x_iload rfl) ?_
              refine qm_G.s1 rfl (qm_x_iload rfl) ?_
              refine qm_G.s1 rfl (qm_x_iast (qm_arS hS rfl rfl) rfl (by omega) (by omega) (by decide)) ?_
              refine qm_G.s1 rfl (qm_x_iload rfl) ?_
              refine qm_G.ret rfl rfl ⟨_, rfl, ?_⟩
              refine qm_G.s1 rfl (qm_x_aload rfl) ?_
              refine qm_G.s1 rfl (qm_x_aload rfl) ?_
              refine qm_G.s1 rfl (qm_x_iload rfl) ?_
              refine qm_G.s1 rfl (qm_x_pushI 1 rfl) ?_
              refine qm_G.s1 rfl (qm_x_iadd) ?_
              refine qm_G.s1 rfl (qm_x_iald2v (v := 2) (by omega) (by omega) hX e1) ?_
              refine qm_G.s1 rfl (qm_x_aload rfl) ?_
              refine qm_G.s1 rfl (qm_x_iload rfl) ?_
              refine qm_G.s1 rfl (qm_x_pushI 2 rfl) ?_
              refine qm_G.s1 rfl (qm_x_iadd) ?_
              refine qm_G.s1 rfl (qm_x_iald2v (v := a2) (by omega) (by omega) hX e2) ?_
              refine qm_G.s1 rfl (qm_x_aload rfl) ?_
              refine qm_G.s1 rfl (qm_x_iload rfl) ?_
              refine qm_G.s1 rfl (qm_x_pushI 3 rfl) ?_
              refine qm_G.s1 rfl (qm_x_iadd) ?_
              refine qm_G.s1 rfl (qm_x_iald2v (v := a3) (by omega) (by omega) hX e3) ?_
              refine qm_G.cm rfl rfl (hS 61 rfl) rfl ?_
              refine qm_C.go (cd := qm_P140) (lv := [(0, qm_R (some (0, 61, 0))), (1, qm_I (qm_i 2)), (2, qm_I (qm_i a2)), (3, qm_I (qm_i a3))]) rfl rfl ?_
              refine qm_G.s1 rfl (qm_x_iload rfl) ?_
              refine qm_G.cs rfl rfl rfl ?_
              refine qm_C.go (cd := qm_P80) (lv := [(0, qm_I (qm_i 2))]) rfl rfl ?_
              refine qm_G.s1 rfl (qm_x_iload rfl) ?_
              refine qm_G.s1 rfl (qm_x_pushI 0 rfl) ?_
              refine qm_G.s1 rfl (qm_x_pushI 2 rfl) ?_
              refine qm_G.cs rfl rfl rfl ?_
              refine qm_v_within11_t ⟨by decide, by decide⟩ ⟨by decide, by decide⟩ ⟨by decide, by decide⟩ (by decide) ⟨_, rfl, ?_⟩
              refine qm_G.ret rfl rfl ⟨_, rfl, ?_⟩
              refine qm_G.s1 rfl (qm_x_if_eq_f ⟨by decide, by decide⟩ (by decide)) ?_
              refine qm_G.s1 rfl (qm_x_iload rfl) ?_
              refine qm_G.s1 rfl (qm_x_pushI (-1) rfl) ?_
              refine qm_G.s1 rfl (qm_x_icmp_eq_f ⟨by omega, by omega⟩ ⟨by decide, by decide⟩ (by omega)) ?_
              refine qm_G.s1 rfl (qm_x_aload rfl) ?_
              refine qm_G.s1 rfl (qm_x_iload rfl) ?_
              refine qm_G.cm rfl rfl (hS 61 rfl) rfl ?_
              refine qm_C.go (cd := qm_P82) (lv := [(0, qm_R (some (0, 61, 0))), (1, qm_I (qm_i a3))]) rfl rfl ?_
              refine qm_G.s1 rfl (qm_x_iload rfl) ?_
              refine qm_G.s1 rfl (qm_x_pushI 0 rfl) ?_
              refine qm_G.s1 rfl (qm_x_aload rfl) ?_
              refine qm_G.s1 rfl (qm_x_getfR (q := (some (0, 62, 0))) (hS 61 rfl) (hR 61 0 62 rfl rfl)) ?_
              refine qm_G.s1 rfl (qm_x_pushI 7 rfl) ?_
              refine qm_G.s1 rfl (qm_x_iald (v := (J 62 0 7)) (qm_arS hS rfl rfl) rfl (by decide) (by decide) (by decide) rfl) ?_
              refine qm_G.s1 rfl (qm_x_pushI 1 rfl) ?_
              refine qm_G.s1 rfl (qm_x_isub) ?_
              refine qm_G.cs rfl rfl rfl ?_
              refine qm_v_within11_t ⟨by omega, by omega⟩ ⟨by decide, by decide⟩ ⟨by omega, by omega⟩ (by omega) ⟨_, rfl, ?_⟩
              refine qm_G.ret rfl rfl ⟨_, rfl, ?_⟩
              refine qm_G.s1 rfl (qm_x_if_ne_t ⟨by decide, by decide⟩ (by decide)) ?_
              refine qm_G.sp (lv1 := [(0, qm_R (some (0, 61, 0))), (1, qm_I (qm_i 2)), (2, qm_I (qm_i a2)), (3, qm_I (qm_i a3))]) rfl rfl (qm_x_iload rfl) ?_
              refine qm_G.s1 rfl (qm_x_pushI 0 rfl) ?_
              refine qm_G.s1 rfl (qm_x_pushI 3 rfl) ?_
              refine qm_G.cs rfl rfl rfl ?_
              refine qm_v_within11_t ⟨by omega, by omega⟩ ⟨by decide, by decide⟩ ⟨by decide, by decide⟩ (by omega) ⟨_, rfl, ?_⟩
              refine qm_G.s1 rfl (qm_x_if_ne_t ⟨by decide, by decide⟩ (by decide)) ?_
              refine qm_G.sp (lv1 := [(0, qm_R (some (0, 61, 0))), (1, qm_I (qm_i 2)), (2, qm_I (qm_i a2)), (3, qm_I (qm_i a3))]) rfl rfl (qm_x_aload rfl) ?_
              refine qm_G.s1 rfl (qm_x_iload rfl) ?_
              refine qm_G.s1 rfl (qm_x_iload rfl) ?_
              refine qm_G.cm rfl rfl (hS 61 rfl) rfl ?_
              refine qm_C.go (cd := qm_P26) (lv := [(0, qm_R (some (0, 61, 0))), (1, qm_I (qm_i 2)), (2, qm_I (qm_i a3))]) rfl rfl ?_
              refine qm_G.s1 rfl (qm_x_iload rfl) ?_
              refine qm_G.s1 rfl (qm_x_if_lt_f ⟨by omega, by omega⟩ (by omega)) ?_
              refine qm_G.s1 rfl (qm_x_iload rfl) ?_
              refine qm_G.s1 rfl (qm_x_if_ne_t ⟨by decide, by decide⟩ (by decide)) ?_
              refine qm_G.sp (lv1 := [(0, qm_R (some (0, 61, 0))), (1, qm_I (qm_i 2)), (2, qm_I (qm_i a3))]) rfl rfl (qm_x_aload rfl) ?_
              refine qm_G.s1 rfl (qm_x_getfR (q := (some (0, 62, 0))) (hS 61 rfl) (hR 61 0 62 rfl rfl)) ?_
              refine qm_G.s1 rfl (qm_x_pushI 26 rfl) ?_
              refine qm_G.s1 rfl (qm_x_pushI 3 rfl) ?_
              refine qm_G.s1 rfl (qm_x_iload rfl) ?_
              refine qm_G.s1 rfl (qm_x_imul) ?_
              refine qm_G.s1 rfl (qm_x_iadd) ?_
              refine qm_G.s1 rfl (qm_x_iald (v := (J 62 0 (26 + 3 * (Int.toNat a3)))) (qm_arS hS rfl rfl) rfl (by omega) (by omega) (by decide) (congrArg (J 62 0) (by omega))) ?_
              refine qm_G.s1 rfl (qm_x_istore (lv' := [(3, qm_I (qm_i (J 62 0 (26 + 3 * (Int.toNat a3))))), (0, qm_R (some (0, 61, 0))), (1, qm_I (qm_i 2)), (2, qm_I (qm_i a3))]) rfl) ?_
              refine qm_G.s1 rfl (qm_x_iload rfl) ?_
              refine qm_G.s1 rfl (qm_x_pushI 1 rfl) ?_
              refine qm_G.s1 rfl (qm_x_icmp_ne_t ⟨by decide, by decide⟩ ⟨by decide, by decide⟩ (by decide)) ?_
              refine qm_G.sp (lv1 := [(3, qm_I (qm_i (J 62 0 (26 + 3 * (Int.toNat a3)))))]) rfl rfl (qm_x_iload rfl) ?_
              refine qm_G.s1 rfl (qm_x_pushI 2 rfl) ?_
              refine qm_G.s1 rfl (qm_x_icmp_ne_f ⟨by omega, by omega⟩ ⟨by decide, by decide⟩ (by omega)) ?_
              refine qm_G.s1 rfl (qm_x_pushI 1 rfl) ?_
              refine qm_G.s1 rfl (qm_x_goto) ?_
              refine qm_G.ret rfl rfl ⟨_, rfl, ?_⟩
              refine qm_G.s1 rfl (qm_x_if_ne_t ⟨by decide, by decide⟩ (by decide)) ?_
              refine qm_G.sp (lv1 := [(0, qm_R (some (0, 61, 0))), (1, qm_I (qm_i 2)), (2, qm_I (qm_i a2)), (3, qm_I (qm_i a3))]) rfl rfl (qm_x_aload rfl) ?_
              refine qm_G.s1 rfl (qm_x_pushI 50 rfl) ?_
              refine qm_G.s1 rfl (qm_x_pushI 4 rfl) ?_
              refine qm_G.s1 rfl (qm_x_iload rfl) ?_
              refine qm_G.s1 rfl (qm_x_imul) ?_
              refine qm_G.s1 rfl (qm_x_iadd) ?_
              refine qm_G.s1 rfl (qm_x_iload rfl) ?_
              refine qm_G.s1 rfl (qm_x_iadd) ?_
              refine qm_G.s1 rfl (qm_x_iload rfl) ?_
              refine qm_G.s1 rfl (qm_x_pushI (-1) rfl) ?_
              refine qm_G.s1 rfl (qm_x_icmp_ne_t ⟨by omega, by omega⟩ ⟨by decide, by decide⟩ (by omega)) ?_
              refine qm_G.sp (lv1 := [(3, qm_I (qm_i a3))]) rfl rfl (qm_x_iload rfl) ?_
              refine qm_G.cm rfl rfl (hS 61 rfl) rfl ?_
              refine qm_C.go (cd := qm_P22) (lv := [(0, qm_R (some (0, 61, 0))), (1, qm_I (qm_i ((50 + (4 * 2)) + a2))), (2, qm_I (qm_i a3))]) rfl rfl ?_
              refine qm_G.s1 rfl (qm_x_aload rfl) ?_
              refine qm_G.s1 rfl (qm_x_getfR (q := (some (0, 62, 0))) (hS 61 rfl) (hR 61 0 62 rfl rfl)) ?_
              refine qm_G.s1 rfl (qm_x_iload rfl) ?_
              refine qm_G.s1 rfl (qm_x_iald (v := (J 62 0 (58 + (Int.toNat a2)))) (qm_arS hS rfl rfl) rfl (by omega) (by omega) (by decide) (congrArg (J 62 0) (by omega))) ?_
              refine qm_G.s1 rfl (qm_x_istore (lv' := [(3, qm_I (qm_i (J 62 0 (58 + (Int.toNat a2))))), (0, qm_R (some (0, 61, 0))), (1, qm_I (qm_i ((50 + (4 * 2)) + a2))), (2, qm_I (qm_i a3))]) rfl) ?_
              refine qm_G.s1 rfl (qm_x_aload rfl) ?_
              refine qm_G.s1 rfl (qm_x_getfR (q := (some (0, 62, 0))) (hS 61 rfl) (hR 61 0 62 rfl rfl)) ?_
              refine qm_G.s1 rfl (qm_x_iload rfl) ?_
              refine qm_G.s1 rfl (qm_x_iload rfl) ?_
              refine qm_G.s1 rfl (qm_x_iast (qm_arS hS rfl rfl) rfl (by omega) (by omega) (by decide)) ?_
              refine qm_G.s1 rfl (qm_x_iload rfl) ?_
              refine qm_G.ret rfl rfl ⟨_, rfl, ?_⟩
              refine qm_G.ret rfl rfl ⟨_, rfl, ?_⟩
              refine qm_G.s1 rfl (qm_x_icmp_eq_t ⟨by decide, by decide⟩ ⟨by omega, by omega⟩ (by omega)) ?_
              rw [show (Int.toNat ((50 + (4 * 2)) + a2)) = 58 + (Int.toNat a2) by omega]
              exact ih _ _ _ _ _ _ (qm_U_dek2 (by omega) (by omega) hI)
        · refine qm_G.ret rfl rfl ⟨_, rfl, ?_⟩
          refine qm_G.s1 rfl (qm_x_if_ne_f ⟨by decide, by decide⟩ (by decide)) ?_
          refine qm_G.s1 rfl (qm_x_pushI (-13) rfl) ?_
          refine qm_G.ret rfl rfl ⟨_, rfl, ?_⟩
          refine qm_G.s1 rfl (qm_x_aload rfl) ?_
          refine qm_G.s1 rfl (qm_x_aload rfl) ?_
          refine qm_G.s1 rfl (qm_x_iload rfl) ?_
          refine qm_G.s1 rfl (qm_x_pushI 1 rfl) ?_
          refine qm_G.s1 rfl (qm_x_iadd) ?_
          refine qm_G.s1 rfl (qm_x_iald2v (v := 2) (by omega) (by omega) hX e1) ?_
          refine qm_G.s1 rfl (qm_x_aload rfl) ?_
          refine qm_G.s1 rfl (qm_x_iload rfl) ?_
          refine qm_G.s1 rfl (qm_x_pushI 2 rfl) ?_
          refine qm_G.s1 rfl (qm_x_iadd) ?_
          refine qm_G.s1 rfl (qm_x_iald2v (v := a2) (by omega) (by omega) hX e2) ?_
          refine qm_G.s1 rfl (qm_x_aload rfl) ?_
          refine qm_G.s1 rfl (qm_x_iload rfl) ?_
          refine qm_G.s1 rfl (qm_x_pushI 3 rfl) ?_
          refine qm_G.s1 rfl (qm_x_iadd) ?_
          refine qm_G.s1 rfl (qm_x_iald2v (v := a3) (by omega) (by omega) hX e3) ?_
          refine qm_G.cm rfl rfl (hS 61 rfl) rfl ?_
          refine qm_C.go (cd := qm_P140) (lv := [(0, qm_R (some (0, 61, 0))), (1, qm_I (qm_i 2)), (2, qm_I (qm_i a2)), (3, qm_I (qm_i a3))]) rfl rfl ?_
          refine qm_G.s1 rfl (qm_x_iload rfl) ?_
          refine qm_G.cs rfl rfl rfl ?_
          refine qm_C.go (cd := qm_P80) (lv := [(0, qm_I (qm_i 2))]) rfl rfl ?_
          refine qm_G.s1 rfl (qm_x_iload rfl) ?_
          refine qm_G.s1 rfl (qm_x_pushI 0 rfl) ?_
          refine qm_G.s1 rfl (qm_x_pushI 2 rfl) ?_
          refine qm_G.cs rfl rfl rfl ?_
          refine qm_v_within11_t ⟨by decide, by decide⟩ ⟨by decide, by decide⟩ ⟨by decide, by decide⟩ (by decide) ⟨_, rfl, ?_⟩
          refine qm_G.ret rfl rfl ⟨_, rfl, ?_⟩
          refine qm_G.s1 rfl (qm_x_if_eq_f ⟨by decide, by decide⟩ (by decide)) ?_
          refine qm_G.s1 rfl (qm_x_iload rfl) ?_
          refine qm_G.s1 rfl (qm_x_pushI (-1) rfl) ?_
          refine qm_G.s1 rfl (qm_x_icmp_eq_f ⟨by omega, by omega⟩ ⟨by decide, by decide⟩ (by omega)) ?_
          refine qm_G.s1 rfl (qm_x_aload rfl) ?_
          refine qm_G.s1 rfl (qm_x_iload rfl) ?_
          refine qm_G.cm rfl rfl (hS 61 rfl) rfl ?_
          refine qm_C.go (cd := qm_P82) (lv := [(0, qm_R (some (0, 61, 0))), (1, qm_I (qm_i a3))]) rfl rfl ?_
          refine qm_G.s1 rfl (qm_x_iload rfl) ?_
          refine qm_G.s1 rfl (qm_x_pushI 0 rfl) ?_
          refine qm_G.s1 rfl (qm_x_aload rfl) ?_
          refine qm_G.s1 rfl (qm_x_getfR (q := (some (0, 62, 0))) (hS 61 rfl) (hR 61 0 62 rfl rfl)) ?_
          refine qm_G.s1 rfl (qm_x_pushI 7 rfl) ?_
          refine qm_G.s1 rfl (qm_x_iald (v := (J 62 0 7)) (qm_arS hS rfl rfl) rfl (by decide) (by decide) (by decide) rfl) ?_
          refine qm_G.s1 rfl (qm_x_pushI 1 rfl) ?_
          refine qm_G.s1 rfl (qm_x_isub) ?_
          refine qm_G.cs rfl rfl rfl ?_
          refine qm_v_within11_t ⟨by omega, by omega⟩ ⟨by decide, by decide⟩ ⟨by omega, by omega⟩ (by omega) ⟨_, rfl, ?_⟩
          refine qm_G.ret rfl rfl ⟨_, rfl, ?_⟩
          refine qm_G.s1 rfl (qm_x_if_ne_t ⟨by decide, by decide⟩ (by decide)) ?_
          refine qm_G.sp (lv1 := [(0, qm_R (some (0, 61, 0))), (1, qm_I (qm_i 2)), (2, qm_I (qm_i a2)), (3, qm_I (qm_i a3))]) rfl rfl (qm_x_iload rfl) ?_
          refine qm_G.s1 rfl (qm_x_pushI 0 rfl) ?_
          refine qm_G.s1 rfl (qm_x_pushI 3 rfl) ?_
          refine qm_G.cs rfl rfl rfl ?_
          refine qm_v_within11_f ⟨by omega, by omega⟩ ⟨by decide, by decide⟩ ⟨by decide, by decide⟩ (by omega) ⟨_, rfl, ?_⟩
          refine qm_G.s1 rfl (qm_x_if_ne_f ⟨by decide, by decide⟩ (by decide)) ?_
          refine qm_G.s1 rfl (qm_x_pushI (-13) rfl) ?_
          refine qm_G.ret rfl rfl ⟨_, rfl, ?_⟩
          refine qm_G.s1 rfl (qm_x_icmp_eq_t ⟨by decide, by decide⟩ ⟨by decide, by decide⟩ (by decide)) ?_
          exact ih _ _ _ _ _ _ hI.next
      · refine qm_G.s1 rfl (qm_x_if_eq_t ⟨by decide, by decide⟩ (by decide)) ?_
        refine qm_G.sp (lv1 := []) rfl rfl (qm_x_push) ?_
        refine qm_G.ret rfl rfl ⟨_, rfl, ?_⟩
        refine qm_G.s1 rfl (qm_x_ifnonnull0) ?_
        refine qm_G.sp (lv1 := []) rfl rfl (qm_x_pushI (-1) rfl) ?_
        refine qm_G.ret rfl rfl ⟨_, rfl, ?_⟩
        refine qm_G.s1 rfl (qm_x_aload rfl) ?_
        refine qm_G.s1 rfl (qm_x_aload rfl) ?_
        refine qm_G.s1 rfl (qm_x_iload rfl) ?_
        refine qm_G.s1 rfl (qm_x_pushI 1 rfl) ?_
        refine qm_G.s1 rfl (qm_x_iadd) ?_
        refine qm_G.s1 rfl (qm_x_iald2v (v := 2) (by omega) (by omega) hX e1) ?_
        refine qm_G.s1 rfl (qm_x_aload rfl) ?_
        refine qm_G.s1 rfl (qm_x_iload rfl) ?_
        refine qm_G.s1 rfl (qm_x_pushI 2 rfl) ?_
        refine qm_G.s1 rfl (qm_x_iadd) ?_
        refine qm_G.s1 rfl (qm_x_iald2v (v := a2) (by omega) (by omega) hX e2) ?_
        refine qm_G.s1 rfl (qm_x_aload rfl) ?_
        refine qm_G.s1 rfl (qm_x_iload rfl) ?_
        refine qm_G.s1 rfl (qm_x_pushI 3 rfl) ?_
        refine qm_G.s1 rfl (qm_x_iadd) ?_
        refine qm_G.s1 rfl (qm_x_iald2v (v := a3) (by omega) (by omega) hX e3) ?_
        refine qm_G.cm rfl rfl (hS 61 rfl) rfl ?_
        refine qm_C.go (cd := qm_P140) (lv := [(0, qm_R (some (0, 61, 0))), (1, qm_I (qm_i 2)), (2, qm_I (qm_i a2)), (3, qm_I (qm_i a3))]) rfl rfl ?_
        refine qm_G.s1 rfl (qm_x_iload rfl) ?_
        refine qm_G.cs rfl rfl rfl ?_
        refine qm_C.go (cd := qm_P80) (lv := [(0, qm_I (qm_i 2))]) rfl rfl ?_
        refine qm_G.s1 rfl (qm_x_iload rfl) ?_
        refine qm_G.s1 rfl (qm_x_pushI 0 rfl) ?_
        refine qm_G.s1 rfl (qm_x_pushI 2 rfl) ?_
        refine qm_G.cs rfl rfl rfl ?_
        refine qm_v_within11_t ⟨by decide, by decide⟩ ⟨by decide, by decide⟩ ⟨by decide, by decide⟩ (by decide) ⟨_, rfl, ?_⟩
        refine qm_G.ret rfl rfl ⟨_, rfl, ?_⟩
        refine qm_G.s1 rfl (qm_x_if_eq_f ⟨by decide, by decide⟩ (by decide)) ?_
        refine qm_G.s1 rfl (qm_x_iload rfl) ?_
        refine qm_G.s1 rfl (qm_x_pushI (-1) rfl) ?_
        refine qm_G.s1 rfl (qm_x_icmp_eq_f ⟨by omega, by omega⟩ ⟨by decide, by decide⟩ (by omega)) ?_
        refine qm_G.s1 rfl (qm_x_aload rfl) ?_
        refine qm_G.s1 rfl (qm_x_iload rfl) ?_
        refine qm_G.cm rfl rfl (hS 61 rfl) rfl ?_
        refine qm_C.go (cd := qm_P82) (lv := [(0, qm_R (some (0, 61, 0))), (1, qm_I (qm_i a3))]) rfl rfl ?_
        refine qm_G.s1 rfl (qm_x_iload rfl) ?_
        refine qm_G.s1 rfl (qm_x_pushI 0 rfl) ?_
        refine qm_G.s1 rfl (qm_x_aload rfl) ?_
        refine qm_G.s1 rfl (qm_x_getfR (q := (some (0, 62, 0))) (hS 61 rfl) (hR 61 0 62 rfl rfl)) ?_
        refine qm_G.s1 rfl (qm_x_pushI 7 rfl) ?_
        refine qm_G.s1 rfl (qm_x_iald (v := (J 62 0 7)) (qm_arS hS rfl rfl) rfl (by decide) (by decide) (by decide) rfl) ?_
        refine qm_G.s1 rfl (qm_x_pushI 1 rfl) ?_
        refine qm_G.s1 rfl (qm_x_isub) ?_
        refine qm_G.cs rfl rfl rfl ?_
        refine qm_v_within11_f ⟨by omega, by omega⟩ ⟨by decide, by decide⟩ ⟨by omega, by omega⟩ (by omega) ⟨_, rfl, ?_⟩
        refine qm_G.ret rfl rfl ⟨_, rfl, ?_⟩
        refine qm_G.s1 rfl (qm_x_if_ne_f ⟨by decide, by decide⟩ (by decide)) ?_
        refine qm_G.sp (lv1 := []) rfl rfl (qm_x_pushI (-1) rfl) ?_
        refine qm_G.ret rfl rfl ⟨_, rfl, ?_⟩
        refine qm_G.s1 rfl (qm_x_icmp_eq_t ⟨by decide, by decide⟩ ⟨by decide, by decide⟩ (by decide)) ?_
        exact ih _ _ _ _ _ _ hI.next
  · refine qm_G.sp (lv1 := [(0, qm_R (some (2, 0, 0))), (1, qm_R (some (0, 0, 0))), (2, qm_R (some (0, 61, 0))), (3, qm_I (qm_i z))]) rfl rfl (qm_x_aload rfl) ?_
    refine qm_G.s1 rfl (qm_x_aload rfl) ?_
    refine qm_G.s1 rfl (qm_x_iload rfl) ?_
    refine qm_G.s1 rfl (qm_x_pushI 1 rfl) ?_
    refine qm_G.s1 rfl (qm_x_iadd) ?_
    refine qm_G.s1 rfl (qm_x_iald2v (v := a1) (by omega) (by omega) hX e1) ?_
    refine qm_G.s1 rfl (qm_x_aload rfl) ?_
    refine qm_G.s1 rfl (qm_x_iload rfl) ?_
    refine qm_G.s1 rfl (qm_x_pushI 2 rfl) ?_
    refine qm_G.s1 rfl (qm_x_iadd) ?_
    refine qm_G.s1 rfl (qm_x_iald2v (v := a2) (by omega) (by omega) hX e2) ?_
    refine qm_G.s1 rfl (qm_x_aload rfl) ?_
    refine qm_G.s1 rfl (qm_x_iload rfl) ?_
    refine qm_G.s1 rfl (qm_x_pushI 3 rfl) ?_
    refine qm_G.s1 rfl (qm_x_iadd) ?_
    refine qm_G.s1 rfl (qm_x_iald2v (v := a3) (by omega) (by omega) hX e3) ?_
    refine qm_G.cm rfl rfl (hS 0 rfl) rfl ?_
    refine qm_C.go (cd := qm_P164) (lv := [(0, qm_R (some (0, 0, 0))), (1, qm_I (qm_i a1)), (2, qm_I (qm_i a2)), (3, qm_I (qm_i a3))]) rfl rfl ?_
    refine qm_G.s1 rfl (qm_x_iload rfl) ?_
    refine qm_G.cs rfl rfl rfl ?_
    refine qm_C.go (cd := qm_P71) (lv := [(0, qm_I (qm_i a1))]) rfl rfl ?_
    refine qm_G.s1 rfl (qm_x_iload rfl) ?_
    refine qm_G.s1 rfl (qm_x_pushI 0 rfl) ?_
    refine qm_G.s1 rfl (qm_x_pushI 2 rfl) ?_
    refine qm_G.cs rfl rfl rfl ?_
    refine qm_v_within10_f ⟨by omega, by omega⟩ ⟨by decide, by decide⟩ ⟨by decide, by decide⟩ (by omega) ⟨_, rfl, ?_⟩
    refine qm_G.ret rfl rfl ⟨_, rfl, ?_⟩
    refine qm_G.s1 rfl (qm_x_if_eq_t ⟨by decide, by decide⟩ (by decide)) ?_
    refine qm_G.sp (lv1 := []) rfl rfl (qm_x_pushI (-1) rfl) ?_
    refine qm_G.ret rfl rfl ⟨_, rfl, ?_⟩
    refine qm_G.s1 rfl (qm_x_aload rfl) ?_
    refine qm_G.s1 rfl (qm_x_aload rfl) ?_
    refine qm_G.s1 rfl (qm_x_iload rfl) ?_
    refine qm_G.s1 rfl (qm_x_pushI 1 rfl) ?_
    refine qm_G.s1 rfl (qm_x_iadd) ?_
    refine qm_G.s1 rfl (qm_x_iald2v (v := a1) (by omega) (by omega) hX e1) ?_
    refine qm_G.s1 rfl (qm_x_aload rfl) ?_
    refine qm_G.s1 rfl (qm_x_iload rfl) ?_
    refine qm_G.s1 rfl (qm_x_pushI 2 rfl) ?_
    refine qm_G.s1 rfl (qm_x_iadd) ?_
    refine qm_G.s1 rfl (qm_x_iald2v (v := a2) (by omega) (by omega) hX e2) ?_
    refine qm_G.s1 rfl (qm_x_aload rfl) ?_
    refine qm_G.s1 rfl (qm_x_iload rfl) ?_
    refine qm_G.s1 rfl (qm_x_pushI 3 rfl) ?_
    refine qm_G.s1 rfl (qm_x_iadd) ?_
    refine qm_G.s1 rfl (qm_x_iald2v (v := a3) (by omega) (by omega) hX e3) ?_
    refine qm_G.cm rfl rfl (hS 61 rfl) rfl ?_
    refine qm_C.go (cd := qm_P140) (lv := [(0, qm_R (some (0, 61, 0))), (1, qm_I (qm_i a1)), (2, qm_I (qm_i a2)), (3, qm_I (qm_i a3))]) rfl rfl ?_
    refine qm_G.s1 rfl (qm_x_iload rfl) ?_
    refine qm_G.cs rfl rfl rfl ?_
    refine qm_C.go (cd := qm_P80) (lv := [(0, qm_I (qm_i a1))]) rfl rfl ?_
    refine qm_G.s1 rfl (qm_x_iload rfl) ?_
    refine qm_G.s1 rfl (qm_x_pushI 0 rfl) ?_
    refine qm_G.s1 rfl (qm_x_pushI 2 rfl) ?_
    refine qm_G.cs rfl rfl rfl ?_
    refine qm_v_within11_f ⟨by omega, by omega⟩ ⟨by decide, by decide⟩ ⟨by decide, by decide⟩ (by omega) ⟨_, rfl, ?_⟩
    refine qm_G.ret rfl rfl ⟨_, rfl, ?_⟩
    refine qm_G.s1 rfl (qm_x_if_eq_t ⟨by decide, by decide⟩ (by decide)) ?_
    refine qm_G.sp (lv1 := []) rfl rfl (qm_x_pushI (-1) rfl) ?_
    refine qm_G.ret rfl rfl ⟨_, rfl, ?_⟩
    refine qm_G.s1 rfl (qm_x_icmp_eq_t ⟨by decide, by decide⟩ ⟨by decide, by decide⟩ (by decide)) ?_
    exact ih _ _ _ _ _ _ hI.next
