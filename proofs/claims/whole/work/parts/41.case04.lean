/-! THE LAW, case 4 -/
theorem qm_case4 {S : List qm_Sh} {J K : qm_J} {L : qm_Ct Int64} {D : qm_Ct UInt64} {R : qm_Ct (Option qm_Rf)} {X : Nat × (Nat → Int32)} {k : Nat} {z : Int} {Q : Option qm_V → qm_Hp → Prop} {a1 : Int} {a2 : Int} {a3 : Int} (hI : qm_Inv S J K L D R k) (hX : X.1 ≤ 3072) (h0 : 0 ≤ z) (h6 : z + 6 ≤ X.1) (e1 : (X.2 (Int.toNat (z + 1))).toInt = a1) (e2 : (X.2 (Int.toNat (z + 2))).toInt = a2) (e3 : (X.2 (Int.toNat (z + 3))).toInt = a3) (ih : ∀ (S : List qm_Sh) (J K : qm_J) (L : qm_Ct Int64) (D : qm_Ct UInt64) (R : qm_Ct (Option qm_Rf)), qm_Inv S J K L D R (k + 1) → qm_G qm_P qm_P222 1445 [(0, qm_R (some (2, 0, 0))), (1, qm_R (some (0, 0, 0))), (2, qm_R (some (0, 61, 0))), (3, qm_I (qm_i z))] [] (qm_H S J K L D R X) Q) : qm_G qm_P qm_P222 339 [(0, qm_R (some (2, 0, 0))), (1, qm_R (some (0, 0, 0))), (2, qm_R (some (0, 61, 0))), (3, qm_I (qm_i z))] [] (qm_H S J K L D R X) Q := by
  have hS := hI.sd
  have hR := hI.rd
  have s1 : qm_sm a1 := e1 ▸ qm_i_sml _
  have s2 : qm_sm a2 := e2 ▸ qm_i_sml _
  have s3 : qm_sm a3 := e3 ▸ qm_i_sml _
  rcases (show a2 = 0 ∨ a2 = 1 ∨ (a2 < 0 ∨ 1 < a2) by omega) with d1 | d1 | d1
  · subst d1
    refine qm_G.sp (lv1 := [(0, qm_R (some (2, 0, 0))), (1, qm_R (some (0, 0, 0))), (2, qm_R (some (0, 61, 0))), (3, qm_I (qm_i z))]) rfl rfl (qm_x_aload rfl) ?_
    refine qm_G.s1 rfl (qm_x_aload rfl) ?_
    refine qm_G.s1 rfl (qm_x_iload rfl) ?_
    refine qm_G.s1 rfl (qm_x_pushI 1 rfl) ?_
    refine qm_G.s1 rfl (qm_x_iadd) ?_
    refine qm_G.s1 rfl (qm_x_iald2v (v := a1) (by omega) (by omega) hX e1) ?_
    refine qm_G.s1 rfl (qm_x_aload rfl) ?_
    refine qm_G.s1 rfl (qm_x_iload rfl) ?_
    refine qm_G.s1 rfl (qm_x_pushI 2 rfl) ?_
    refine qm_G.s1 rfl (qm_x_iadd) ?_
    refine qm_G.s1 rfl (qm_x_iald2v (v := 0) (by omega) (by omega) hX e2) ?_
    refine qm_G.s1 rfl (qm_x_aload rfl) ?_
    refine qm_G.s1 rfl (qm_x_iload rfl) ?_
    refine qm_G.s1 rfl (qm_x_pushI 3 rfl) ?_
    refine qm_G.s1 rfl (qm_x_iadd) ?_
    refine qm_G.s1 rfl (qm_x_iald2v (v := a3) (by omega) (by omega) hX e3) ?_
    refine qm_G.cm rfl rfl (hS 0 rfl) rfl ?_
    refine qm_C.go (cd := qm_P158) (lv := [(0, qm_R (some (0, 0, 0))), (1, qm_I (qm_i a1)), (2, qm_I (qm_i 0)), (3, qm_I (qm_i a3))]) rfl rfl ?_
    refine qm_G.s1 rfl (qm_x_aload rfl) ?_
    refine qm_G.s1 rfl (qm_x_getfR (q := (some (0, 1, 0))) (hS 0 rfl) (hR 0 0 1 rfl rfl)) ?_
    refine qm_G.s1 rfl (qm_x_getfR (q := (some (0, 2, 0))) (hS 1 rfl) (hR 1 0 2 rfl rfl)) ?_
    refine qm_G.s1 rfl (qm_x_iload rfl) ?_
    refine qm_G.cm rfl rfl (hS 2 rfl) rfl ?_
    refine qm_C.go (cd := qm_P93) (lv := [(0, qm_R (some (0, 2, 0))), (1, qm_I (qm_i a1))]) rfl rfl ?_
    refine qm_G.s1 rfl (qm_x_iload rfl) ?_
    refine qm_G.s1 rfl (qm_x_pushI 0 rfl) ?_
    refine qm_G.s1 rfl (qm_x_aload rfl) ?_
    have f62_7 : 0 ≤ J 62 0 7 ∧ J 62 0 7 ≤ 8 := hI.mk.rrc
    have f2_3 : J 2 0 3 = J 62 0 7 := hI.mk.rc
    refine qm_G.s1 rfl (qm_x_getfI (v := (J 2 0 3)) (hS 2 rfl) rfl) ?_
    refine qm_G.s1 rfl (qm_x_pushI 1 rfl) ?_
    refine qm_G.s1 rfl (qm_x_isub) ?_
    refine qm_G.cs rfl rfl rfl ?_
    refine qm_v_within10 ⟨by omega, by omega⟩ ⟨by decide, by decide⟩ ⟨by omega, by omega⟩ (fun c2 => ⟨_, rfl, ?_⟩) (fun c2 => ⟨_, rfl, ?_⟩)
    · refine qm_G.s1 rfl (qm_x_if_eq_f ⟨by decide, by decide⟩ (by decide)) ?_
      refine qm_G.s1 rfl (qm_x_aload rfl) ?_
      refine qm_G.s1 rfl (qm_x_getfR (q := (some (0, 7, 0))) (hS 2 rfl) (hR 2 2 7 rfl rfl)) ?_
      refine qm_G.s1 rfl (qm_x_iload rfl) ?_
      obtain ⟨q3, g4r, g4h, g4s, g4a, g4b, g4c, g4x, g4y, g4z⟩ := hI.mk.riv (Int.toNat a1) (by omega) (by omega)
      refine qm_G.s1 rfl (qm_x_aaldr (q := (some (0, q3, 0))) (hS 7 rfl) rfl rfl (by omega) (by omega) g4r) ?_
      refine qm_G.s1 rfl (qm_x_goto) ?_
      refine qm_G.ret rfl rfl ⟨_, rfl, ?_⟩
      refine qm_G.s1 rfl (qm_x_astore (lv' := [(4, qm_R (some (0, q3, 0))), (0, qm_R (some (0, 0, 0))), (1, qm_I (qm_i a1)), (2, qm_I (qm_i 0)), (3, qm_I (qm_i a3))]) rfl) ?_
      refine qm_G.s1 rfl (qm_x_aload rfl) ?_
      refine qm_G.s1 rfl (qm_x_ifnull1) ?_
      refine qm_G.s1 rfl (qm_x_iload rfl) ?_
      refine qm_G.cs rfl rfl rfl ?_
      refine qm_C.go (cd := qm_P18) (lv := [(0, qm_I (qm_i 0))]) rfl rfl ?_
      refine qm_G.s1 rfl (qm_x_iload rfl) ?_
      refine qm_G.s1 rfl (qm_x_if_eq_t ⟨by decide, by decide⟩ (by decide)) ?_
      refine qm_G.sp (lv1 := []) rfl rfl (qm_x_pushI 1 rfl) ?_
      refine qm_G.s1 rfl (qm_x_goto) ?_
      refine qm_G.ret rfl rfl ⟨_, rfl, ?_⟩
      refine qm_G.s1 rfl (qm_x_if_ne_t ⟨by decide, by decide⟩ (by decide)) ?_
      refine qm_G.sp (lv1 := [(2, qm_I (qm_i 0)), (3, qm_I (qm_i a3)), (4, qm_R (some (0, q3, 0)))]) rfl rfl (qm_x_iload rfl) ?_
      refine qm_G.cs rfl rfl rfl ?_
      refine qm_C.go (cd := qm_P72) (lv := [(0, qm_I (qm_i a3))]) rfl rfl ?_
      refine qm_G.s1 rfl (qm_x_iload rfl) ?_
      refine qm_G.s1 rfl (qm_x_pushI 0 rfl) ?_
      refine qm_G.s1 rfl (qm_x_pushI 5 rfl) ?_
      refine qm_G.cs rfl rfl rfl ?_
      refine qm_v_within10 ⟨by omega, by omega⟩ ⟨by decide, by decide⟩ ⟨by decide, by decide⟩ (fun c5 => ⟨_, rfl, ?_⟩) (fun c5 => ⟨_, rfl, ?_⟩)
      · refine qm_G.ret rfl rfl ⟨_, rfl, ?_⟩
        refine qm_G.s1 rfl (qm_x_if_ne_t ⟨by decide, by decide⟩ (by decide)) ?_
        refine qm_G.sp (lv1 := [(2, qm_I (qm_i 0)), (3, qm_I (qm_i a3)), (4, qm_R (some (0, q3, 0)))]) rfl rfl (qm_x_aload rfl) ?_
        refine qm_G.s1 rfl (qm_x_iload rfl) ?_
        refine qm_G.s1 rfl (qm_x_iload rfl) ?_
        refine qm_G.cm rfl rfl g4s rfl ?_
        refine qm_C.go (cd := qm_P112) (lv := [(0, qm_R (some (0, q3, 0))), (1, qm_I (qm_i 0)), (2, qm_I (qm_i a3))]) rfl rfl ?_
        refine qm_G.s1 rfl (qm_x_aload rfl) ?_
        refine qm_G.s1 rfl (qm_x_getfI (v := (J q3 0 0)) g4s rfl) ?_
        rcases (show J q3 0 0 = 0 ∨ J q3 0 0 = 1 ∨ J q3 0 0 = 2 ∨ (J q3 0 0 < 0 ∨ 3 ≤ J q3 0 0) by omega) with c6 | c6 | c6 | c6
        · refine qm_G.s1 rfl (qm_x_tsweq (v := 0) (t := 32) c6 rfl) ?_
          refine qm_G.sp (lv1 := [(0, qm_R (some (0, q3, 0))), (1, qm_I (qm_i 0))]) rfl rfl (qm_x_iload rfl) ?_
          refine qm_G.s1 rfl (qm_x_if_ne_f ⟨by decide, by decide⟩ (by decide)) ?_
          refine qm_G.s1 rfl (qm_x_aload rfl) ?_
          refine qm_G.s1 rfl (qm_x_getfI (v := (J q3 0 1)) g4s rfl) ?_
          refine qm_G.s1 rfl (qm_x_goto) ?_
          refine qm_G.ret rfl rfl ⟨_, rfl, ?_⟩
          refine qm_G.ret rfl rfl ⟨_, rfl, ?_⟩
          refine qm_G.s1 rfl (qm_x_aload rfl) ?_
          refine qm_G.s1 rfl (qm_x_aload rfl) ?_
          refine qm_G.s1 rfl (qm_x_iload rfl) ?_
          refine qm_G.s1 rfl (qm_x_pushI 1 rfl) ?_
          refine qm_G.s1 rfl (qm_x_iadd) ?_
          refine qm_G.s1 rfl (qm_x_iald2v (v := a1) (by omega) (by omega) hX e1) ?_
          refine qm_G.s1 rfl (qm_x_aload rfl) ?_
          refine qm_G.s1 rfl (qm_x_iload rfl) ?_
          refine qm_G.s1 rfl (qm_x_pushI 2 rfl) ?_
          refine qm_G.s1 rfl (qm_x_iadd) ?_
          refine qm_G.s1 rfl (qm_x_iald2v (v := 0) (by omega) (by omega) hX e2) ?_
          refine qm_G.s1 rfl (qm_x_aload rfl) ?_
          refine qm_G.s1 rfl (qm_x_iload rfl) ?_
          refine qm_G.s1 rfl (qm_x_pushI 3 rfl) ?_
          refine qm_G.s1 rfl (qm_x_iadd) ?_
          refine qm_G.s1 rfl (qm_x_iald2v (v := a3) (by omega) (by omega) hX e3) ?_
          refine qm_G.cm rfl rfl (hS 61 rfl) rfl ?_
          refine qm_C.go (cd := qm_P151) (lv := [(0, qm_R (some (0, 61, 0))), (1, qm_I (qm_i a1)), (2, qm_I (qm_i 0)), (3, qm_I (qm_i a3))]) rfl rfl ?_
          refine qm_G.s1 rfl (qm_x_aload rfl) ?_
          refine qm_G.s1 rfl (qm_x_iload rfl) ?_
          refine qm_G.cm rfl rfl (hS 61 rfl) rfl ?_
          refine qm_C.go (cd := qm_P82) (lv := [(0, qm_R (some (0, 61, 0))), (1, qm_I (qm_i a1))]) rfl rfl ?_
          refine qm_G.s1 rfl (qm_x_iload rfl) ?_
          refine qm_G.s1 rfl (qm_x_pushI 0 rfl) ?_
          refine qm_G.s1 rfl (qm_x_aload rfl) ?_
          refine qm_G.s1 rfl (qm_x_getfR (q := (some (0, 62, 0))) (hS 61 rfl) (hR 61 0 62 rfl rfl)) ?_
          refine qm_G.s1 rfl (qm_x_pushI 7 rfl) ?_
          refine qm_G.s1 rfl (qm_x_iald (v := (J 62 0 7)) (qm_arS hS rfl rfl) rfl (by decide) (by decide) (by decide) rfl) ?_
          refine qm_G.s1 rfl (qm_x_pushI 1 rfl) ?_
          refine qm_G.s1 rfl (qm_x_isub) ?_
          refine qm_G.cs rfl rfl rfl ?_
          refine qm_v_within11_t ⟨by omega, by omega⟩ ⟨by decide, by decide⟩ ⟨by omega, by omega⟩ (by omega) ⟨_, rfl, ?_⟩
          refine qm_G.ret rfl rfl ⟨_, rfl, ?_⟩
          refine qm_G.s1 rfl (qm_x_if_eq_f ⟨by decide, by decide⟩ (by decide)) ?_
          refine qm_G.s1 rfl (qm_x_iload rfl) ?_
          refine qm_G.cs rfl rfl rfl ?_
          refine qm_C.go (cd := qm_P83) (lv := [(0, qm_I (qm_i 0))]) rfl rfl ?_
          refine qm_G.s1 rfl (qm_x_iload rfl) ?_
          refine qm_G.s1 rfl (qm_x_pushI 0 rfl) ?_
          refine qm_G.s1 rfl (qm_x_pushI 1 rfl) ?_
          refine qm_G.cs rfl rfl rfl ?_
          refine qm_v_within11_t ⟨by decide, by decide⟩ ⟨by decide, by decide⟩ ⟨by decide, by decide⟩ (by decide) ⟨_, rfl, ?_⟩
          refine qm_G.ret rfl rfl ⟨_, rfl, ?_⟩
          refine qm_G.s1 rfl (qm_x_if_ne_t ⟨by decide, by decide⟩ (by decide)) ?_
          refine qm_G.sp (lv1 := [(0, qm_R (some (0, 61, 0))), (1, qm_I (qm_i a1)), (2, qm_I (qm_i 0)), (3, qm_I (qm_i a3))]) rfl rfl (qm_x_iload rfl) ?_
          refine qm_G.s1 rfl (qm_x_pushI 0 rfl) ?_
          refine qm_G.s1 rfl (qm_x_pushI 5 rfl) ?_
          refine qm_G.cs rfl rfl rfl ?_
          refine qm_v_within11_t ⟨by omega, by omega⟩ ⟨by decide, by decide⟩ ⟨by decide, by decide⟩ (by omega) ⟨_, rfl, ?_⟩
          refine qm_G.s1 rfl (qm_x_if_eq_f ⟨by decide, by decide⟩ (by decide)) ?_
          refine qm_G.s1 rfl (qm_x_aload rfl) ?_
          refine qm_G.s1 rfl (qm_x_iload rfl) ?_
          refine qm_G.s1 rfl (qm_x_iload rfl) ?_
          refine qm_G.s1 rfl (qm_x_iload rfl) ?_
          refine qm_G.cm rfl rfl (hS 61 rfl) rfl ?_
          refine qm_C.go (cd := qm_P65) (lv := [(0, qm_R (some (0, 61, 0))), (1, qm_I (qm_i a1)), (2, qm_I (qm_i 0)), (3, qm_I (qm_i a3))]) rfl rfl ?_
          refine qm_G.s1 rfl (qm_x_aload rfl) ?_
          refine qm_G.s1 rfl (qm_x_getfR (q := (some (0, 62, 0))) (hS 61 rfl) (hR 61 0 62 rfl rfl)) ?_
          refine qm_G.s1 rfl (qm_x_pushI 26 rfl) ?_
          refine qm_G.s1 rfl (qm_x_pushI 3 rfl) ?_
          refine qm_G.s1 rfl (qm_x_iload rfl) ?_
          refine qm_G.s1 rfl (qm_x_imul) ?_
          refine qm_G.s1 rfl (qm_x_iadd) ?_
          refine qm_G.s1 rfl (qm_x_pushI 1 rfl) ?_
          refine qm_G.s1 rfl (qm_x_iadd) ?_
          refine qm_G.s1 rfl (qm_x_iald (v := (J 62 0 (27 + 3 * (Int.toNat a1)))) (qm_arS hS rfl rfl) rfl (by omega) (by omega) (by decide) (congrArg (J 62 0) (by omega))) ?_
          refine qm_G.s1 rfl (qm_x_istore (lv' := [(4, qm_I (qm_i (J 62 0 (27 + 3 * (Int.toNat a1))))), (0, qm_R (some (0, 61, 0))), (1, qm_I (qm_i a1)), (2, qm_I (qm_i 0)), (3, qm_I (qm_i a3))]) rfl) ?_
          refine qm_G.s1 rfl (qm_x_aload rfl) ?_
          refine qm_G.s1 rfl (qm_x_getfR (q := (some (0, 62, 0))) (hS 61 rfl) (hR 61 0 62 rfl rfl)) ?_
          refine qm_G.s1 rfl (qm_x_pushI 26 rfl) ?_
          refine qm_G.s1 rfl (qm_x_pushI 3 rfl) ?_
          refine qm_G.s1 rfl (qm_x_iload rfl) ?_
          refine qm_G.s1 rfl (qm_x_imul) ?_
          refine qm_G.s1 rfl (qm_x_iadd) ?_
          refine qm_G.s1 rfl (qm_x_iald (v := (J 62 0 (26 + 3 * (Int.toNat a1)))) (qm_arS hS rfl rfl) rfl (by omega) (by omega) (by decide) (congrArg (J 62 0) (by omega))) ?_
          refine qm_G.s1 rfl (qm_x_tsweq (v := 0) (t := 52) (by omega) rfl) ?_
          refine qm_G.sp (lv1 := [(0, qm_R (some (0, 61, 0))), (1, qm_I (qm_i a1)), (2, qm_I (qm_i 0))]) rfl rfl (qm_x_aload rfl) ?_
          refine qm_G.s1 rfl (qm_x_getfR (q := (some (0, 62, 0))) (hS 61 rfl) (hR 61 0 62 rfl rfl)) ?_
          refine qm_G.s1 rfl (qm_x_pushI 26 rfl) ?_
          refine qm_G.s1 rfl (qm_x_pushI 3 rfl) ?_
          refine qm_G.s1 rfl (qm_x_iload rfl) ?_
          refine qm_G.s1 rfl (qm_x_imul) ?_
          refine qm_G.s1 rfl (qm_x_iadd) ?_
          refine qm_G.s1 rfl (qm_x_pushI 1 rfl) ?_
          refine qm_G.s1 rfl (qm_x_iadd) ?_
          refine qm_G.s1 rfl (qm_x_iload rfl) ?_
          refine qm_G.s1 rfl (qm_x_iadd) ?_
          refine qm_G.s1 rfl (qm_x_iald (v := (J 62 0 (27 + 3 * (Int.toNat a1)))) (qm_arS hS rfl rfl) rfl (by omega) (by omega) (by decide) (congrArg (J 62 0) (by omega))) ?_
          refine qm_G.ret rfl rfl ⟨_, rfl, ?_⟩
          refine qm_G.s1 rfl (qm_x_goto) ?_
          refine qm_G.ret rfl rfl ⟨_, rfl, ?_⟩
          refine qm_G.s1 rfl (qm_x_icmp_eq_t ⟨by omega, by omega⟩ ⟨by omega, by omega⟩ (by omega)) ?_
          exact ih _ _ _ _ _ _ hI.next
        · refine qm_G.s1 rfl (qm_x_tsweq (v := 1) (t := 48) c6 rfl) ?_
          refine qm_G.sp (lv1 := [(2, qm_I (qm_i a3))]) rfl rfl (qm_x_iload rfl) ?_
          refine qm_G.cs rfl rfl rfl ?_
          refine qm_C.go (cd := qm_P67) (lv := [(0, qm_I (qm_i a3))]) rfl rfl ?_
          refine qm_G.s1 rfl (qm_x_pushI 0 rfl) ?_
          refine qm_G.s1 rfl (qm_x_iload rfl) ?_
          refine qm_G.s1 rfl (qm_x_pushI 1 rfl) ?_
          refine qm_G.s1 rfl (qm_x_isub) ?_
          refine qm_G.cs rfl rfl rfl ?_
          refine qm_C.go (cd := qm_P11) (lv := [(0, qm_I (qm_i 0)), (1, qm_I (qm_i (a3 - 1)))]) rfl rfl ?_
          refine qm_G.s1 rfl (qm_x_iload rfl) ?_
          refine qm_G.s1 rfl (qm_x_iload rfl) ?_
          refine qm_y_icmp_lt rfl ⟨by decide, by decide⟩ ⟨by omega, by omega⟩ (fun c11 => ?_) (fun c11 => ?_)
          · refine qm_G.sp (lv1 := [(1, qm_I (qm_i (a3 - 1)))]) rfl rfl (qm_x_iload rfl) ?_
            refine qm_G.ret rfl rfl ⟨_, rfl, ?_⟩
            refine qm_G.ret rfl rfl ⟨_, rfl, ?_⟩
            refine qm_G.ret rfl rfl ⟨_, rfl, ?_⟩
            refine qm_G.ret rfl rfl ⟨_, rfl, ?_⟩
            refine qm_G.s1 rfl (qm_x_aload rfl) ?_
            refine qm_G.s1 rfl (qm_x_aload rfl) ?_
            refine qm_G.s1 rfl (qm_x_iload rfl) ?_
            refine qm_G.s1 rfl (qm_x_pushI 1 rfl) ?_
            refine qm_G.s1 rfl (qm_x_iadd) ?_
            refine qm_G.s1 rfl (qm_x_iald2v (v := a1) (by omega) (by omega) hX e1) ?_
            refine qm_G.s1 rfl (qm_x_aload rfl) ?_
            refine qm_G.s1 rfl (qm_x_iload rfl) ?_
            refine qm_G.s1 rfl (qm_x_pushI 2 rfl) ?_
            refine qm_G.s1 rfl (qm_x_iadd) ?_
            refine qm_G.s1 rfl (qm_x_iald2v (v := 0) (by omega) (by omega) hX e2) ?_
            refine qm_G.s1 rfl (qm_x_aload rfl) ?_
            refine qm_G.s1 rfl (qm_x_iload rfl) ?_
            refine qm_G.s1 rfl (qm_x_pushI 3 rfl) ?_
            refine qm_G.s1 rfl (qm_x_iadd) ?_
            refine qm_G.s1 rfl (qm_x_iald2v (v := a3) (by omega) (by omega) hX e3) ?_
            refine qm_G.cm rfl rfl (hS 61 rfl) rfl ?_
            refine qm_C.go (cd := qm_P151) (lv := [(0, qm_R (some (0, 61, 0))), (1, qm_I (qm_i a1)), (2, qm_I (qm_i 0)), (3, qm_I (qm_i a3))]) rfl rfl ?_
            refine qm_G.s1 rfl (qm_x_aload rfl) ?_
            refine qm_G.s1 rfl (qm_x_iload rfl) ?_
            refine qm_G.cm rfl rfl (hS 61 rfl) rfl ?_
            refine qm_C.go (cd := qm_P82) (lv := [(0, qm_R (some (0, 61, 0))), (1, qm_I (qm_i a1))]) rfl rfl ?_
            refine qm_G.s1 rfl (qm_x_iload rfl) ?_
            refine qm_G.s1 rfl (qm_x_pushI 0 rfl) ?_
            refine qm_G.s1 rfl (qm_x_aload rfl) ?_
            refine qm_G.s1 rfl (qm_x_getfR (q := (some (0, 62, 0))) (hS 61 rfl) (hR 61 0 62 rfl rfl)) ?_
            refine qm_G.s1 rfl (qm_x_pushI 7 rfl) ?_
            refine qm_G.s1 rfl (qm_x_iald (v := (J 62 0 7)) (qm_arS hS rfl rfl) rfl (by decide) (by decide) (by decide) rfl) ?_
            refine qm_G.s1 rfl (qm_x_pushI 1 rfl) ?_
            refine qm_G.s1 rfl (qm_x_isub) ?_
            refine qm_G.cs rfl rfl rfl ?_
            refine qm_v_within11_t ⟨by omega, by omega⟩ ⟨by decide, by decide⟩ ⟨by omega, by omega⟩ (by omega) ⟨_, rfl, ?_⟩
            refine qm_G.ret rfl rfl ⟨_, rfl, ?_⟩
            refine qm_G.s1 rfl (qm_x_if_eq_f ⟨by decide, by decide⟩ (by decide)) ?_
            refine qm_G.s1 rfl (qm_x_iload rfl) ?_
            refine qm_G.cs rfl rfl rfl ?_
            refine qm_C.go (cd := qm_P83) (lv := [(0, qm_I (qm_i 0))]) rfl rfl ?_
            refine qm_G.s1 rfl (qm_x_iload rfl) ?_
            refine qm_G.s1 rfl (qm_x_pushI 0 rfl) ?_
            refine qm_G.s1 rfl (qm_x_pushI 1 rfl) ?_
            refine qm_G.cs rfl rfl rfl ?_
            refine qm_v_within11_t ⟨by decide, by decide⟩ ⟨by decide, by decide⟩ ⟨by decide, by decide⟩ (by decide) ⟨_, rfl, ?_⟩
            refine qm_G.ret rfl rfl ⟨_, rfl, ?_⟩
            refine qm_G.s1 rfl (qm_x_if_ne_t ⟨by decide, by decide⟩ (by decide)) ?_
            refine qm_G.sp (lv1 := [(0, qm_R (some (0, 61, 0))), (1, qm_I (qm_i a1)), (2, qm_I (qm_i 0)), (3, qm_I (qm_i a3))]) rfl rfl (qm_x_iload rfl) ?_
            refine qm_G.s1 rfl (qm_x_pushI 0 rfl) ?_
            refine qm_G.s1 rfl (qm_x_pushI 5 rfl) ?_
            refine qm_G.cs rfl rfl rfl ?_
            refine qm_v_within11_t ⟨by omega, by omega⟩ ⟨by decide, by decide⟩ ⟨by decide, by decide⟩ (by omega) ⟨_, rfl, ?_⟩
            refine qm_G.s1 rfl (qm_x_if_eq_f ⟨by decide, by decide⟩ (by decide)) ?_
            refine qm_G.s1 rfl (qm_x_aload rfl) ?_
            refine qm_G.s1 rfl (qm_x_iload rfl) ?_
            refine qm_G.s1 rfl (qm_x_iload rfl) ?_
            refine qm_G.s1 rfl (qm_x_iload rfl) ?_
            refine qm_G.cm rfl rfl (hS 61 rfl) rfl ?_
            refine qm_C.go (cd := qm_P65) (lv := [(0, qm_R (some (0, 61, 0))), (1, qm_I (qm_i a1)), (2, qm_I (qm_i 0)), (3, qm_I (qm_i a3))]) rfl rfl ?_
            refine qm_G.s1 rfl (qm_x_aload rfl) ?_
            refine qm_G.s1 rfl (qm_x_getfR (q := (some (0, 62, 0))) (hS 61 rfl) (hR 61 0 62 rfl rfl)) ?_
            refine qm_G.s1 rfl (qm_x_pushI 26 rfl) ?_
            refine qm_G.s1 rfl (qm_x_pushI 3 rfl) ?_
            refine qm_G.s1 rfl (qm_x_iload rfl) ?_
            refine qm_G.s1 rfl (qm_x_imul) ?_
            refine qm_G.s1 rfl (qm_x_iadd) ?_
            refine qm_G.s1 rfl (qm_x_pushI 1 rfl) ?_
            refine qm_G.s1 rfl (qm_x_iadd) ?_
            refine qm_G.s1 rfl (qm_x_iald (v := (J 62 0 (27 + 3 * (Int.toNat a1)))) (qm_arS hS rfl rfl) rfl (by omega) (by omega) (by decide) (congrArg (J 62 0) (by omega))) ?_
            refine qm_G.s1 rfl (qm_x_istore (lv' := [(4, qm_I (qm_i (J 62 0 (27 + 3 * (Int.toNat a1))))), (0, qm_R (some (0, 61, 0))), (1, qm_I (qm_i a1)), (2, qm_I (qm_i 0)), (3, qm_I (qm_i a3))]) rfl) ?_
            refine qm_G.s1 rfl (qm_x_aload rfl) ?_
            refine qm_G.s1 rfl (qm_x_getfR (q := (some (0, 62, 0))) (hS 61 rfl) (hR 61 0 62 rfl rfl)) ?_
            refine qm_G.s1 rfl (qm_x_pushI 26 rfl) ?_
            refine qm_G.s1 rfl (qm_x_pushI 3 rfl) ?_
            refine qm_G.s1 rfl (qm_x_iload rfl) ?_
            refine qm_G.s1 rfl (qm_x_imul) ?_
            refine qm_G.s1 rfl (qm_x_iadd) ?_
            refine qm_G.s1 rfl (qm_x_iald (v := (J 62 0 (26 + 3 * (Int.toNat a1)))) (qm_arS hS rfl rfl) rfl (by omega) (by omega) (by decide) (congrArg (J 62 0) (by omega))) ?_
            refine qm_G.s1 rfl (qm_x_tsweq (v := 1) (t := 68) (by omega) rfl) ?_
            refine qm_G.sp (lv1 := [(3, qm_I (qm_i a3))]) rfl rfl (qm_x_pushI 0 rfl) ?_
            refine qm_G.s1 rfl (qm_x_iload rfl) ?_
            refine qm_G.s1 rfl (qm_x_pushI 1 rfl) ?_
            refine qm_G.s1 rfl (qm_x_isub) ?_
            refine qm_G.cs rfl rfl rfl ?_
            refine qm_C.go (cd := qm_P11) (lv := [(0, qm_I (qm_i 0)), (1, qm_I (qm_i (a3 - 1)))]) rfl rfl ?_
            refine qm_G.s1 rfl (qm_x_iload rfl) ?_
            refine qm_G.s1 rfl (qm_x_iload rfl) ?_
            refine qm_G.s1 rfl (qm_x_icmp_lt_t ⟨by decide, by decide⟩ ⟨by omega, by omega⟩ (by omega)) ?_
            refine qm_G.sp (lv1 := [(1, qm_I (qm_i (a3 - 1)))]) rfl rfl (qm_x_iload rfl) ?_
            refine qm_G.ret rfl rfl ⟨_, rfl, ?_⟩
            refine qm_G.ret rfl rfl ⟨_, rfl, ?_⟩
            refine qm_G.s1 rfl (qm_x_goto) ?_
            refine qm_G.ret rfl rfl ⟨_, rfl, ?_⟩
            refine qm_G.s1 rfl (qm_x_icmp_eq_t ⟨by omega, by omega⟩ ⟨by omega, by omega⟩ (by omega)) ?_
            exact ih _ _ _ _ _ _ hI.next
          · refine qm_G.s1 rfl (qm_x_iload rfl) ?_
            refine qm_G.s1 rfl (qm_x_goto) ?_
            refine qm_G.ret rfl rfl ⟨_, rfl, ?_⟩
            refine qm_G.ret rfl rfl ⟨_, rfl, ?_⟩
            refine qm_G.ret rfl rfl ⟨_, rfl, ?_⟩
            refine qm_G.ret rfl rfl ⟨_, rfl, ?_⟩
            refine qm_G.s1 rfl (qm_x_aload rfl) ?_
            refine qm_G.s1 rfl (qm_x_aload rfl) ?_
            refine qm_G.s1 rfl (qm_x_iload rfl) ?_
            refine qm_G.s1 rfl (qm_x_pushI 1 rfl) ?_
            refine qm_G.s1 rfl (qm_x_iadd) ?_
            refine qm_G.s1 rfl (qm_x_iald2v (v := a1) (by omega) (by omega) hX e1) ?_
            refine qm_G.s1 rfl (qm_x_aload rfl) ?_
            refine qm_G.s1 rfl (qm_x_iload rfl) ?_
            refine qm_G.s1 rfl (qm_x_pushI 2 rfl) ?_
            refine qm_G.s1 rfl (qm_x_iadd) ?_
            refine qm_G.s1 rfl (qm_x_iald2v (v := 0) (by omega) (by omega) hX e2) ?_
            refine qm_G.s1 rfl (qm_x_aload rfl) ?_
            refine qm_G.s1 rfl (qm_x_iload rfl) ?_
            refine qm_G.s1 rfl (qm_x_pushI 3 rfl) ?_
            refine qm_G.s1 rfl (qm_x_iadd) ?_
            refine qm_G.s1 rfl (qm_x_iald2v (v := a3) (by omega) (by omega) hX e3) ?_
            refine qm_G.cm rfl rfl (hS 61 rfl) rfl ?_
            refine qm_C.go (cd := qm_P151) (lv := [(0, qm_R (some (0, 61, 0))), (1, qm_I (qm_i a1)), (2, qm_I (qm_i 0)), (3, qm_I (qm_i a3))]) rfl rfl ?_
            refine qm_G.s1 rfl (qm_x_aload rfl) ?_
            refine qm_G.s1 rfl (qm_x_iload rfl) ?_
            refine qm_G.cm rfl rfl (hS 61 rfl) rfl ?_
            refine qm_C.go (cd := qm_P82) (lv := [(0, qm_R (some (0, 61, 0))), (1, qm_I (qm_i a1))]) rfl rfl ?_
            refine qm_G.s1 rfl (qm_x_iload rfl) ?_
            refine qm_G.s1 rfl (qm_x_pushI 0 rfl) ?_
            refine qm_G.s1 rfl (qm_x_aload rfl) ?_
            refine qm_G.s1 rfl (qm_x_getfR (q := (some (0, 62, 0))) (hS 61 rfl) (hR 61 0 62 rfl rfl)) ?_
            refine qm_G.s1 rfl (qm_x_pushI 7 rfl) ?_
            refine qm_G.s1 rfl (qm_x_iald (v := (J 62 0 7)) (qm_arS hS rfl rfl) rfl (by decide) (by decide) (by decide) rfl) ?_
            refine qm_G.s1 rfl (qm_x_pushI 1 rfl) ?_
            refine qm_G.s1 rfl (qm_x_isub) ?_
            refine qm_G.cs rfl rfl rfl ?_
            refine qm_v_within11_t ⟨by omega, by omega⟩ ⟨by decide, by decide⟩ ⟨by omega, by omega⟩ (by omega) ⟨_, rfl, ?_⟩
            refine qm_G.ret rfl rfl ⟨_, rfl, ?_⟩
            refine qm_G.s1 rfl (qm_x_if_eq_f ⟨by decide, by decide⟩ (by decide)) ?_
            refine qm_G.s1 rfl (qm_x_iload rfl) ?_
            refine qm_G.cs rfl rfl rfl ?_
            refine qm_C.go (cd := qm_P83) (lv := [(0, qm_I (qm_i 0))]) rfl rfl ?_
            refine qm_G.s1 rfl (qm_x_iload rfl) ?_
            refine qm_G.s1 rfl (qm_x_pushI 0 rfl) ?_
            refine qm_G.s1 rfl (qm_x_pushI 1 rfl) ?_
            refine qm_G.cs rfl rfl rfl ?_
            refine qm_v_within11_t ⟨by decide, by decide⟩ ⟨by decide, by decide⟩ ⟨by decide, by decide⟩ (by decide) ⟨_, rfl, ?_⟩
            refine qm_G.ret rfl rfl ⟨_, rfl, ?_⟩
            refine qm_G.s1 rfl (qm_x_if_ne_t ⟨by decide, by decide⟩ (by decide)) ?_
            refine qm_G.sp (lv1 := [(0, qm_R (some (0, 61, 0))), (1, qm_I (qm_i a1)), (2, qm_I (qm_i 0)), (3, qm_I (qm_i a3))]) rfl rfl (qm_x_iload rfl) ?_
            refine qm_G.s1 rfl (qm_x_pushI 0 rfl) ?_
            refine qm_G.s1 rfl (qm_x_pushI 5 rfl) ?_
            refine qm_G.cs rfl rfl rfl ?_
            refine qm_v_within11_t ⟨by omega, by omega⟩ ⟨by decide, by decide⟩ ⟨by decide, by decide⟩ (by omega) ⟨_, rfl, ?_⟩
            refine qm_G.s1 rfl (qm_x_if_eq_f ⟨by decide, by decide⟩ (by decide)) ?_
            refine qm_G.s1 rfl (qm_x_aload rfl) ?_
            refine qm_G.s1 rfl (qm_x_iload rfl) ?_
            refine qm_G.s1 rfl (qm_x_iload rfl) ?_
            refine qm_G.s1 rfl (qm_x_iload rfl) ?_
            refine qm_G.cm rfl rfl (hS 61 rfl) rfl ?_
            refine qm_C.go (cd := qm_P65) (lv := [(0, qm_R (some (0, 61, 0))), (1, qm_I (qm_i a1)), (2, qm_I (qm_i 0)), (3, qm_I (qm_i a3))]) rfl rfl ?_
            refine qm_G.s1 rfl (qm_x_aload rfl) ?_
            refine qm_G.s1 rfl (qm_x_getfR (q := (some (0, 62, 0))) (hS 61 rfl) (hR 61 0 62 rfl rfl)) ?_
            refine qm_G.s1 rfl (qm_x_pushI 26 rfl) ?_
            refine qm_G.s1 rfl (qm_x_pushI 3 rfl) ?_
            refine qm_G.s1 rfl (qm_x_iload rfl) ?_
            refine qm_G.s1 rfl (qm_x_imul) ?_
            refine qm_G.s1 rfl (qm_x_iadd) ?_
            refine qm_G.s1 rfl (qm_x_pushI 1 rfl) ?_
            refine qm_G.s1 rfl (qm_x_iadd) ?_
            refine qm_G.s1 rfl (qm_x_iald (v := (J 62 0 (27 + 3 * (Int.toNat a1)))) (qm_arS hS rfl rfl) rfl (by omega) (by omega) (by decide) (congrArg (J 62 0) (by omega))) ?_
            refine qm_G.s1 rfl (qm_x_istore (lv' := [(4, qm_I (qm_i (J 62 0 (27 + 3 * (Int.toNat a1))))), (0, qm_R (some (0, 61, 0))), (1, qm_I (qm_i a1)), (2, qm_I (qm_i 0)), (3, qm_I (qm_i a3))]) rfl) ?_
            refine qm_G.s1 rfl (qm_x_aload rfl) ?_
            refine qm_G.s1 rfl (qm_x_getfR (q := (some (0, 62, 0))) (hS 61 rfl) (hR 61 0 62 rfl rfl)) ?_
            refine qm_G.s1 rfl (qm_x_pushI 26 rfl) ?_
            refine qm_G.s1 rfl (qm_x_pushI 3 rfl) ?_
            refine qm_G.s1 rfl (qm_x_iload rfl) ?_
            refine qm_G.s1 rfl (qm_x_imul) ?_
            refine qm_G.s1 rfl (qm_x_iadd) ?_
            refine qm_G.s1 rfl (qm_x_iald (v := (J 62 0 (26 + 3 * (Int.toNat a1)))) (qm_arS hS rfl rfl) rfl (by omega) (by omega) (by decide) (congrArg (J 62 0) (by omega))) ?_
            refine qm_G.s1 rfl (qm_x_tsweq (v := 1) (t := 68) (by omega) rfl) ?_
            refine qm_G.sp (lv1 := [(3, qm_I (qm_i a3))]) rfl rfl (qm_x_pushI 0 rfl) ?_
            refine qm_G.s1 rfl (qm_x_iload rfl) ?_
            refine qm_G.s1 rfl (qm_x_pushI 1 rfl) ?_
            refine qm_G.s1 rfl (qm_x_isub) ?_
            refine qm_G.cs rfl rfl rfl ?_
            refine qm_C.go (cd := qm_P11) (lv := [(0, qm_I (qm_i 0)), (1, qm_I (qm_i (a3 - 1)))]) rfl rfl ?_
            refine qm_G.s1 rfl (qm_x_iload rfl) ?_
            refine qm_G.s1 rfl (qm_x_iload rfl) ?_
            refine qm_G.s1 rfl (qm_x_icmp_lt_f ⟨by decide, by decide⟩ ⟨by omega, by omega⟩ (by omega)) ?_
            refine qm_G.s1 rfl (qm_x_iload rfl) ?_
            refine qm_G.s1 rfl (qm_x_goto) ?_
            refine qm_G.ret rfl rfl ⟨_, rfl, ?_⟩
            refine qm_G.ret rfl rfl ⟨_, rfl, ?_⟩
            refine qm_G.s1 rfl (qm_x_goto) ?_
            refine qm_G.ret rfl rfl ⟨_, rfl, ?_⟩
            refine qm_G.s1 rfl (qm_x_icmp_eq_t ⟨by decide, by decide⟩ ⟨by decide, by decide⟩ (by decide)) ?_
            exact ih _ _ _ _ _ _ hI.next
        · refine qm_G.s1 rfl (qm_x_tsweq (v := 2) (t := 53) c6 rfl) ?_
          refine qm_G.sp (lv1 := [(2, qm_I (qm_i a3))]) rfl rfl (qm_x_pushI 6 rfl) ?_
          refine qm_G.s1 rfl (qm_x_iload rfl) ?_
          refine qm_G.s1 rfl (qm_x_pushI 1 rfl) ?_
          refine qm_G.s1 rfl (qm_x_iadd) ?_
          refine qm_G.cs rfl rfl rfl ?_
          refine qm_C.go (cd := qm_P12) (lv := [(0, qm_I (qm_i 6)), (1, qm_I (qm_i (a3 + 1)))]) rfl rfl ?_
          refine qm_G.s1 rfl (qm_x_iload rfl) ?_
          refine qm_G.s1 rfl (qm_x_iload rfl) ?_
          refine qm_y_icmp_gt rfl ⟨by decide, by decide⟩ ⟨by omega, by omega⟩ (fun c20 => ?_) (fun c20 => ?_)
          · refine qm_G.sp (lv1 := [(1, qm_I (qm_i (a3 + 1)))]) rfl rfl (qm_x_iload rfl) ?_
            refine qm_G.ret rfl rfl ⟨_, rfl, ?_⟩
            refine qm_G.ret rfl rfl ⟨_, rfl, ?_⟩
            refine qm_G.ret rfl rfl ⟨_, rfl, ?_⟩
            refine qm_G.s1 rfl (qm_x_aload rfl) ?_
            refine qm_G.s1 rfl (qm_x_aload rfl) ?_
            refine qm_G.s1 rfl (qm_x_iload rfl) ?_
            refine qm_G.s1 rfl (qm_x_pushI 1 rfl) ?_
            refine qm_G.s1 rfl (qm_x_iadd) ?_
            refine qm_G.s1 rfl (qm_x_iald2v (v := a1) (by omega) (by omega) hX e1) ?_
            refine qm_G.s1 rfl (qm_x_aload rfl) ?_
            refine qm_G.s1 rfl (qm_x_iload rfl) ?_
            refine qm_G.s1 rfl (qm_x_pushI 2 rfl) ?_
            refine qm_G.s1 rfl (qm_x_iadd) ?_
            refine qm_G.s1 rfl (qm_x_iald2v (v := 0) (by omega) (by omega) hX e2) ?_
            refine qm_G.s1 rfl (qm_x_aload rfl) ?_
            refine qm_G.s1 rfl (qm_x_iload rfl) ?_
            refine qm_G.s1 rfl (qm_x_pushI 3 rfl) ?_
            refine qm_G.s1 rfl (qm_x_iadd) ?_
            refine qm_G.s1 rfl (qm_x_iald2v (v := a3) (by omega) (by omega) hX e3) ?_
            refine qm_G.cm rfl rfl (hS 61 rfl) rfl ?_
            refine qm_C.go (cd := qm_P151) (lv := [(0, qm_R (some (0, 61, 0))), (1, qm_I (qm_i a1)), (2, qm_I (qm_i 0)), (3, qm_I (qm_i a3))]) rfl rfl ?_
            refine qm_G.s1 rfl (qm_x_aload rfl) ?_
            refine qm_G.s1 rfl (qm_x_iload rfl) ?_
            refine qm_G.cm rfl rfl (hS 61 rfl) rfl ?_
            refine qm_C.go (cd := qm_P82) (lv := [(0, qm_R (some (0, 61, 0))), (1, qm_I (qm_i a1))]) rfl rfl ?_
            refine qm_G.s1 rfl (qm_x_iload rfl) ?_
            refine qm_G.s1 rfl (qm_x_pushI 0 rfl) ?_
            refine qm_G.s1 rfl (qm_x_aload rfl) ?_
            refine qm_G.s1 rfl (qm_x_getfR (q := (some (0, 62, 0))) (hS 61 rfl) (hR 61 0 62 rfl rfl)) ?_
            refine qm_G.s1 rfl (qm_x_pushI 7 rfl) ?_
            refine qm_G.s1 rfl (qm_x_iald (v := (J 62 0 7)) (qm_arS hS rfl rfl) rfl (by decide) (by decide) (by decide) rfl) ?_
            refine qm_G.s1 rfl (qm_x_pushI 1 rfl) ?_
            refine qm_G.s1 rfl (qm_x_isub) ?_
            refine qm_G.cs rfl rfl rfl ?_
            refine qm_v_within11_t ⟨by omega, by omega⟩ ⟨by decide, by decide⟩ ⟨by omega, by omega⟩ (by omega) ⟨_, rfl, ?_⟩
            refine qm_G.ret rfl rfl ⟨_, rfl, ?_⟩
            refine qm_G.s1 rfl (qm_x_if_eq_f ⟨by decide, by decide⟩ (by decide)) ?_
            refine qm_G.s1 rfl (qm_x_iload rfl) ?_
            refine qm_G.cs rfl rfl rfl ?_
            refine qm_C.go (cd := qm_P83) (lv := [(0, qm_I (qm_i 0))]) rfl rfl ?_
            refine qm_G.s1 rfl (qm_x_iload rfl) ?_
            refine qm_G.s1 rfl (qm_x_pushI 0 rfl) ?_
            refine qm_G.s1 rfl (qm_x_pushI 1 rfl) ?_
            refine qm_G.cs rfl rfl rfl ?_
            refine qm_v_within11_t ⟨by decide, by decide⟩ ⟨by decide, by decide⟩ ⟨by decide, by decide⟩ (by decide) ⟨_, rfl, ?_⟩
            refine qm_G.ret rfl rfl ⟨_, rfl, ?_⟩
            refine qm_G.s1 rfl (qm_x_if_ne_t ⟨by decide, by decide⟩ (by decide)) ?_
            refine qm_G.sp (lv1 := [(0, qm_R (some (0, 61, 0))), (1, qm_I (qm_i a1)), (2, qm_I (qm_i 0)), (3, qm_I (qm_i a3))]) rfl rfl (qm_x_iload rfl) ?_
            refine qm_G.s1 rfl (qm_x_pushI 0 rfl) ?_
            refine qm_G.s1 rfl (qm_x_pushI 5 rfl) ?_
            refine qm_G.cs rfl rfl rfl ?_
            refine qm_v_within11_t ⟨by omega, by omega⟩ ⟨by decide, by decide⟩ ⟨by decide, by decide⟩ (by omega) ⟨_, rfl, ?_⟩
            refine qm_G.s1 rfl (qm_x_if_eq_f ⟨by decide, by decide⟩ (by decide)) ?_
            refine qm_G.s1 rfl (qm_x_aload rfl) ?_
            refine qm_G.s1 rfl (qm_x_iload rfl) ?_
            refine qm_G.s1 rfl (qm_x_iload rfl) ?_
            refine qm_G.s1 rfl (qm_x_iload rfl) ?_
            refine qm_G.cm rfl rfl (hS 61 rfl) rfl ?_
            refine qm_C.go (cd := qm_P65) (lv := [(0, qm_R (some (0, 61, 0))), (1, qm_I (qm_i a1)), (2, qm_I (qm_i 0)), (3, qm_I (qm_i a3))]) rfl rfl ?_
            refine qm_G.s1 rfl (qm_x_aload rfl) ?_
            refine qm_G.s1 rfl (qm_x_getfR (q := (some (0, 62, 0))) (hS 61 rfl) (hR 61 0 62 rfl rfl)) ?_
            refine qm_G.s1 rfl (qm_x_pushI 26 rfl) ?_
            refine qm_G.s1 rfl (qm_x_pushI 3 rfl) ?_
            refine qm_G.s1 rfl (qm_x_iload rfl) ?_
            refine qm_G.s1 rfl (qm_x_imul) ?_
            refine qm_G.s1 rfl (qm_x_iadd) ?_
            refine qm_G.s1 rfl (qm_x_pushI 1 rfl) ?_
            refine qm_G.s1 rfl (qm_x_iadd) ?_
            refine qm_G.s1 rfl (qm_x_iald (v := (J 62 0 (27 + 3 * (Int.toNat a1)))) (qm_arS hS rfl rfl) rfl (by omega) (by omega) (by decide) (congrArg (J 62 0) (by omega))) ?_
            refine qm_G.s1 rfl (qm_x_istore (lv' := [(4, qm_I (qm_i (J 62 0 (27 + 3 * (Int.toNat a1))))), (0, qm_R (some (0, 61, 0))), (1, qm_I (qm_i a1)), (2, qm_I (qm_i 0)), (3, qm_I (qm_i a3))]) rfl) ?_
            refine qm_G.s1 rfl (qm_x_aload rfl) ?_
            refine qm_G.s1 rfl (qm_x_getfR (q := (some (0, 62, 0))) (hS 61 rfl) (hR 61 0 62 rfl rfl)) ?_
            refine qm_G.s1 rfl (qm_x_pushI 26 rfl) ?_
            refine qm_G.s1 rfl (qm_x_pushI 3 rfl) ?_
            refine qm_G.s1 rfl (qm_x_iload rfl) ?_
            refine qm_G.s1 rfl (qm_x_imul) ?_
            refine qm_G.s1 rfl (qm_x_iadd) ?_
            refine qm_G.s1 rfl (qm_x_iald (v := (J 62 0 (26 + 3 * (Int.toNat a1)))) (qm_arS hS rfl rfl) rfl (by omega) (by omega) (by decide) (congrArg (J 62 0) (by omega))) ?_
            refine qm_G.s1 rfl (qm_x_tsweq (v := 2) (t := 76) (by omega) rfl) ?_
            refine qm_G.sp (lv1 := [(3, qm_I (qm_i a3))]) rfl rfl (qm_x_pushI 6 rfl) ?_
            refine qm_G.s1 rfl (qm_x_iload rfl) ?_
            refine qm_G.s1 rfl (qm_x_pushI 1 rfl) ?_
            refine qm_G.s1 rfl (qm_x_iadd) ?_
            refine qm_G.cs rfl rfl rfl ?_
            refine qm_C.go (cd := qm_P12) (lv := [(0, qm_I (qm_i 6)), (1, qm_I (qm_i (a3 + 1)))]) rfl rfl ?_
            refine qm_G.s1 rfl (qm_x_iload rfl) ?_
            refine qm_G.s1 rfl (qm_x_iload rfl) ?_
            refine qm_G.s1 rfl (qm_x_icmp_gt_t ⟨by decide, by decide⟩ ⟨by omega, by omega⟩ (by omega)) ?_
            refine qm_G.sp (lv1 := [(1, qm_I (qm_i (a3 + 1)))]) rfl rfl (qm_x_iload rfl) ?_
            refine qm_G.ret rfl rfl ⟨_, rfl, ?_⟩
            refine qm_G.ret rfl rfl ⟨_, rfl, ?_⟩
            refine qm_G.s1 rfl (qm_x_goto) ?_
            refine qm_G.ret rfl rfl ⟨_, rfl, ?_⟩
            refine qm_G.s1 rfl (qm_x_icmp_eq_t ⟨by omega, by omega⟩ ⟨by omega, by omega⟩ (by omega)) ?_
            exact ih _ _ _ _ _ _ hI.next
          · refine qm_G.s1 rfl (qm_x_iload rfl) ?_
            refine qm_G.s1 rfl (qm_x_goto) ?_
            refine qm_G.ret rfl rfl ⟨_, rfl, ?_⟩
            refine qm_G.ret rfl rfl ⟨_, rfl, ?_⟩
            refine qm_G.ret rfl rfl ⟨_, rfl, ?_⟩
            refine qm_G.s1 rfl (qm_x_aload rfl) ?_
            refine qm_G.s1 rfl (qm_x_aload rfl) ?_
            refine qm_G.s1 rfl (qm_x_iload rfl) ?_
            refine qm_G.s1 rfl (qm_x_pushI 1 rfl) ?_
            refine qm_G.s1 rfl (qm_x_iadd) ?_
            refine qm_G.s1 rfl (qm_x_iald2v (v := a1) (by omega) (by omega) hX e1) ?_
            refine qm_G.s1 rfl (qm_x_aload rfl) ?_
            refine qm_G.s1 rfl (qm_x_iload rfl) ?_
            refine qm_G.s1 rfl (qm_x_pushI 2 rfl) ?_
            refine qm_G.s1 rfl (qm_x_iadd) ?_
            refine qm_G.s1 rfl (qm_x_iald2v (v := 0) (by omega) (by omega) hX e2) ?_
            refine qm_G.s1 rfl (qm_x_aload rfl) ?_
            refine qm_G.s1 rfl (qm_x_iload rfl) ?_
            refine qm_G.s1 rfl (qm_x_pushI 3 rfl) ?_
            refine qm_G.s1 rfl (qm_x_iadd) ?_
            refine qm_G.s1 rfl (qm_x_iald2v (v := a3) (by omega) (by omega) hX e3) ?_
            refine qm_G.cm rfl rfl (hS 61 rfl) rfl ?_
            refine qm_C.go (cd := qm_P151) (lv := [(0, qm_R (some (0, 61, 0))), (1, qm_I (qm_i a1)), (2, qm_I (qm_i 0)), (3, qm_I (qm_i a3))]) rfl rfl ?_
            refine qm_G.s1 rfl (qm_x_aload rfl) ?_
            refine qm_G.s1 rfl (qm_x_iload rfl) ?_
            refine qm_G.cm rfl rfl (hS 61 rfl) rfl ?_
            refine qm_C.go (cd := qm_P82) (lv := [(0, qm_R (some (0, 61, 0))), (1, qm_I (qm_i a1))]) rfl rfl ?_
            refine qm_G.s1 rfl (qm_x_iload rfl) ?_
            refine qm_G.s1 rfl (qm_x_pushI 0 rfl) ?_
            refine qm_G.s1 rfl (qm_x_aload rfl) ?_
            refine qm_G.s1 rfl (qm_x_getfR (q := (some (0, 62, 0))) (hS 61 rfl) (hR 61 0 62 rfl rfl)) ?_
            refine qm_G.s1 rfl (qm_x_pushI 7 rfl) ?_
            refine qm_G.s1 rfl (qm_x_iald (v := (J 62 0 7)) (qm_arS hS rfl rfl) rfl (by decide) (by decide) (by decide) rfl) ?_
            refine qm_G.s1 rfl (qm_x_pushI 1 rfl) ?_
            refine qm_G.s1 rfl (qm_x_isub) ?_
            refine qm_G.cs rfl rfl rfl ?_
            refine qm_v_within11_t ⟨by omega, by omega⟩ ⟨by decide, by decide⟩ ⟨by omega, by omega⟩ (by omega) ⟨_, rfl, ?_⟩
            refine qm_G.ret rfl rfl ⟨_, rfl, ?_⟩
            refine qm_G.s1 rfl (qm_x_if_eq_f ⟨by decide, by decide⟩ (by decide)) ?_
            refine qm_G.s1 rfl (qm_x_iload rfl) ?_
            refine qm_G.cs rfl rfl rfl ?_
            refine qm_C.go (cd := qm_P83) (lv := [(0, qm_I (qm_i 0))]) rfl rfl ?_
            refine qm_G.s1 rfl (qm_x_iload rfl) ?_
            refine qm_G.s1 rfl (qm_x_pushI 0 rfl) ?_
            refine qm_G.s1 rfl (qm_x_pushI 1 rfl) ?_
            refine qm_G.cs rfl rfl rfl ?_
            refine qm_v_within11_t ⟨by decide, by decide⟩ ⟨by decide, by decide⟩ ⟨by decide, by decide⟩ (by decide) ⟨_, rfl, ?_⟩
            refine qm_G.ret rfl rfl ⟨_, rfl, ?_⟩
            refine qm_G.s1 rfl (qm_x_if_ne_t ⟨by decide, by decide⟩ (by decide)) ?_
            refine qm_G.sp (lv1 := [(0, qm_R (some (0, 61, 0))), (1, qm_I (qm_i a1)), (2, qm_I (qm_i 0)), (3, qm_I (qm_i a3))]) rfl rfl (qm_x_iload rfl) ?_
            refine qm_G.s1 rfl (qm_x_pushI 0 rfl) ?_
            refine qm_G.s1 rfl (qm_x_pushI 5 rfl) ?_
            refine qm_G.cs rfl rfl rfl ?_
            refine qm_v_within11_t ⟨by omega, by omega⟩ ⟨by decide, by decide⟩ ⟨by decide, by decide⟩ (by omega) ⟨_, rfl, ?_⟩
            refine qm_G.s1 rfl (qm_x_if_eq_f ⟨by decide, by decide⟩ (by decide)) ?_
            refine qm_G.s1 rfl (qm_x_aload rfl) ?_
            refine qm_G.s1 rfl (qm_x_iload rfl) ?_
            refine qm_G.s1 rfl (qm_x_iload rfl) ?_
            refine qm_G.s1 rfl (qm_x_iload rfl) ?_
            refine qm_G.cm rfl rfl (hS 61 rfl) rfl ?_
            refine qm_C.go (cd := qm_P65) (lv := [(0, qm_R (some (0, 61, 0))), (1, qm_I (qm_i a1)), (2, qm_I (qm_i 0)), (3, qm_I (qm_i a3))]) rfl rfl ?_
            refine qm_G.s1 rfl (qm_x_aload rfl) ?_
            refine qm_G.s1 rfl (qm_x_getfR (q := (some (0, 62, 0))) (hS 61 rfl) (hR 61 0 62 rfl rfl)) ?_
            refine qm_G.s1 rfl (qm_x_pushI 26 rfl) ?_
            refine qm_G.s1 rfl (qm_x_pushI 3 rfl) ?_
            refine qm_G.s1 rfl (qm_x_iload rfl) ?_
            refine qm_G.s1 rfl (qm_x_imul) ?_
            refine qm_G.s1 rfl (qm_x_iadd) ?_
            refine qm_G.s1 rfl (qm_x_pushI 1 rfl) ?_
            refine qm_G.s1 rfl (qm_x_iadd) ?_
            refine qm_G.s1 rfl (qm_x_iald (v := (J 62 0 (27 + 3 * (Int.toNat a1)))) (qm_arS hS rfl rfl) rfl (by omega) (by omega) (by decide) (congrArg (J 62 0) (by omega))) ?_
            refine qm_G.s1 rfl (qm_x_istore (lv' := [(4, qm_I (qm_i (J 62 0 (27 + 3 * (Int.toNat a1))))), (0, qm_R (some (0, 61, 0))), (1, qm_I (qm_i a1)), (2, qm_I (qm_i 0)), (3, qm_I (qm_i a3))]) rfl) ?_
            refine qm_G.s1 rfl (qm_x_aload rfl) ?_
            refine qm_G.s1 rfl (qm_x_getfR (q := (some (0, 62, 0))) (hS 61 rfl) (hR 61 0 62 rfl rfl)) ?_
            refine qm_G.s1 rfl (qm_x_pushI 26 rfl) ?_
            refine qm_G.s1 rfl (qm_x_pushI 3 rfl) ?_
            refine qm_G.s1 rfl (qm_x_iload rfl) ?_
            refine qm_G.s1 rfl (qm_x_imul) ?_
            refine qm_G.s1 rfl (qm_x_iadd) ?_
            refine qm_G.s1 rfl (qm_x_iald (v := (J 62 0 (26 + 3 * (Int.toNat a1)))) (qm_arS hS rfl rfl) rfl (by omega) (by omega) (by decide) (congrArg (J 62 0) (by omega))) ?_
            refine qm_G.s1 rfl (qm_x_tsweq (v := 2) (t := 76) (by omega) rfl) ?_
            refine qm_G.sp (lv1 := [(3, qm_I (qm_i a3))]) rfl rfl (qm_x_pushI 6 rfl) ?_
            refine qm_G.s1 rfl (qm_x_iload rfl) ?_
            refine qm_G.s1 rfl (qm_x_pushI 1 rfl) ?_
            refine qm_G.s1 rfl (qm_x_iadd) ?_
            refine qm_G.cs rfl rfl rfl ?_
            refine qm_C.go (cd := qm_P12) (lv := [(0, qm_I (qm_i 6)), (1, qm_I (qm_i (a3 + 1)))]) rfl rfl ?_
            refine qm_G.s1 rfl (qm_x_iload rfl) ?_
            refine qm_G.s1 rfl (qm_x_iload rfl) ?_
            refine qm_G.s1 rfl (qm_x_icmp_gt_f ⟨by decide, by decide⟩ ⟨by omega, by omega⟩ (by omega)) ?_
            refine qm_G.s1 rfl (qm_x_iload rfl) ?_
            refine qm_G.s1 rfl (qm_x_goto) ?_
            refine qm_G.ret rfl rfl ⟨_, rfl, ?_⟩
            refine qm_G.ret rfl rfl ⟨_, rfl, ?_⟩
            refine qm_G.s1 rfl (qm_x_goto) ?_
            refine qm_G.ret rfl rfl ⟨_, rfl, ?_⟩
            refine qm_G.s1 rfl (qm_x_icmp_eq_t ⟨by decide, by decide⟩ ⟨by decide, by decide⟩ (by decide)) ?_
            exact ih _ _ _ _ _ _ hI.next
        · refine qm_G.s1 rfl (qm_x_tswd (m := 3) rfl ⟨by omega, by omega⟩ (by omega) (by omega) (by decide)) ?_
          refine qm_G.sp (lv1 := [(0, qm_R (some (0, q3, 0))), (2, qm_I (qm_i a3))]) rfl rfl (qm_x_pushI 0 rfl) ?_
          refine qm_G.s1 rfl (qm_x_iload rfl) ?_
          refine qm_G.cs rfl rfl rfl ?_
          refine qm_C.go (cd := qm_P67) (lv := [(0, qm_I (qm_i a3))]) rfl rfl ?_
          refine qm_G.s1 rfl (qm_x_pushI 0 rfl) ?_
          refine qm_G.s1 rfl (qm_x_iload rfl) ?_
          refine qm_G.s1 rfl (qm_x_pushI 1 rfl) ?_
          refine qm_G.s1 rfl (qm_x_isub) ?_
          refine qm_G.cs rfl rfl rfl ?_
          refine qm_C.go (cd := qm_P11) (lv := [(0, qm_I (qm_i 0)), (1, qm_I (qm_i (a3 - 1)))]) rfl rfl ?_
          refine qm_G.s1 rfl (qm_x_iload rfl) ?_
          refine qm_G.s1 rfl (qm_x_iload rfl) ?_
          refine qm_y_icmp_lt rfl ⟨by decide, by decide⟩ ⟨by omega, by omega⟩ (fun c29 => ?_) (fun c29 => ?_)
          · refine qm_G.sp (lv1 := [(1, qm_I (qm_i (a3 - 1)))]) rfl rfl (qm_x_iload rfl) ?_
            refine qm_G.ret rfl rfl ⟨_, rfl, ?_⟩
            refine qm_G.ret rfl rfl ⟨_, rfl, ?_⟩
            refine qm_G.s1 rfl (qm_x_aload rfl) ?_
            refine qm_G.s1 rfl (qm_x_getfI (v := (J q3 0 1)) g4s rfl) ?_
            refine qm_G.s1 rfl (qm_x_isub) ?_
            refine qm_G.cs rfl rfl rfl ?_
            refine qm_C.go (cd := qm_P11) (lv := [(0, qm_I (qm_i 0)), (1, qm_I (qm_i ((a3 - 1) - (J q3 0 1))))]) rfl rfl ?_
            refine qm_G.s1 rfl (qm_x_iload rfl) ?_
            refine qm_G.s1 rfl (qm_x_iload rfl) ?_
            refine qm_y_icmp_lt rfl ⟨by decide, by decide⟩ ⟨by omega, by omega⟩ (fun c30 => ?_) (fun c30 => ?_)
            · refine qm_G.sp (lv1 := [(1, qm_I (qm_i ((a3 - 1) - (J q3 0 1))))]) rfl rfl (qm_x_iload rfl) ?_
              refine qm_G.ret rfl rfl ⟨_, rfl, ?_⟩
              refine qm_G.ret rfl rfl ⟨_, rfl, ?_⟩
              refine qm_G.ret rfl rfl ⟨_, rfl, ?_⟩
              refine qm_G.s1 rfl (qm_x_aload rfl) ?_
              refine qm_G.s1 rfl (qm_x_aload rfl) ?_
              refine qm_G.s1 rfl (qm_x_iload rfl) ?_
              refine qm_G.s1 rfl (qm_x_pushI 1 rfl) ?_
              refine qm_G.s1 rfl (qm_x_iadd) ?_
              refine qm_G.s1 rfl (qm_x_iald2v (v := a1) (by omega) (by omega) hX e1) ?_
              refine qm_G.s1 rfl (qm_x_aload rfl) ?_
              refine qm_G.s1 rfl (qm_x_iload rfl) ?_
              refine qm_G.s1 rfl (qm_x_pushI 2 rfl) ?_
              refine qm_G.s1 rfl (qm_x_iadd) ?_
              refine qm_G.s1 rfl (qm_x_iald2v (v := 0) (by omega) (by omega) hX e2) ?_
              refine qm_G.s1 rfl (qm_x_aload rfl) ?_
              refine qm_G.s1 rfl (qm_x_iload rfl) ?_
              refine qm_G.s1 rfl (qm_x_pushI 3 rfl) ?_
              refine qm_G.s1 rfl (qm_x_iadd) ?_
              refine qm_G.s1 rfl (qm_x_iald2v (v := a3) (by omega) (by omega) hX e3) ?_
              refine qm_G.cm rfl rfl (hS 61 rfl) rfl ?_
              refine qm_C.go (cd := qm_P151) (lv := [(0, qm_R (some (0, 61, 0))), (1, qm_I (qm_i a1)), (2, qm_I (qm_i 0)), (3, qm_I (qm_i a3))]) rfl rfl ?_
              refine qm_G.s1 rfl (qm_x_aload rfl) ?_
              refine qm_G.s1 rfl (qm_x_iload rfl) ?_
              refine qm_G.cm rfl rfl (hS 61 rfl) rfl ?_
              refine qm_C.go (cd := qm_P82) (lv := [(0, qm_R (some (0, 61, 0))), (1, qm_I (qm_i a1))]) rfl rfl ?_
              refine qm_G.s1 rfl (qm_x_iload rfl) ?_
              refine qm_G.s1 rfl (qm_x_pushI 0 rfl) ?_
              refine qm_G.s1 rfl (qm_x_aload rfl) ?_
              refine qm_G.s1 rfl (qm_x_getfR (q := (some (0, 62, 0))) (hS 61 rfl) (hR 61 0 62 rfl rfl)) ?_
              refine qm_G.s1 rfl (qm_x_pushI 7 rfl) ?_
              refine qm_G.s1 rfl (qm_x_iald (v := (J 62 0 7)) (qm_arS hS rfl rfl) rfl (by decide) (by decide) (by decide) rfl) ?_
              refine qm_G.s1 rfl (qm_x_pushI 1 rfl) ?_
              refine qm_G.s1 rfl (qm_x_isub) ?_
              refine qm_G.cs rfl rfl rfl ?_
              refine qm_v_within11_t ⟨by omega, by omega⟩ ⟨by decide, by decide⟩ ⟨by omega, by omega⟩ (by omega) ⟨_, rfl, ?_⟩
              refine qm_G.ret rfl rfl ⟨_, rfl, ?_⟩
              refine qm_G.s1 rfl (qm_x_if_eq_f ⟨by decide, by decide⟩ (by decide)) ?_
              refine qm_G.s1 rfl (qm_x_iload rfl) ?_
              refine qm_G.cs rfl rfl rfl ?_
              refine qm_C.go (cd := qm_P83) (lv := [(0, qm_I (qm_i 0))]) rfl rfl ?_
              refine qm_G.s1 rfl (qm_x_iload rfl) ?_
              refine qm_G.s1 rfl (qm_x_pushI 0 rfl) ?_
              refine qm_G.s1 rfl (qm_x_pushI 1 rfl) ?_
              refine qm_G.cs rfl rfl rfl ?_
              refine qm_v_within11_t ⟨by decide, by decide⟩ ⟨by decide, by decide⟩ ⟨by decide, by decide⟩ (by decide) ⟨_, rfl, ?_⟩
              refine qm_G.ret rfl rfl ⟨_, rfl, ?_⟩
              refine qm_G.s1 rfl (qm_x_if_ne_t ⟨by decide, by decide⟩ (by decide)) ?_
              refine qm_G.sp (lv1 := [(0, qm_R (some (0, 61, 0))), (1, qm_I (qm_i a1)), (2, qm_I (qm_i 0)), (3, qm_I (qm_i a3))]) rfl rfl (qm_x_iload rfl) ?_
              refine qm_G.s1 rfl (qm_x_pushI 0 rfl) ?_
              refine qm_G.s1 rfl (qm_x_pushI 5 rfl) ?_
              refine qm_G.cs rfl rfl rfl ?_
              refine qm_v_within11_t ⟨by omega, by omega⟩ ⟨by decide, by decide⟩ ⟨by decide, by decide⟩ (by omega) ⟨_, rfl, ?_⟩
              refine qm_G.s1 rfl (qm_x_if_eq_f ⟨by decide, by decide⟩ (by decide)) ?_
              refine qm_G.s1 rfl (qm_x_aload rfl) ?_
              refine qm_G.s1 rfl (qm_x_iload rfl) ?_
              refine qm_G.s1 rfl (qm_x_iload rfl) ?_
              refine qm_G.s1 rfl (qm_x_iload rfl) ?_
              refine qm_G.cm rfl rfl (hS 61 rfl) rfl ?_
              refine qm_C.go (cd := qm_P65) (lv := [(0, qm_R (some (0, 61, 0))), (1, qm_I (qm_i a1)), (2, qm_I (qm_i 0)), (3, qm_I (qm_i a3))]) rfl rfl ?_
              refine qm_G.s1 rfl (qm_x_aload rfl) ?_
              refine qm_G.s1 rfl (qm_x_getfR (q := (some (0, 62, 0))) (hS 61 rfl) (hR 61 0 62 rfl rfl)) ?_
              refine qm_G.s1 rfl (qm_x_pushI 26 rfl) ?_
              refine qm_G.s1 rfl (qm_x_pushI 3 rfl) ?_
              refine qm_G.s1 rfl (qm_x_iload rfl) ?_
              refine qm_G.s1 rfl (qm_x_imul) ?_
              refine qm_G.s1 rfl (qm_x_iadd) ?_
              refine qm_G.s1 rfl (qm_x_pushI 1 rfl) ?_
              refine qm_G.s1 rfl (qm_x_iadd) ?_
              refine qm_G.s1 rfl (qm_x_iald (v := (J 62 0 (27 + 3 * (Int.toNat a1)))) (qm_arS hS rfl rfl) rfl (by omega) (by omega) (by decide) (congrArg (J 62 0) (by omega))) ?_
              refine qm_G.s1 rfl (qm_x_istore (lv' := [(4, qm_I (qm_i (J 62 0 (27 + 3 * (Int.toNat a1))))), (0, qm_R (some (0, 61, 0))), (1, qm_I (qm_i a1)), (2, qm_I (qm_i 0)), (3, qm_I (qm_i a3))]) rfl) ?_
              refine qm_G.s1 rfl (qm_x_aload rfl) ?_
              refine qm_G.s1 rfl (qm_x_getfR (q := (some (0, 62, 0))) (hS 61 rfl) (hR 61 0 62 rfl rfl)) ?_
              refine qm_G.s1 rfl (qm_x_pushI 26 rfl) ?_
              refine qm_G.s1 rfl (qm_x_pushI 3 rfl) ?_
              refine qm_G.s1 rfl (qm_x_iload rfl) ?_
              refine qm_G.s1 rfl (qm_x_imul) ?_
              refine qm_G.s1 rfl (qm_x_iadd) ?_
              refine qm_G.s1 rfl (qm_x_iald (v := (J 62 0 (26 + 3 * (Int.toNat a1)))) (qm_arS hS rfl rfl) rfl (by omega) (by omega) (by decide) (congrArg (J 62 0) (by omega))) ?_
              rcases (show (J 62 0 (26 + 3 * (Int.toNat a1)) < 0 ∨ 3 ≤ J 62 0 (26 + 3 * (Int.toNat a1))) by omega) with c34
              · refine qm_G.s1 rfl (qm_x_tswd (m := 3) rfl ⟨by omega, by omega⟩ (by omega) (by omega) (by decide)) ?_
                refine qm_G.sp (lv1 := [(3, qm_I (qm_i a3)), (4, qm_I (qm_i (J 62 0 (27 + 3 * (Int.toNat a1)))))]) rfl rfl (qm_x_pushI 0 rfl) ?_
                refine qm_G.s1 rfl (qm_x_pushI 0 rfl) ?_
                refine qm_G.s1 rfl (qm_x_iload rfl) ?_
                refine qm_G.s1 rfl (qm_x_pushI 1 rfl) ?_
                refine qm_G.s1 rfl (qm_x_isub) ?_
                refine qm_G.cs rfl rfl rfl ?_
                refine qm_C.go (cd := qm_P11) (lv := [(0, qm_I (qm_i 0)), (1, qm_I (qm_i (a3 - 1)))]) rfl rfl ?_
                refine qm_G.s1 rfl (qm_x_iload rfl) ?_
                refine qm_G.s1 rfl (qm_x_iload rfl) ?_
                refine qm_G.s1 rfl (qm_x_icmp_lt_t ⟨by decide, by decide⟩ ⟨by omega, by omega⟩ (by omega)) ?_
                refine qm_G.sp (lv1 := [(1, qm_I (qm_i (a3 - 1)))]) rfl rfl (qm_x_iload rfl) ?_
                refine qm_G.ret rfl rfl ⟨_, rfl, ?_⟩
                refine qm_G.s1 rfl (qm_x_iload rfl) ?_
                refine qm_G.s1 rfl (qm_x_isub) ?_
                refine qm_G.cs rfl rfl rfl ?_
                refine qm_C.go (cd := qm_P11) (lv := [(0, qm_I (qm_i 0)), (1, qm_I (qm_i ((a3 - 1) - (J 62 0 (27 + 3 * (Int.toNat a1))))))]) rfl rfl ?_
                refine qm_G.s1 rfl (qm_x_iload rfl) ?_
                refine qm_G.s1 rfl (qm_x_iload rfl) ?_
                refine qm_G.s1 rfl (qm_x_icmp_lt_t ⟨by decide, by decide⟩ ⟨by omega, by omega⟩ (by omega)) ?_
                refine qm_G.sp (lv1 := [(1, qm_I (qm_i ((a3 - 1) - (J 62 0 (27 + 3 * (Int.toNat a1))))))]) rfl rfl (qm_x_iload rfl) ?_
                refine qm_G.ret rfl rfl ⟨_, rfl, ?_⟩
                refine qm_G.ret rfl rfl ⟨_, rfl, ?_⟩
                refine qm_G.s1 rfl (qm_x_goto) ?_
                refine qm_G.ret rfl rfl ⟨_, rfl, ?_⟩
                refine qm_G.s1 rfl (qm_x_icmp_eq_t ⟨by omega, by omega⟩ ⟨by omega, by omega⟩ (by omega)) ?_
                exact ih _ _ _ _ _ _ hI.next
            · refine qm_G.s1 rfl (qm_x_iload rfl) ?_
              refine qm_G.s1 rfl (qm_x_goto) ?_
              refine qm_G.ret rfl rfl ⟨_, rfl, ?_⟩
              refine qm_G.ret rfl rfl ⟨_, rfl, ?_⟩
              refine qm_G.ret rfl rfl ⟨_, rfl, ?_⟩
              refine qm_G.s1 rfl (qm_x_aload rfl) ?_
              refine qm_G.s1 rfl (qm_x_aload rfl) ?_
              refine qm_G.s1 rfl (qm_x_iload rfl) ?_
              refine qm_G.s1 rfl (qm_x_pushI 1 rfl) ?_
              refine qm_G.s1 rfl (qm_x_iadd) ?_
              refine qm_G.s1 rfl (qm_x_iald2v (v := a1) (by omega) (by omega) hX e1) ?_
              refine qm_G.s1 rfl (qm_x_aload rfl) ?_
              refine qm_G.s1 rfl (qm_x_iload rfl) ?_
              refine qm_G.s1 rfl (qm_x_pushI 2 rfl) ?_
              refine qm_G.s1 rfl (qm_x_iadd) ?_
              refine qm_G.s1 rfl (qm_x_iald2v (v := 0) (by omega) (by omega) hX e2) ?_
              refine qm_G.s1 rfl (qm_x_aload rfl) ?_
              refine qm_G.s1 rfl (qm_x_iload rfl) ?_
              refine qm_G.s1 rfl (qm_x_pushI 3 rfl) ?_
              refine qm_G.s1 rfl (qm_x_iadd) ?_
              refine qm_G.s1 rfl (qm_x_iald2v (v := a3) (by omega) (by omega) hX e3) ?_
              refine qm_G.cm rfl rfl (hS 61 rfl) rfl ?_
              refine qm_C.go (cd := qm_P151) (lv := [(0, qm_R (some (0, 61, 0))), (1, qm_I (qm_i a1)), (2, qm_I (qm_i 0)), (3, qm_I (qm_i a3))]) rfl rfl ?_
              refine qm_G.s1 rfl (qm_x_aload rfl) ?_
              refine qm_G.s1 rfl (qm_x_iload rfl) ?_
              refine qm_G.cm rfl rfl (hS 61 rfl) rfl ?_
              refine qm_C.go (cd := qm_P82) (lv := [(0, qm_R (some (0, 61, 0))), (1, qm_I (qm_i a1))]) rfl rfl ?_
              refine qm_G.s1 rfl (qm_x_iload rfl) ?_
              refine qm_G.s1 rfl (qm_x_pushI 0 rfl) ?_
              refine qm_G.s1 rfl (qm_x_aload rfl) ?_
              refine qm_G.s1 rfl (qm_x_getfR (q := (some (0, 62, 0))) (hS 61 rfl) (hR 61 0 62 rfl rfl)) ?_
              refine qm_G.s1 rfl (qm_x_pushI 7 rfl) ?_
              refine qm_G.s1 rfl (qm_x_iald (v := (J 62 0 7)) (qm_arS hS rfl rfl) rfl (by decide) (by decide) (by decide) rfl) ?_
              refine qm_G.s1 rfl (qm_x_pushI 1 rfl) ?_
              refine qm_G.s1 rfl (qm_x_isub) ?_
              refine qm_G.cs rfl rfl rfl ?_
              refine qm_v_within11_t ⟨by omega, by omega⟩ ⟨by decide, by decide⟩ ⟨by omega, by omega⟩ (by omega) ⟨_, rfl, ?_⟩
              refine qm_G.ret rfl rfl ⟨_, rfl, ?_⟩
              refine qm_G.s1 rfl (qm_x_if_eq_f ⟨by decide, by decide⟩ (by decide)) ?_
              refine qm_G.s1 rfl (qm_x_iload rfl) ?_
              refine qm_G.cs rfl rfl rfl ?_
              refine qm_C.go (cd := qm_P83) (lv := [(0, qm_I (qm_i 0))]) rfl rfl ?_
              refine qm_G.s1 rfl (qm_x_iload rfl) ?_
              refine qm_G.s1 rfl (qm_x_pushI 0 rfl) ?_
              refine qm_G.s1 rfl (qm_x_pushI 1 rfl) ?_
              refine qm_G.cs rfl rfl rfl ?_
              refine qm_v_within11_t ⟨by decide, by decide⟩ ⟨by decide, by decide⟩ ⟨by decide, by decide⟩ (by decide) ⟨_, rfl, ?_⟩
              refine qm_G.ret rfl rfl ⟨_, rfl, ?_⟩
              refine qm_G.s1 rfl (qm_x_if_ne_t ⟨by decide, by decide⟩ (by decide)) ?_
              refine qm_G.sp (lv1 := [(0, qm_R (some (0, 61, 0))), (1, qm_I (qm_i a1)), (2, qm_I (qm_i 0)), (3, qm_I (qm_i a3))]) rfl rfl (qm_x_iload rfl) ?_
              refine qm_G.s1 rfl (qm_x_pushI 0 rfl) ?_
              refine qm_G.s1 rfl (qm_x_pushI 5 rfl) ?_
              refine qm_G.cs rfl rfl rfl ?_
              refine qm_v_within11_t ⟨by omega, by omega⟩ ⟨by decide, by decide⟩ ⟨by decide, by decide⟩ (by omega) ⟨_, rfl, ?_⟩
              refine qm_G.s1 rfl (qm_x_if_eq_f ⟨by decide, by decide⟩ (by decide)) ?_
              refine qm_G.s1 rfl (qm_x_aload rfl) ?_
              refine qm_G.s1 rfl (qm_x_iload rfl) ?_
              refine qm_G.s1 rfl (qm_x_iload rfl) ?_
              refine qm_G.s1 rfl (qm_x_iload rfl) ?_
              refine qm_G.cm rfl rfl (hS 61 rfl) rfl ?_
              refine qm_C.go (cd := qm_P65) (lv := [(0, qm_R (some (0, 61, 0))), (1, qm_I (qm_i a1)), (2, qm_I (qm_i 0)), (3, qm_I (qm_i a3))]) rfl rfl ?_
              refine qm_G.s1 rfl (qm_x_aload rfl) ?_
              refine qm_G.s1 rfl (qm_x_getfR (q := (some (0, 62, 0))) (hS 61 rfl) (hR 61 0 62 rfl rfl)) ?_
              refine qm_G.s1 rfl (qm_x_pushI 26 rfl) ?_
              refine qm_G.s1 rfl (qm_x_pushI 3 rfl) ?_
              refine qm_G.s1 rfl (qm_x_iload rfl) ?_
              refine qm_G.s1 rfl (qm_x_imul) ?_
              refine qm_G.s1 rfl (qm_x_iadd) ?_
              refine qm_G.s1 rfl (qm_x_pushI 1 rfl) ?_
              refine qm_G.s1 rfl (qm_x_iadd) ?_
              refine qm_G.s1 rfl (qm_x_iald (v := (J 62 0 (27 + 3 * (Int.toNat a1)))) (qm_arS hS rfl rfl) rfl (by omega) (by omega) (by decide) (congrArg (J 62 0) (by omega))) ?_
              refine qm_G.s1 rfl (qm_x_istore (lv' := [(4, qm_I (qm_i (J 62 0 (27 + 3 * (Int.toNat a1))))), (0, qm_R (some (0, 61, 0))), (1, qm_I (qm_i a1)), (2, qm_I (qm_i 0)), (3, qm_I (qm_i a3))]) rfl) ?_
              refine qm_G.s1 rfl (qm_x_aload rfl) ?_
              refine qm_G.s1 rfl (qm_x_getfR (q := (some (0, 62, 0))) (hS 61 rfl) (hR 61 0 62 rfl rfl)) ?_
              refine qm_G.s1 rfl (qm_x_pushI 26 rfl) ?_
              refine qm_G.s1 rfl (qm_x_pushI 3 rfl) ?_
              refine qm_G.s1 rfl (qm_x_iload rfl) ?_
              refine qm_G.s1 rfl (qm_x_imul) ?_
              refine qm_G.s1 rfl (qm_x_iadd) ?_
              refine qm_G.s1 rfl (qm_x_iald (v := (J 62 0 (26 + 3 * (Int.toNat a1)))) (qm_arS hS rfl rfl) rfl (by omega) (by omega) (by decide) (congrArg (J 62 0) (by omega))) ?_
              rcases (show (J 62 0 (26 + 3 * (Int.toNat a1)) < 0 ∨ 3 ≤ J 62 0 (26 + 3 * (Int.toNat a1))) by omega) with c38
              · refine qm_G.s1 rfl (qm_x_tswd (m := 3) rfl ⟨by omega, by omega⟩ (by omega) (by omega) (by decide)) ?_
                refine qm_G.sp (lv1 := [(3, qm_I (qm_i a3)), (4, qm_I (qm_i (J 62 0 (27 + 3 * (Int.toNat a1)))))]) rfl rfl (qm_x_pushI 0 rfl) ?_
                refine qm_G.s1 rfl (qm_x_pushI 0 rfl) ?_
                refine qm_G.s1 rfl (qm_x_iload rfl) ?_
                refine qm_G.s1 rfl (qm_x_pushI 1 rfl) ?_
                refine qm_G.s1 rfl (qm_x_isub) ?_
                refine qm_G.cs rfl rfl rfl ?_
                refine qm_C.go (cd := qm_P11) (lv := [(0, qm_I (qm_i 0)), (1, qm_I (qm_i (a3 - 1)))]) rfl rfl ?_
                refine qm_G.s1 rfl (qm_x_iload rfl) ?_
                refine qm_G.s1 rfl (qm_x_iload rfl) ?_
                refine qm_G.s1 rfl (qm_x_icmp_lt_t ⟨by decide, by decide⟩ ⟨by omega, by omega⟩ (by omega)) ?_
                refine qm_G.sp (lv1 := [(1, qm_I (qm_i (a3 - 1)))]) rfl rfl (qm_x_iload rfl) ?_
                refine qm_G.ret rfl rfl ⟨_, rfl, ?_⟩
                refine qm_G.s1 rfl (qm_x_iload rfl) ?_
                refine qm_G.s1 rfl (qm_x_isub) ?_
                refine qm_G.cs rfl rfl rfl ?_
                refine qm_C.go (cd := qm_P11) (lv := [(0, qm_I (qm_i 0)), (1, qm_I (qm_i ((a3 - 1) - (J 62 0 (27 + 3 * (Int.toNat a1))))))]) rfl rfl ?_
                refine qm_G.s1 rfl (qm_x_iload rfl) ?_
                refine qm_G.s1 rfl (qm_x_iload rfl) ?_
                refine qm_G.s1 rfl (qm_x_icmp_lt_f ⟨by decide, by decide⟩ ⟨by omega, by omega⟩ (by omega)) ?_
                refine qm_G.s1 rfl (qm_x_iload rfl) ?_
                refine qm_G.s1 rfl (qm_x_goto) ?_
                refine qm_G.ret rfl rfl ⟨_, rfl, ?_⟩
                refine qm_G.ret rfl rfl ⟨_, rfl, ?_⟩
                refine qm_G.s1 rfl (qm_x_goto) ?_
                refine qm_G.ret rfl rfl ⟨_, rfl, ?_⟩
                refine qm_G.s1 rfl (qm_x_icmp_eq_t ⟨by decide, by decide⟩ ⟨by decide, by decide⟩ (by decide)) ?_
                exact ih _ _ _ _ _ _ hI.next
          · refine qm_G.s1 rfl (qm_x_iload rfl) ?_
            refine qm_G.s1 rfl (qm_x_goto) ?_
            refine qm_G.ret rfl rfl ⟨_, rfl, ?_⟩
            refine qm_G.ret rfl rfl ⟨_, rfl, ?_⟩
            refine qm_G.s1 rfl (qm_x_aload rfl) ?_
            refine qm_G.s1 rfl (qm_x_getfI (v := (J q3 0 1)) g4s rfl) ?_
            refine qm_G.s1 rfl (qm_x_isub) ?_
            refine qm_G.cs rfl rfl rfl ?_
            refine qm_C.go (cd := qm_P11) (lv := [(0, qm_I (qm_i 0)), (1, qm_I (qm_i (0 - (J q3 0 1))))]) rfl rfl ?_
            refine qm_G.s1 rfl (qm_x_iload rfl) ?_
            refine qm_G.s1 rfl (qm_x_iload rfl) ?_
            refine qm_G.s1 rfl (qm_x_icmp_lt_f ⟨by decide, by decide⟩ ⟨by omega, by omega⟩ (by omega)) ?_
            refine qm_G.s1 rfl (qm_x_iload rfl) ?_
            refine qm_G.s1 rfl (qm_x_goto) ?_
            refine qm_G.ret rfl rfl ⟨_, rfl, ?_⟩
            refine qm_G.ret rfl rfl ⟨_, rfl, ?_⟩
            refine qm_G.ret rfl rfl ⟨_, rfl, ?_⟩
            refine qm_G.s1 rfl (qm_x_aload rfl) ?_
            refine qm_G.s1 rfl (qm_x_aload rfl) ?_
            refine qm_G.s1 rfl (qm_x_iload rfl) ?_
            refine qm_G.s1 rfl (qm_x_pushI 1 rfl) ?_
            refine qm_G.s1 rfl (qm_x_iadd) ?_
            refine qm_G.s1 rfl (qm_x_iald2v (v := a1) (by omega) (by omega) hX e1) ?_
            refine qm_G.s1 rfl (qm_x_aload rfl) ?_
            refine qm_G.s1 rfl (qm_x_iload rfl) ?_
            refine qm_G.s1 rfl (qm_x_pushI 2 rfl) ?_
            refine qm_G.s1 rfl (qm_x_iadd) ?_
            refine qm_G.s1 rfl (qm_x_iald2v (v := 0) (by omega) (by omega) hX e2) ?_
            refine qm_G.s1 rfl (qm_x_aload rfl) ?_
            refine qm_G.s1 rfl (qm_x_iload rfl) ?_
            refine qm_G.s1 rfl (qm_x_pushI 3 rfl) ?_
            refine qm_G.s1 rfl (qm_x_iadd) ?_
            refine qm_G.s1 rfl (qm_x_iald2v (v := a3) (by omega) (by omega) hX e3) ?_
            refine qm_G.cm rfl rfl (hS 61 rfl) rfl ?_
            refine qm_C.go (cd := qm_P151) (lv := [(0, qm_R (some (0, 61, 0))), (1, qm_I (qm_i a1)), (2, qm_I (qm_i 0)), (3, qm_I (qm_i a3))]) rfl rfl ?_
            refine qm_G.s1 rfl (qm_x_aload rfl) ?_
            refine qm_G.s1 rfl (qm_x_iload rfl) ?_
            refine qm_G.cm rfl rfl (hS 61 rfl) rfl ?_
            refine qm_C.go (cd := qm_P82) (lv := [(0, qm_R (some (0, 61, 0))), (1, qm_I (qm_i a1))]) rfl rfl ?_
            refine qm_G.s1 rfl (qm_x_iload rfl) ?_
            refine qm_G.s1 rfl (qm_x_pushI 0 rfl) ?_
            refine qm_G.s1 rfl (qm_x_aload rfl) ?_
            refine qm_G.s1 rfl (qm_x_getfR (q := (some (0, 62, 0))) (hS 61 rfl) (hR 61 0 62 rfl rfl)) ?_
            refine qm_G.s1 rfl (qm_x_pushI 7 rfl) ?_
            refine qm_G.s1 rfl (qm_x_iald (v := (J 62 0 7)) (qm_arS hS rfl rfl) rfl (by decide) (by decide) (by decide) rfl) ?_
            refine qm_G.s1 rfl (qm_x_pushI 1 rfl) ?_
            refine qm_G.s1 rfl (qm_x_isub) ?_
            refine qm_G.cs rfl rfl rfl ?_
            refine qm_v_within11_t ⟨by omega, by omega⟩ ⟨by decide, by decide⟩ ⟨by omega, by omega⟩ (by omega) ⟨_, rfl, ?_⟩
            refine qm_G.ret rfl rfl ⟨_, rfl, ?_⟩
            refine qm_G.s1 rfl (qm_x_if_eq_f ⟨by decide, by decide⟩ (by decide)) ?_
            refine qm_G.s1 rfl (qm_x_iload rfl) ?_
            refine qm_G.cs rfl rfl rfl ?_
            refine qm_C.go (cd := qm_P83) (lv := [(0, qm_I (qm_i 0))]) rfl rfl ?_
            refine qm_G.s1 rfl (qm_x_iload rfl) ?_
            refine qm_G.s1 rfl (qm_x_pushI 0 rfl) ?_
            refine qm_G.s1 rfl (qm_x_pushI 1 rfl) ?_
            refine qm_G.cs rfl rfl rfl ?_
            refine qm_v_within11_t ⟨by decide, by decide⟩ ⟨by decide, by decide⟩ ⟨by decide, by decide⟩ (by decide) ⟨_, rfl, ?_⟩
            refine qm_G.ret rfl rfl ⟨_, rfl, ?_⟩
            refine qm_G.s1 rfl (qm_x_if_ne_t ⟨by decide, by decide⟩ (by decide)) ?_
            refine qm_G.sp (lv1 := [(0, qm_R (some (0, 61, 0))), (1, qm_I (qm_i a1)), (2, qm_I (qm_i 0)), (3, qm_I (qm_i a3))]) rfl rfl (qm_x_iload rfl) ?_
            refine qm_G.s1 rfl (qm_x_pushI 0 rfl) ?_
            refine qm_G.s1 rfl (qm_x_pushI 5 rfl) ?_
            refine qm_G.cs rfl rfl rfl ?_
            refine qm_v_within11_t ⟨by omega, by omega⟩ ⟨by decide, by decide⟩ ⟨by decide, by decide⟩ (by omega) ⟨_, rfl, ?_⟩
            refine qm_G.s1 rfl (qm_x_if_eq_f ⟨by decide, by decide⟩ (by decide)) ?_
            refine qm_G.s1 rfl (qm_x_aload rfl) ?_
            refine qm_G.s1 rfl (qm_x_iload rfl) ?_
            refine qm_G.s1 rfl (qm_x_iload rfl) ?_
            refine qm_G.s1 rfl (qm_x_iload rfl) ?_
            refine qm_G.cm rfl rfl (hS 61 rfl) rfl ?_
            refine qm_C.go (cd := qm_P65) (lv := [(0, qm_R (some (0, 61, 0))), (1, qm_I (qm_i a1)), (2, qm_I (qm_i 0)), (3, qm_I (qm_i a3))]) rfl rfl ?_
            refine qm_G.s1 rfl (qm_x_aload rfl) ?_
            refine qm_G.s1 rfl (qm_x_getfR (q := (some (0, 62, 0))) (hS 61 rfl) (hR 61 0 62 rfl rfl)) ?_
            refine qm_G.s1 rfl (qm_x_pushI 26 rfl) ?_
            refine qm_G.s1 rfl (qm_x_pushI 3 rfl) ?_
            refine qm_G.s1 rfl (qm_x_iload rfl) ?_
            refine qm_G.s1 rfl (qm_x_imul) ?_
            refine qm_G.s1 rfl (qm_x_iadd) ?_
            refine qm_G.s1 rfl (qm_x_pushI 1 rfl) ?_
            refine qm_G.s1 rfl (qm_x_iadd) ?_
            refine qm_G.s1 rfl (qm_x_iald (v := (J 62 0 (27 + 3 * (Int.toNat a1)))) (qm_arS hS rfl rfl) rfl (by omega) (by omega) (by decide) (congrArg (J 62 0) (by omega))) ?_
            refine qm_G.s1 rfl (qm_x_istore (lv' := [(4, qm_I (qm_i (J 62 0 (27 + 3 * (Int.toNat a1))))), (0, qm_R (some (0, 61, 0))), (1, qm_I (qm_i a1)), (2, qm_I (qm_i 0)), (3, qm_I (qm_i a3))]) rfl) ?_
            refine qm_G.s1 rfl (qm_x_aload rfl) ?_
            refine qm_G.s1 rfl (qm_x_getfR (q := (some (0, 62, 0))) (hS 61 rfl) (hR 61 0 62 rfl rfl)) ?_
            refine qm_G.s1 rfl (qm_x_pushI 26 rfl) ?_
            refine qm_G.s1 rfl (qm_x_pushI 3 rfl) ?_
            refine qm_G.s1 rfl (qm_x_iload rfl) ?_
            refine qm_G.s1 rfl (qm_x_imul) ?_
            refine qm_G.s1 rfl (qm_x_iadd) ?_
            refine qm_G.s1 rfl (qm_x_iald (v := (J 62 0 (26 + 3 * (Int.toNat a1)))) (qm_arS hS rfl rfl) rfl (by omega) (by omega) (by decide) (congrArg (J 62 0) (by omega))) ?_
            rcases (show (J 62 0 (26 + 3 * (Int.toNat a1)) < 0 ∨ 3 ≤ J 62 0 (26 + 3 * (Int.toNat a1))) by omega) with c42
            · refine qm_G.s1 rfl (qm_x_tswd (m := 3) rfl ⟨by omega, by omega⟩ (by omega) (by omega) (by decide)) ?_
              refine qm_G.sp (lv1 := [(3, qm_I (qm_i a3)), (4, qm_I (qm_i (J 62 0 (27 + 3 * (Int.toNat a1)))))]) rfl rfl (qm_x_pushI 0 rfl) ?_
              refine qm_G.s1 rfl (qm_x_pushI 0 rfl) ?_
              refine qm_G.s1 rfl (qm_x_iload rfl) ?_
              refine qm_G.s1 rfl (qm_x_pushI 1 rfl) ?_
              refine qm_G.s1 rfl (qm_x_isub) ?_
              refine qm_G.cs rfl rfl rfl ?_
              refine qm_C.go (cd := qm_P11) (lv := [(0, qm_I (qm_i 0)), (1, qm_I (qm_i (a3 - 1)))]) rfl rfl ?_
              refine qm_G.s1 rfl (qm_x_iload rfl) ?_
              refine qm_G.s1 rfl (qm_x_iload rfl) ?_
              refine qm_G.s1 rfl (qm_x_icmp_lt_f ⟨by decide, by decide⟩ ⟨by omega, by omega⟩ (by omega)) ?_
              refine qm_G.s1 rfl (qm_x_iload rfl) ?_
              refine qm_G.s1 rfl (qm_x_goto) ?_
              refine qm_G.ret rfl rfl ⟨_, rfl, ?_⟩
              refine qm_G.s1 rfl (qm_x_iload rfl) ?_
              refine qm_G.s1 rfl (qm_x_isub) ?_
              refine qm_G.cs rfl rfl rfl ?_
              refine qm_C.go (cd := qm_P11) (lv := [(0, qm_I (qm_i 0)), (1, qm_I (qm_i (0 - (J 62 0 (27 + 3 * (Int.toNat a1))))))]) rfl rfl ?_
              refine qm_G.s1 rfl (qm_x_iload rfl) ?_
              refine qm_G.s1 rfl (qm_x_iload rfl) ?_
              refine qm_G.s1 rfl (qm_x_icmp_lt_f ⟨by decide, by decide⟩ ⟨by omega, by omega⟩ (by omega)) ?_
              refine qm_G.s1 rfl (qm_x_iload rfl) ?_
              refine qm_G.s1 rfl (qm_x_goto) ?_
              refine qm_G.ret rfl rfl ⟨_, rfl, ?_⟩
              refine qm_G.ret rfl rfl ⟨_, rfl, ?_⟩
              refine qm_G.s1 rfl (qm_x_goto) ?_
              refine qm_G.ret rfl rfl ⟨_, rfl, ?_⟩
              refine qm_G.s1 rfl (qm_x_icmp_eq_t ⟨by decide, by decide⟩ ⟨by decide, by decide⟩ (by decide)) ?_
              exact ih _ _ _ _ _ _ hI.next
      · refine qm_G.ret rfl rfl ⟨_, rfl, ?_⟩
        refine qm_G.s1 rfl (qm_x_if_ne_f ⟨by decide, by decide⟩ (by decide)) ?_
        refine qm_G.s1 rfl (qm_x_pushI (-2) rfl) ?_
        refine qm_G.ret rfl rfl ⟨_, rfl, ?_⟩
        refine qm_G.s1 rfl (qm_x_aload rfl) ?_
        refine qm_G.s1 rfl (qm_x_aload rfl) ?_
        refine qm_G.s1 rfl (qm_x_iload rfl) ?_
        refine qm_G.s1 rfl (qm_x_pushI 1 rfl) ?_
        refine qm_G.s1 rfl (qm_x_iadd) ?_
        refine qm_G.s1 rfl (qm_x_iald2v (v := a1) (by omega) (by omega) hX e1) ?_
        refine qm_G.s1 rfl (qm_x_aload rfl) ?_
        refine qm_G.s1 rfl (qm_x_iload rfl) ?_
        refine qm_G.s1 rfl (qm_x_pushI 2 rfl) ?_
        refine qm_G.s1 rfl (qm_x_iadd) ?_
        refine qm_G.s1 rfl (qm_x_iald2v (v := 0) (by omega) (by omega) hX e2) ?_
        refine qm_G.s1 rfl (qm_x_aload rfl) ?_
        refine qm_G.s1 rfl (qm_x_iload rfl) ?_
        refine qm_G.s1 rfl (qm_x_pushI 3 rfl) ?_
        refine qm_G.s1 rfl (qm_x_iadd) ?_
        refine qm_G.s1 rfl (qm_x_iald2v (v := a3) (by omega) (by omega) hX e3) ?_
        refine qm_G.cm rfl rfl (hS 61 rfl) rfl ?_
        refine qm_C.go (cd := qm_P151) (lv := [(0, qm_R (some (0, 61, 0))), (1, qm_I (qm_i a1)), (2, qm_I (qm_i 0)), (3, qm_I (qm_i a3))]) rfl rfl ?_
        refine qm_G.s1 rfl (qm_x_aload rfl) ?_
        refine qm_G.s1 rfl (qm_x_iload rfl) ?_
        refine qm_G.cm rfl rfl (hS 61 rfl) rfl ?_
        refine qm_C.go (cd := qm_P82) (lv := [(0, qm_R (some (0, 61, 0))), (1, qm_I (qm_i a1))]) rfl rfl ?_
        refine qm_G.s1 rfl (qm_x_iload rfl) ?_
        refine qm_G.s1 rfl (qm_x_pushI 0 rfl) ?_
        refine qm_G.s1 rfl (qm_x_aload rfl) ?_
        refine qm_G.s1 rfl (qm_x_getfR (q := (some (0, 62, 0))) (hS 61 rfl) (hR 61 0 62 rfl rfl)) ?_
        refine qm_G.s1 rfl (qm_x_pushI 7 rfl) ?_
        refine qm_G.s1 rfl (qm_x_iald (v := (J 62 0 7)) (qm_arS hS rfl rfl) rfl (by decide) (by decide) (by decide) rfl) ?_
        refine qm_G.s1 rfl (qm_x_pushI 1 rfl) ?_
        refine qm_G.s1 rfl (qm_x_isub) ?_
        refine qm_G.cs rfl rfl rfl ?_
        refine qm_v_within11_t ⟨by omega, by omega⟩ ⟨by decide, by decide⟩ ⟨by omega, by omega⟩ (by omega) ⟨_, rfl, ?_⟩
        refine qm_G.ret rfl rfl ⟨_, rfl, ?_⟩
        refine qm_G.s1 rfl (qm_x_if_eq_f ⟨by decide, by decide⟩ (by decide)) ?_
        refine qm_G.s1 rfl (qm_x_iload rfl) ?_
        refine qm_G.cs rfl rfl rfl ?_
        refine qm_C.go (cd := qm_P83) (lv := [(0, qm_I (qm_i 0))]) rfl rfl ?_
        refine qm_G.s1 rfl (qm_x_iload rfl) ?_
        refine qm_G.s1 rfl (qm_x_pushI 0 rfl) ?_
        refine qm_G.s1 rfl (qm_x_pushI 1 rfl) ?_
        refine qm_G.cs rfl rfl rfl ?_
        refine qm_v_within11_t ⟨by decide, by decide⟩ ⟨by decide, by decide⟩ ⟨by decide, by decide⟩ (by decide) ⟨_, rfl, ?_⟩
        refine qm_G.ret rfl rfl ⟨_, rfl, ?_⟩
        refine qm_G.s1 rfl (qm_x_if_ne_t ⟨by decide, by decide⟩ (by decide)) ?_
        refine qm_G.sp (lv1 := [(0, qm_R (some (0, 61, 0))), (1, qm_I (qm_i a1)), (2, qm_I (qm_i 0)), (3, qm_I (qm_i a3))]) rfl rfl (qm_x_iload rfl) ?_
        refine qm_G.s1 rfl (qm_x_pushI 0 rfl) ?_
        refine qm_G.s1 rfl (qm_x_pushI 5 rfl) ?_
        refine qm_G.cs rfl rfl rfl ?_
        refine qm_v_within11_f ⟨by omega, by omega⟩ ⟨by decide, by decide⟩ ⟨by decide, by decide⟩ (by omega) ⟨_, rfl, ?_⟩
        refine qm_G.s1 rfl (qm_x_if_eq_t ⟨by decide, by decide⟩ (by decide)) ?_
        refine qm_G.sp (lv1 := []) rfl rfl (qm_x_pushI (-2) rfl) ?_
        refine qm_G.ret rfl rfl ⟨_, rfl, ?_⟩
        refine qm_G.s1 rfl (qm_x_icmp_eq_t ⟨by decide, by decide⟩ ⟨by decide, by decide⟩ (by decide)) ?_
        exact ih _ _ _ _ _ _ hI.next
    · refine qm_G.s1 rfl (qm_x_if_eq_t ⟨by decide, by decide⟩ (by decide)) ?_
      refine qm_G.sp (lv1 := []) rfl rfl (qm_x_push) ?_
      refine qm_G.ret rfl rfl ⟨_, rfl, ?_⟩
      refine qm_G.s1 rfl (qm_x_astore (lv' := [(4, qm_R (none)), (0, qm_R (some (0, 0, 0))), (1, qm_I (qm_i a1)), (2, qm_I (qm_i 0)), (3, qm_I (qm_i a3))]) rfl) ?_
      refine qm_G.s1 rfl (qm_x_aload rfl) ?_
      refine qm_G.s1 rfl (qm_x_ifnull0) ?_
      refine qm_G.sp (lv1 := []) rfl rfl (qm_x_pushI (-1) rfl) ?_
      refine qm_G.ret rfl rfl ⟨_, rfl, ?_⟩
      refine qm_G.s1 rfl (qm_x_aload rfl) ?_
      refine qm_G.s1 rfl (qm_x_aload rfl) ?_
      refine qm_G.s1 rfl (qm_x_iload rfl) ?_
      refine qm_G.s1 rfl (qm_x_pushI 1 rfl) ?_
      refine qm_G.s1 rfl (qm_x_iadd) ?_
      refine qm_G.s1 rfl (qm_x_iald2v (v := a1) (by omega) (by omega) hX e1) ?_
      refine qm_G.s1 rfl (qm_x_aload rfl) ?_
      refine qm_G.s1 rfl (qm_x_iload rfl) ?_
      refine qm_G.s1 rfl (qm_x_pushI 2 rfl) ?_
      refine qm_G.s1 rfl (qm_x_iadd) ?_
      refine qm_G.s1 rfl (qm_x_iald2v (v := 0) (by omega) (by omega) hX e2) ?_
      refine qm_G.s1 rfl (qm_x_aload rfl) ?_
      refine qm_G.s1 rfl (qm_x_iload rfl) ?_
      refine qm_G.s1 rfl (qm_x_pushI 3 rfl) ?_
      refine qm_G.s1 rfl (qm_x_iadd) ?_
      refine qm_G.s1 rfl (qm_x_iald2v (v := a3) (by omega) (by omega) hX e3) ?_
      refine qm_G.cm rfl rfl (hS 61 rfl) rfl ?_
      refine qm_C.go (cd := qm_P151) (lv := [(0, qm_R (some (0, 61, 0))), (1, qm_I (qm_i a1)), (2, qm_I (qm_i 0)), (3, qm_I (qm_i a3))]) rfl rfl ?_
      refine qm_G.s1 rfl (qm_x_aload rfl) ?_
      refine qm_G.s1 rfl (qm_x_iload rfl) ?_
      refine qm_G.cm rfl rfl (hS 61 rfl) rfl ?_
      refine qm_C.go (cd := qm_P82) (lv := [(0, qm_R (some (0, 61, 0))), (1, qm_I (qm_i a1))]) rfl rfl ?_
      refine qm_G.s1 rfl (qm_x_iload rfl) ?_
      refine qm_G.s1 rfl (qm_x_pushI 0 rfl) ?_
      refine qm_G.s1 rfl (qm_x_aload rfl) ?_
      refine qm_G.s1 rfl (qm_x_getfR (q := (some (0, 62, 0))) (hS 61 rfl) (hR 61 0 62 rfl rfl)) ?_
      refine qm_G.s1 rfl (qm_x_pushI 7 rfl) ?_
      refine qm_G.s1 rfl (qm_x_iald (v := (J 62 0 7)) (qm_arS hS rfl rfl) rfl (by decide) (by decide) (by decide) rfl) ?_
      refine qm_G.s1 rfl (qm_x_pushI 1 rfl) ?_
      refine qm_G.s1 rfl (qm_x_isub) ?_
      refine qm_G.cs rfl rfl rfl ?_
      refine qm_v_within11_f ⟨by omega, by omega⟩ ⟨by decide, by decide⟩ ⟨by omega, by omega⟩ (by omega) ⟨_, rfl, ?_⟩
      refine qm_G.ret rfl rfl ⟨_, rfl, ?_⟩
      refine qm_G.s1 rfl (qm_x_if_eq_t ⟨by decide, by decide⟩ (by decide)) ?_
      refine qm_G.sp (lv1 := []) rfl rfl (qm_x_pushI (-1) rfl) ?_
      refine qm_G.ret rfl rfl ⟨_, rfl, ?_⟩
      refine qm_G.s1 rfl (qm_x_icmp_eq_t ⟨by decide, by decide⟩ ⟨by decide, by decide⟩ (by decide)) ?_
      exact ih _ _ _ _ _ _ hI.next
  · subst d1
    refine qm_G.sp (lv1 := [(0, qm_R (some (2, 0, 0))), (1, qm_R (some (0, 0, 0))), (2, qm_R (some (0, 61, 0))), (3, qm_I (qm_i z))]) rfl rfl (qm_x_aload rfl) ?_
    refine qm_G.s1 rfl (qm_x_aload rfl) ?_
    refine qm_G.s1 rfl (qm_x_iload rfl) ?_
    refine qm_G.s1 rfl (qm_x_pushI 1 rfl) ?_
    refine qm_G.s1 rfl (qm_x_iadd) ?_
    refine qm_G.s1 rfl (qm_x_iald2v (v := a1) (by omega) (by omega) hX e1) ?_
    refine qm_G.s1 rfl (qm_x_aload rfl) ?_
    refine qm_G.s1 rfl (qm_x_iload rfl) ?_
    refine qm_G.s1 rfl (qm_x_pushI 2 rfl) ?_
    refine qm_G.s1 rfl (qm_x_iadd) ?_
    refine qm_G.s1 rfl (qm_x_iald2v (v := 1) (by omega) (by omega) hX e2) ?_
    refine qm_G.s1 rfl (qm_x_aload rfl) ?_
    refine qm_G.s1 rfl (qm_x_iload rfl) ?_
    refine qm_G.s1 rfl (qm_x_pushI 3 rfl) ?_
    refine qm_G.s1 rfl (qm_x_iadd) ?_
    refine qm_G.s1 rfl (qm_x_iald2v (v := a3) (by omega) (by omega) hX e3) ?_
    refine qm_G.cm rfl rfl (hS 0 rfl) rfl ?_
    refine qm_C.go (cd := qm_P158) (lv := [(0, qm_R (some (0, 0, 0))), (1, qm_I (qm_i a1)), (2, qm_I (qm_i 1)), (3, qm_I (qm_i a3))]) rfl rfl ?_
    refine qm_G.s1 rfl (qm_x_aload rfl) ?_
    refine qm_G.s1 rfl (qm_x_getfR (q := (some (0, 1, 0))) (hS 0 rfl) (hR 0 0 1 rfl rfl)) ?_
    refine qm_G.s1 rfl (qm_x_getfR (q := (some (0, 2, 0))) (hS 1 rfl) (hR 1 0 2 rfl rfl)) ?_
    refine qm_G.s1 rfl (qm_x_iload rfl) ?_
    refine qm_G.cm rfl rfl (hS 2 rfl) rfl ?_
    refine qm_C.go (cd := qm_P93) (lv := [(0, qm_R (some (0, 2, 0))), (1, qm_I (qm_i a1))]) rfl rfl ?_
    refine qm_G.s1 rfl (qm_x_iload rfl) ?_
    refine qm_G.s1 rfl (qm_x_pushI 0 rfl) ?_
    refine qm_G.s1 rfl (qm_x_aload rfl) ?_
    have f62_7 : 0 ≤ J 62 0 7 ∧ J 62 0 7 ≤ 8 := hI.mk.rrc
    have f2_3 : J 2 0 3 = J 62 0 7 := hI.mk.rc
    refine qm_G.s1 rfl (qm_x_getfI (v := (J 2 0 3)) (hS 2 rfl) rfl) ?_
    refine qm_G.s1 rfl (qm_x_pushI 1 rfl) ?_
    refine qm_G.s1 rfl (qm_x_isub) ?_
    refine qm_G.cs rfl rfl rfl ?_
    refine qm_v_within10 ⟨by omega, by omega⟩ ⟨by decide, by decide⟩ ⟨by omega, by omega⟩ (fun c47 => ⟨_, rfl, ?_⟩) (fun c47 => ⟨_, rfl, ?_⟩)
    · refine qm_G.s1 rfl (qm_x_if_eq_f ⟨by decide, by decide⟩ (by decide)) ?_
      refine qm_G.s1 rfl (qm_x_aload rfl) ?_
      refine qm_G.s1 rfl (qm_x_getfR (q := (some (0, 7, 0))) (hS 2 rfl) (hR 2 2 7 rfl rfl)) ?_
      refine qm_G.s1 rfl (qm_x_iload rfl) ?_
      obtain ⟨q48, g49r, g49h, g49s, g49a, g49b, g49c, g49x, g49y, g49z⟩ := hI.mk.riv (Int.toNat a1) (by omega) (by omega)
      refine qm_G.s1 rfl (qm_x_aaldr (q := (some (0, q48, 0))) (hS 7 rfl) rfl rfl (by omega) (by omega) g49r) ?_
      refine qm_G.s1 rfl (qm_x_goto) ?_
      refine qm_G.ret rfl rfl ⟨_, rfl, ?_⟩
      refine qm_G.s1 rfl (qm_x_astore (lv' := [(4, qm_R (some (0, q48, 0))), (0, qm_R (some (0, 0, 0))), (1, qm_I (qm_i a1)), (2, qm_I (qm_i 1)), (3, qm_I (qm_i a3))]) rfl) ?_
      refine qm_G.s1 rfl (qm_x_aload rfl) ?_
      refine qm_G.s1 rfl (qm_x_ifnull1) ?_
      refine qm_G.s1 rfl (qm_x_iload rfl) ?_
      refine qm_G.cs rfl rfl rfl ?_
      refine qm_C.go (cd := qm_P18) (lv := [(0, qm_I (qm_i 1))]) rfl rfl ?_
      refine qm_G.s1 rfl (qm_x_iload rfl) ?_
      refine qm_G.s1 rfl (qm_x_if_eq_f ⟨by decide, by decide⟩ (by decide)) ?_
      refine qm_G.s1 rfl (qm_x_iload rfl) ?_
      refine qm_G.s1 rfl (qm_x_pushI 1 rfl) ?_
      refine qm_G.s1 rfl (qm_x_icmp_ne_f ⟨by decide, by decide⟩ ⟨by decide, by decide⟩ (by decide)) ?_
      refine qm_G.sp (lv1 := []) rfl rfl (qm_x_pushI 1 rfl) ?_
      refine qm_G.s1 rfl (qm_x_goto) ?_
      refine qm_G.ret rfl rfl ⟨_, rfl, ?_⟩
      refine qm_G.s1 rfl (qm_x_if_ne_t ⟨by decide, by decide⟩ (by decide)) ?_
      refine qm_G.sp (lv1 := [(2, qm_I (qm_i 1)), (3, qm_I (qm_i a3)), (4, qm_R (some (0, q48, 0)))]) rfl rfl (qm_x_iload rfl) ?_
      refine qm_G.cs rfl rfl rfl ?_
      refine qm_C.go (cd := qm_P72) (lv := [(0, qm_I (qm_i a3))]) rfl rfl ?_
      refine qm_G.s1 rfl (qm_x_iload rfl) ?_
      refine qm_G.s1 rfl (qm_x_pushI 0 rfl) ?_
      refine qm_G.s1 rfl (qm_x_pushI 5 rfl) ?_
      refine qm_G.cs rfl rfl rfl ?_
      refine qm_v_within10 ⟨by omega, by omega⟩ ⟨by decide, by decide⟩ ⟨by decide, by decide⟩ (fun c50 => ⟨_, rfl, ?_⟩) (fun c50 => ⟨_, rfl, ?_⟩)
      · refine qm_G.ret rfl rfl ⟨_, rfl, ?_⟩
        refine qm_G.s1 rfl (qm_x_if_ne_t ⟨by decide, by decide⟩ (by decide)) ?_
        refine qm_G.sp (lv1 := [(2, qm_I (qm_i 1)), (3, qm_I (qm_i a3)), (4, qm_R (some (0, q48, 0)))]) rfl rfl (qm_x_aload rfl) ?_
        refine qm_G.s1 rfl (qm_x_iload rfl) ?_
        refine qm_G.s1 rfl (qm_x_iload rfl) ?_
        refine qm_G.cm rfl rfl g49s rfl ?_
        refine qm_C.go (cd := qm_P112) (lv := [(0, qm_R (some (0, q48, 0))), (1, qm_I (qm_i 1)), (2, qm_I (qm_i a3))]) rfl rfl ?_
        refine qm_G.s1 rfl (qm_x_aload rfl) ?_
        refine qm_G.s1 rfl (qm_x_getfI (v := (J q48 0 0)) g49s rfl) ?_
        rcases (show J q48 0 0 = 0 ∨ J q48 0 0 = 1 ∨ J q48 0 0 = 2 ∨ (J q48 0 0 < 0 ∨ 3 ≤ J q48 0 0) by omega) with c51 | c51 | c51 | c51
        · refine qm_G.s1 rfl (qm_x_tsweq (v := 0) (t := 32) c51 rfl) ?_
          refine qm_G.sp (lv1 := [(0, qm_R (some (0, q48, 0))), (1, qm_I (qm_i 1))]) rfl rfl (qm_x_iload rfl) ?_
          refine qm_G.s1 rfl (qm_x_if_ne_t ⟨by decide, by decide⟩ (by decide)) ?_
          refine qm_G.sp (lv1 := [(0, qm_R (some (0, q48, 0)))]) rfl rfl (qm_x_aload rfl) ?_
          refine qm_G.s1 rfl (qm_x_getfI (v := (J q48 0 2)) g49s rfl) ?_
          refine qm_G.ret rfl rfl ⟨_, rfl, ?_⟩
          refine qm_G.ret rfl rfl ⟨_, rfl, ?_⟩
          refine qm_G.s1 rfl (qm_x_aload rfl) ?_
          refine qm_G.s1 rfl (qm_x_aload rfl) ?_
          refine qm_G.s1 rfl (qm_x_iload rfl) ?_
          refine qm_G.s1 rfl (qm_x_pushI 1 rfl) ?_
          refine qm_G.s1 rfl (qm_x_iadd) ?_
          refine qm_G.s1 rfl (qm_x_iald2v (v := a1) (by omega) (by omega) hX e1) ?_
          refine qm_G.s1 rfl (qm_x_aload rfl) ?_
          refine qm_G.s1 rfl (qm_x_iload rfl) ?_
          refine qm_G.s1 rfl (qm_x_pushI 2 rfl) ?_
          refine qm_G.s1 rfl (qm_x_iadd) ?_
          refine qm_G.s1 rfl (qm_x_iald2v (v := 1) (by omega) (by omega) hX e2) ?_
          refine qm_G.s1 rfl (qm_x_aload rfl) ?_
          refine qm_G.s1 rfl (qm_x_iload rfl) ?_
          refine qm_G.s1 rfl (qm_x_pushI 3 rfl) ?_
          refine qm_G.s1 rfl (qm_x_iadd) ?_
          refine qm_G.s1 rfl (qm_x_iald2v (v := a3) (by omega) (by omega) hX e3) ?_
          refine qm_G.cm rfl rfl (hS 61 rfl) rfl ?_
          refine qm_C.go (cd := qm_P151) (lv := [(0, qm_R (some (0, 61, 0))), (1, qm_I (qm_i a1)), (2, qm_I (qm_i 1)), (3, qm_I (qm_i a3))]) rfl rfl ?_
          refine qm_G.s1 rfl (qm_x_aload rfl) ?_
          refine qm_G.s1 rfl (qm_x_iload rfl) ?_
          refine qm_G.cm rfl rfl (hS 61 rfl) rfl ?_
          refine qm_C.go (cd := qm_P82) (lv := [(0, qm_R (some (0, 61, 0))), (1, qm_I (qm_i a1))]) rfl rfl ?_
          refine qm_G.s1 rfl (qm_x_iload rfl) ?_
          refine qm_G.s1 rfl (qm_x_pushI 0 rfl) ?_
          refine qm_G.s1 rfl (qm_x_aload rfl) ?_
          refine qm_G.s1 rfl (qm_x_getfR (q := (some (0, 62, 0))) (hS 61 rfl) (hR 61 0 62 rfl rfl)) ?_
          refine qm_G.s1 rfl (qm_x_pushI 7 rfl) ?_
          refine qm_G.s1 rfl (qm_x_iald (v := (J 62 0 7)) (qm_arS hS rfl rfl) rfl (by decide) (by decide) (by decide) rfl) ?_
          refine qm_G.s1 rfl (qm_x_pushI 1 rfl) ?_
          refine qm_G.s1 rfl (qm_x_isub) ?_
          refine qm_G.cs rfl rfl rfl ?_
          refine qm_v_within11_t ⟨by omega, by omega⟩ ⟨by decide, by decide⟩ ⟨by omega, by omega⟩ (by omega) ⟨_, rfl, ?_⟩
          refine qm_G.ret rfl rfl ⟨_, rfl, ?_⟩
          refine qm_G.s1 rfl (qm_x_if_eq_f ⟨by decide, by decide⟩ (by decide)) ?_
          refine qm_G.s1 rfl (qm_x_iload rfl) ?_
          refine qm_G.cs rfl rfl rfl ?_
          refine qm_C.go (cd := qm_P83) (lv := [(0, qm_I (qm_i 1))]) rfl rfl ?_
          refine qm_G.s1 rfl (qm_x_iload rfl) ?_
          refine qm_G.s1 rfl (qm_x_pushI 0 rfl) ?_
          refine qm_G.s1 rfl (qm_x_pushI 1 rfl) ?_
          refine qm_G.cs rfl rfl rfl ?_
          refine qm_v_within11_t ⟨by decide, by decide⟩ ⟨by decide, by decide⟩ ⟨by decide, by decide⟩ (by decide) ⟨_, rfl, ?_⟩
          refine qm_G.ret rfl rfl ⟨_, rfl, ?_⟩
          refine qm_G.s1 rfl (qm_x_if_ne_t ⟨by decide, by decide⟩ (by decide)) ?_
          refine qm_G.sp (lv1 := [(0, qm_R (some (0, 61, 0))), (1, qm_I (qm_i a1)), (2, qm_I (qm_i 1)), (3, qm_I (qm_i a3))]) rfl rfl (qm_x_iload rfl) ?_
          refine qm_G.s1 rfl (qm_x_pushI 0 rfl) ?_
          refine qm_G.s1 rfl (qm_x_pushI 5 rfl) ?_
          refine qm_G.cs rfl rfl rfl ?_
          refine qm_v_within11_t ⟨by omega, by omega⟩ ⟨by decide, by decide⟩ ⟨by decide, by decide⟩ (by omega) ⟨_, rfl, ?_⟩
          refine qm_G.s1 rfl (qm_x_if_eq_f ⟨by decide, by decide⟩ (by decide)) ?_
          refine qm_G.s1 rfl (qm_x_aload rfl) ?_
          refine qm_G.s1 rfl (qm_x_iload rfl) ?_
          refine qm_G.s1 rfl (qm_x_iload rfl) ?_
          refine qm_G.s1 rfl (qm_x_iload rfl) ?_
          refine qm_G.cm rfl rfl (hS 61 rfl) rfl ?_
          refine qm_C.go (cd := qm_P65) (lv := [(0, qm_R (some (0, 61, 0))), (1, qm_I (qm_i a1)), (2, qm_I (qm_i 1)), (3, qm_I (qm_i a3))]) rfl rfl ?_
          refine qm_G.s1 rfl (qm_x_aload rfl) ?_
          refine qm_G.s1 rfl (qm_x_getfR (q := (some (0, 62, 0))) (hS 61 rfl) (hR 61 0 62 rfl rfl)) ?_
          refine qm_G.s1 rfl (qm_x_pushI 26 rfl) ?_
          refine qm_G.s1 rfl (qm_x_pushI 3 rfl) ?_
          refine qm_G.s1 rfl (qm_x_iload rfl) ?_
          refine qm_G.s1 rfl (qm_x_imul) ?_
          refine qm_G.s1 rfl (qm_x_iadd) ?_
          refine qm_G.s1 rfl (qm_x_pushI 1 rfl) ?_
          refine qm_G.s1 rfl (qm_x_iadd) ?_
          refine qm_G.s1 rfl (qm_x_iald (v := (J 62 0 (27 + 3 * (Int.toNat a1)))) (qm_arS hS rfl rfl) rfl (by omega) (by omega) (by decide) (congrArg (J 62 0) (by omega))) ?_
          refine qm_G.s1 rfl (qm_x_istore (lv' := [(4, qm_I (qm_i (J 62 0 (27 + 3 * (Int.toNat a1))))), (0, qm_R (some (0, 61, 0))), (1, qm_I (qm_i a1)), (2, qm_I (qm_i 1)), (3, qm_I (qm_i a3))]) rfl) ?_
          refine qm_G.s1 rfl (qm_x_aload rfl) ?_
          refine qm_G.s1 rfl (qm_x_getfR (q := (some (0, 62, 0))) (hS 61 rfl) (hR 61 0 62 rfl rfl)) ?_
          refine qm_G.s1 rfl (qm_x_pushI 26 rfl) ?_
          refine qm_G.s1 rfl (qm_x_pushI 3 rfl) ?_
          refine qm_G.s1 rfl (qm_x_iload rfl) ?_
          refine qm_G.s1 rfl (qm_x_imul) ?_
          refine qm_G.s1 rfl (qm_x_iadd) ?_
          refine qm_G.s1 rfl (qm_x_iald (v := (J 62 0 (26 + 3 * (Int.toNat a1)))) (qm_arS hS rfl rfl) rfl (by omega) (by omega) (by decide) (congrArg (J 62 0) (by omega))) ?_
          refine qm_G.s1 rfl (qm_x_tsweq (v := 0) (t := 52) (by omega) rfl) ?_
          refine qm_G.sp (lv1 := [(0, qm_R (some (0, 61, 0))), (1, qm_I (qm_i a1)), (2, qm_I (qm_i 1))]) rfl rfl (qm_x_aload rfl) ?_
          refine qm_G.s1 rfl (qm_x_getfR (q := (some (0, 62, 0))) (hS 61 rfl) (hR 61 0 62 rfl rfl)) ?_
          refine qm_G.s1 rfl (qm_x_pushI 26 rfl) ?_
          refine qm_G.s1 rfl (qm_x_pushI 3 rfl) ?_
          refine qm_G.s1 rfl (qm_x_iload rfl) ?_
          refine qm_G.s1 rfl (qm_x_imul) ?_
          refine qm_G.s1 rfl (qm_x_iadd) ?_
          refine qm_G.s1 rfl (qm_x_pushI 1 rfl) ?_
          refine qm_G.s1 rfl (qm_x_iadd) ?_
          refine qm_G.s1 rfl (qm_x_iload rfl) ?_
          refine qm_G.s1 rfl (qm_x_iadd) ?_
          refine qm_G.s1 rfl (qm_x_iald (v := (J 62 0 (28 + 3 * (Int.toNat a1)))) (qm_arS hS rfl rfl) rfl (by omega) (by omega) (by decide) (congrArg (J 62 0) (by omega))) ?_
          refine qm_G.ret rfl rfl ⟨_, rfl, ?_⟩
          refine qm_G.s1 rfl (qm_x_goto) ?_
          refine qm_G.ret rfl rfl ⟨_, rfl, ?_⟩
          refine qm_G.s1 rfl (qm_x_icmp_eq_t ⟨by omega, by omega⟩ ⟨by omega, by omega⟩ (by omega)) ?_
          exact ih _ _ _ _ _ _ hI.next
        · refine qm_G.s1 rfl (qm_x_tsweq (v := 1) (t := 48) c51 rfl) ?_
          refine qm_G.sp (lv1 := [(2, qm_I (qm_i a3))]) rfl rfl (qm_x_iload rfl) ?_
          refine qm_G.cs rfl rfl rfl ?_
          refine qm_C.go (cd := qm_P67) (lv := [(0, qm_I (qm_i a3))]) rfl rfl ?_
          refine qm_G.s1 rfl (qm_x_pushI 0 rfl) ?_
          refine qm_G.s1 rfl (qm_x_iload rfl) ?_
          refine qm_G.s1 rfl (qm_x_pushI 1 rfl) ?_
          refine qm_G.s1 rfl (qm_x_isub) ?_
          refine qm_G.cs rfl rfl rfl ?_
          refine qm_C.go (cd := qm_P11) (lv := [(0, qm_I (qm_i 0)), (1, qm_I (qm_i (a3 - 1)))]) rfl rfl ?_
          refine qm_G.s1 rfl (qm_x_iload rfl) ?_
          refine qm_G.s1 rfl (qm_x_iload rfl) ?_
          refine qm_y_icmp_lt rfl ⟨by decide, by decide⟩ ⟨by omega, by omega⟩ (fun c56 => ?_) (fun c56 => ?_)
          · refine qm_G.sp (lv1 := [(1, qm_I (qm_i (a3 - 1)))]) rfl rfl (qm_x_iload rfl) ?_
            refine qm_G.ret rfl rfl ⟨_, rfl, ?_⟩
            refine qm_G.ret rfl rfl ⟨_, rfl, ?_⟩
            refine qm_G.ret rfl rfl ⟨_, rfl, ?_⟩
            refine qm_G.ret rfl rfl ⟨_, rfl, ?_⟩
            refine qm_G.s1 rfl (qm_x_aload rfl) ?_
            refine qm_G.s1 rfl (qm_x_aload rfl) ?_
            refine qm_G.s1 rfl (qm_x_iload rfl) ?_
            refine qm_G.s1 rfl (qm_x_pushI 1 rfl) ?_
            refine qm_G.s1 rfl (qm_x_iadd) ?_
            refine qm_G.s1 rfl (qm_x_iald2v (v := a1) (by omega) (by omega) hX e1) ?_
            refine qm_G.s1 rfl (qm_x_aload rfl) ?_
            refine qm_G.s1 rfl (qm_x_iload rfl) ?_
            refine qm_G.s1 rfl (qm_x_pushI 2 rfl) ?_
            refine qm_G.s1 rfl (qm_x_iadd) ?_
            refine qm_G.s1 rfl (qm_x_iald2v (v := 1) (by omega) (by omega) hX e2) ?_
            refine qm_G.s1 rfl (qm_x_aload rfl) ?_
            refine qm_G.s1 rfl (qm_x_iload rfl) ?_
            refine qm_G.s1 rfl (qm_x_pushI 3 rfl) ?_
            refine qm_G.s1 rfl (qm_x_iadd) ?_
            refine qm_G.s1 rfl (qm_x_iald2v (v := a3) (by omega) (by omega) hX e3) ?_
            refine qm_G.cm rfl rfl (hS 61 rfl) rfl ?_
            refine qm_C.go (cd := qm_P151) (lv := [(0, qm_R (some (0, 61, 0))), (1, qm_I (qm_i a1)), (2, qm_I (qm_i 1)), (3, qm_I (qm_i a3))]) rfl rfl ?_
            refine qm_G.s1 rfl (qm_x_aload rfl) ?_
            refine qm_G.s1 rfl (qm_x_iload rfl) ?_
            refine qm_G.cm rfl rfl (hS 61 rfl) rfl ?_
            refine qm_C.go (cd := qm_P82) (lv := [(0, qm_R (some (0, 61, 0))), (1, qm_I (qm_i a1))]) rfl rfl ?_
            refine qm_G.s1 rfl (qm_x_iload rfl) ?_
            refine qm_G.s1 rfl (qm_x_pushI 0 rfl) ?_
            refine qm_G.s1 rfl (qm_x_aload rfl) ?_
            refine qm_G.s1 rfl (qm_x_getfR (q := (some (0, 62, 0))) (hS 61 rfl) (hR 61 0 62 rfl rfl)) ?_
            refine qm_G.s1 rfl (qm_x_pushI 7 rfl) ?_
            refine qm_G.s1 rfl (qm_x_iald (v := (J 62 0 7)) (qm_arS hS rfl rfl) rfl (by decide) (by decide) (by decide) rfl) ?_
            refine qm_G.s1 rfl (qm_x_pushI 1 rfl) ?_
            refine qm_G.s1 rfl (qm_x_isub) ?_
            refine qm_G.cs rfl rfl rfl ?_
            refine qm_v_within11_t ⟨by omega, by omega⟩ ⟨by decide, by decide⟩ ⟨by omega, by omega⟩ (by omega) ⟨_, rfl, ?_⟩
            refine qm_G.ret rfl rfl ⟨_, rfl, ?_⟩
            refine qm_G.s1 rfl (qm_x_if_eq_f ⟨by decide, by decide⟩ (by decide)) ?_
            refine qm_G.s1 rfl (qm_x_iload rfl) ?_
            refine qm_G.cs rfl rfl rfl ?_
            refine qm_C.go (cd := qm_P83) (lv := [(0, qm_I (qm_i 1))]) rfl rfl ?_
            refine qm_G.s1 rfl (qm_x_iload rfl) ?_
            refine qm_G.s1 rfl (qm_x_pushI 0 rfl) ?_
            refine qm_G.s1 rfl (qm_x_pushI 1 rfl) ?_
            refine qm_G.cs rfl rfl rfl ?_
            refine qm_v_within11_t ⟨by decide, by decide⟩ ⟨by decide, by decide⟩ ⟨by decide, by decide⟩ (by decide) ⟨_, rfl, ?_⟩
            refine qm_G.ret rfl rfl ⟨_, rfl, ?_⟩
            refine qm_G.s1 rfl (qm_x_if_ne_t ⟨by decide, by decide⟩ (by decide)) ?_
            refine qm_G.sp (lv1 := [(0, qm_R (some (0, 61, 0))), (1, qm_I (qm_i a1)), (2, qm_I (qm_i 1)), (3, qm_I (qm_i a3))]) rfl rfl (qm_x_iload rfl) ?_
            refine qm_G.s1 rfl (qm_x_pushI 0 rfl) ?_
            refine qm_G.s1 rfl (qm_x_pushI 5 rfl) ?_
            refine qm_G.cs rfl rfl rfl ?_
            refine qm_v_within11_t ⟨by omega, by omega⟩ ⟨by decide, by decide⟩ ⟨by decide, by decide⟩ (by omega) ⟨_, rfl, ?_⟩
            refine qm_G.s1 rfl (qm_x_if_eq_f ⟨by decide, by decide⟩ (by decide)) ?_
            refine qm_G.s1 rfl (qm_x_aload rfl) ?_
            refine qm_G.s1 rfl (qm_x_iload rfl) ?_
            refine qm_G.s1 rfl (qm_x_iload rfl) ?_
            refine qm_G.s1 rfl (qm_x_iload rfl) ?_
            refine qm_G.cm rfl rfl (hS 61 rfl) rfl ?_
            refine qm_C.go (cd := qm_P65) (lv := [(0, qm_R (some (0, 61, 0))), (1, qm_I (qm_i a1)), (2, qm_I (qm_i 1)), (3, qm_I (qm_i a3))]) rfl rfl ?_
            refine qm_G.s1 rfl (qm_x_aload rfl) ?_
            refine qm_G.s1 rfl (qm_x_getfR (q := (some (0, 62, 0))) (hS 61 rfl) (hR 61 0 62 rfl rfl)) ?_
            refine qm_G.s1 rfl (qm_x_pushI 26 rfl) ?_
            refine qm_G.s1 rfl (qm_x_pushI 3 rfl) ?_
            refine qm_G.s1 rfl (qm_x_iload rfl) ?_
            refine qm_G.s1 rfl (qm_x_imul) ?_
            refine qm_G.s1 rfl (qm_x_iadd) ?_
            refine qm_G.s1 rfl (qm_x_pushI 1 rfl) ?_
            refine qm_G.s1 rfl (qm_x_iadd) ?_
            refine qm_G.s1 rfl (qm_x_iald (v := (J 62 0 (27 + 3 * (Int.toNat a1)))) (qm_arS hS rfl rfl) rfl (by omega) (by omega) (by decide) (congrArg (J 62 0) (by omega))) ?_
            refine qm_G.s1 rfl (qm_x_istore (lv' := [(4, qm_I (qm_i (J 62 0 (27 + 3 * (Int.toNat a1))))), (0, qm_R (some (0, 61, 0))), (1, qm_I (qm_i a1)), (2, qm_I (qm_i 1)), (3, qm_I (qm_i a3))]) rfl) ?_
            refine qm_G.s1 rfl (qm_x_aload rfl) ?_
            refine qm_G.s1 rfl (qm_x_getfR (q := (some (0, 62, 0))) (hS 61 rfl) (hR 61 0 62 rfl rfl)) ?_
            refine qm_G.s1 rfl (qm_x_pushI 26 rfl) ?_
            refine qm_G.s1 rfl (qm_x_pushI 3 rfl) ?_
            refine qm_G.s1 rfl (qm_x_iload rfl) ?_
            refine qm_G.s1 rfl (qm_x_imul) ?_
            refine qm_G.s1 rfl (qm_x_iadd) ?_
            refine qm_G.s1 rfl (qm_x_iald (v := (J 62 0 (26 + 3 * (Int.toNat a1)))) (qm_arS hS rfl rfl) rfl (by omega) (by omega) (by decide) (congrArg (J 62 0) (by omega))) ?_
            refine qm_G.s1 rfl (qm_x_tsweq (v := 1) (t := 68) (by omega) rfl) ?_
            refine qm_G.sp (lv1 := [(3, qm_I (qm_i a3))]) rfl rfl (qm_x_pushI 0 rfl) ?_
            refine qm_G.s1 rfl (qm_x_iload rfl) ?_
            refine qm_G.s1 rfl (qm_x_pushI 1 rfl) ?_
            refine qm_G.s1 rfl (qm_x_isub) ?_
            refine qm_G.cs rfl rfl rfl ?_
            refine qm_C.go (cd := qm_P11) (lv := [(0, qm_I (qm_i 0)), (1, qm_I (qm_i (a3 - 1)))]) rfl rfl ?_
            refine qm_G.s1 rfl (qm_x_iload rfl) ?_
            refine qm_G.s1 rfl (qm_x_iload rfl) ?_
            refine qm_G.s1 rfl (qm_x_icmp_lt_t ⟨by decide, by decide⟩ ⟨by omega, by omega⟩ (by omega)) ?_
            refine qm_G.sp (lv1 := [(1, qm_I (qm_i (a3 - 1)))]) rfl rfl (qm_x_iload rfl) ?_
            refine qm_G.ret rfl rfl ⟨_, rfl, ?_⟩
            refine qm_G.ret rfl rfl ⟨_, rfl, ?_⟩
            refine qm_G.s1 rfl (qm_x_goto) ?_
            refine qm_G.ret rfl rfl ⟨_, rfl, ?_⟩
            refine qm_G.s1 rfl (qm_x_icmp_eq_t ⟨by omega, by omega⟩ ⟨by omega, by omega⟩ (by omega)) ?_
            exact ih _ _ _ _ _ _ hI.next
          · refine qm_G.s1 rfl (qm_x_iload rfl) ?_
            refine qm_G.s1 rfl (qm_x_goto) ?_
            refine qm_G.ret rfl rfl ⟨_, rfl, ?_⟩
            refine qm_G.ret rfl rfl ⟨_, rfl, ?_⟩
            refine qm_G.ret rfl rfl ⟨_, rfl, ?_⟩
            refine qm_G.ret rfl rfl ⟨_, rfl, ?_⟩
            refine qm_G.s1 rfl (qm_x_aload rfl) ?_
            refine qm_G.s1 rfl (qm_x_aload rfl) ?_
            refine qm_G.s1 rfl (qm_x_iload rfl) ?_
            refine qm_G.s1 rfl (qm_x_pushI 1 rfl) ?_
            refine qm_G.s1 rfl (qm_x_iadd) ?_
            refine qm_G.s1 rfl (qm_x_iald2v (v := a1) (by omega) (by omega) hX e1) ?_
            refine qm_G.s1 rfl (qm_x_aload rfl) ?_
            refine qm_G.s1 rfl (qm_x_iload rfl) ?_
            refine qm_G.s1 rfl (qm_x_pushI 2 rfl) ?_
            refine qm_G.s1 rfl (qm_x_iadd) ?_
            refine qm_G.s1 rfl (qm_x_iald2v (v := 1) (by omega) (by omega) hX e2) ?_
            refine qm_G.s1 rfl (qm_x_aload rfl) ?_
            refine qm_G.s1 rfl (qm_x_iload rfl) ?_
            refine qm_G.s1 rfl (qm_x_pushI 3 rfl) ?_
            refine qm_G.s1 rfl (qm_x_iadd) ?_
            refine qm_G.s1 rfl (qm_x_iald2v (v := a3) (by omega) (by omega) hX e3) ?_
            refine qm_G.cm rfl rfl (hS 61 rfl) rfl ?_
            refine qm_C.go (cd := qm_P151) (lv := [(0, qm_R (some (0, 61, 0))), (1, qm_I (qm_i a1)), (2, qm_I (qm_i 1)), (3, qm_I (qm_i a3))]) rfl rfl ?_
            refine qm_G.s1 rfl (qm_x_aload rfl) ?_
            refine qm_G.s1 rfl (qm_x_iload rfl) ?_
            refine qm_G.cm rfl rfl (hS 61 rfl) rfl ?_
            refine qm_C.go (cd := qm_P82) (lv := [(0, qm_R (some (0, 61, 0))), (1, qm_I (qm_i a1))]) rfl rfl ?_
            refine qm_G.s1 rfl (qm_x_iload rfl) ?_
            refine qm_G.s1 rfl (qm_x_pushI 0 rfl) ?_
            refine qm_G.s1 rfl (qm_x_aload rfl) ?_
            refine qm_G.s1 rfl (qm_x_getfR (q := (some (0, 62, 0))) (hS 61 rfl) (hR 61 0 62 rfl rfl)) ?_
            refine qm_G.s1 rfl (qm_x_pushI 7 rfl) ?_
            refine qm_G.s1 rfl (qm_x_iald (v := (J 62 0 7)) (qm_arS hS rfl rfl) rfl (by decide) (by decide) (by decide) rfl) ?_
            refine qm_G.s1 rfl (qm_x_pushI 1 rfl) ?_
            refine qm_G.s1 rfl (qm_x_isub) ?_
            refine qm_G.cs rfl rfl rfl ?_
            refine qm_v_within11_t ⟨by omega, by omega⟩ ⟨by decide, by decide⟩ ⟨by omega, by omega⟩ (by omega) ⟨_, rfl, ?_⟩
            refine qm_G.ret rfl rfl ⟨_, rfl, ?_⟩
            refine qm_G.s1 rfl (qm_x_if_eq_f ⟨by decide, by decide⟩ (by decide)) ?_
            refine qm_G.s1 rfl (qm_x_iload rfl) ?_
            refine qm_G.cs rfl rfl rfl ?_
            refine qm_C.go (cd := qm_P83) (lv := [(0, qm_I (qm_i 1))]) rfl rfl ?_
            refine qm_G.s1 rfl (qm_x_iload rfl) ?_
            refine qm_G.s1 rfl (qm_x_pushI 0 rfl) ?_
            refine qm_G.s1 rfl (qm_x_pushI 1 rfl) ?_
            refine qm_G.cs rfl rfl rfl ?_
            refine qm_v_within11_t ⟨by decide, by decide⟩ ⟨by decide, by decide⟩ ⟨by decide, by decide⟩ (by decide) ⟨_, rfl, ?_⟩
            refine qm_G.ret rfl rfl ⟨_, rfl, ?_⟩
            refine qm_G.s1 rfl (qm_x_if_ne_t ⟨by decide, by decide⟩ (by decide)) ?_
            refine qm_G.sp (lv1 := [(0, qm_R (some (0, 61, 0))), (1, qm_I (qm_i a1)), (2, qm_I (qm_i 1)), (3, qm_I (qm_i a3))]) rfl rfl (qm_x_iload rfl) ?_
            refine qm_G.s1 rfl (qm_x_pushI 0 rfl) ?_
            refine qm_G.s1 rfl (qm_x_pushI 5 rfl) ?_
            refine qm_G.cs rfl rfl rfl ?_
            refine qm_v_within11_t ⟨by omega, by omega⟩ ⟨by decide, by decide⟩ ⟨by decide, by decide⟩ (by omega) ⟨_, rfl, ?_⟩
            refine qm_G.s1 rfl (qm_x_if_eq_f ⟨by decide, by decide⟩ (by decide)) ?_
            refine qm_G.s1 rfl (qm_x_aload rfl) ?_
            refine qm_G.s1 rfl (qm_x_iload rfl) ?_
            refine qm_G.s1 rfl (qm_x_iload rfl) ?_
            refine qm_G.s1 rfl (qm_x_iload rfl) ?_
            refine qm_G.cm rfl rfl (hS 61 rfl) rfl ?_
            refine qm_C.go (cd := qm_P65) (lv := [(0, qm_R (some (0, 61, 0))), (1, qm_I (qm_i a1)), (2, qm_I (qm_i 1)), (3, qm_I (qm_i a3))]) rfl rfl ?_
            refine qm_G.s1 rfl (qm_x_aload rfl) ?_
            refine qm_G.s1 rfl (qm_x_getfR (q := (some (0, 62, 0))) (hS 61 rfl) (hR 61 0 62 rfl rfl)) ?_
            refine qm_G.s1 rfl (qm_x_pushI 26 rfl) ?_
            refine qm_G.s1 rfl (qm_x_pushI 3 rfl) ?_
            refine qm_G.s1 rfl (qm_x_iload rfl) ?_
            refine qm_G.s1 rfl (qm_x_imul) ?_
            refine qm_G.s1 rfl (qm_x_iadd) ?_
            refine qm_G.s1 rfl (qm_x_pushI 1 rfl) ?_
            refine qm_G.s1 rfl (qm_x_iadd) ?_
            refine qm_G.s1 rfl (qm_x_iald (v := (J 62 0 (27 + 3 * (Int.toNat a1)))) (qm_arS hS rfl rfl) rfl (by omega) (by omega) (by decide) (congrArg (J 62 0) (by omega))) ?_
            refine qm_G.s1 rfl (qm_x_istore (lv' := [(4, qm_I (qm_i (J 62 0 (27 + 3 * (Int.toNat a1))))), (0, qm_R (some (0, 61, 0))), (1, qm_I (qm_i a1)), (2, qm_I (qm_i 1)), (3, qm_I (qm_i a3))]) rfl) ?_
            refine qm_G.s1 rfl (qm_x_aload rfl) ?_
            refine qm_G.s1 rfl (qm_x_getfR (q := (some (0, 62, 0))) (hS 61 rfl) (hR 61 0 62 rfl rfl)) ?_
            refine qm_G.s1 rfl (qm_x_pushI 26 rfl) ?_
            refine qm_G.s1 rfl (qm_x_pushI 3 rfl) ?_
            refine qm_G.s1 rfl (qm_x_iload rfl) ?_
            refine qm_G.s1 rfl (qm_x_imul) ?_
            refine qm_G.s1 rfl (qm_x_iadd) ?_
            refine qm_G.s1 rfl (qm_x_iald (v := (J 62 0 (26 + 3 * (Int.toNat a1)))) (qm_arS hS rfl rfl) rfl (by omega) (by omega) (by decide) (congrArg (J 62 0) (by omega))) ?_
            refine qm_G.s1 rfl (qm_x_tsweq (v := 1) (t := 68) (by omega) rfl) ?_
            refine qm_G.sp (lv1 := [(3, qm_I (qm_i a3))]) rfl rfl (qm_x_pushI 0 rfl) ?_
            refine qm_G.s1 rfl (qm_x_iload rfl) ?_
            refine qm_G.s1 rfl (qm_x_pushI 1 rfl) ?_
            refine qm_G.s1 rfl (qm_x_isub) ?_
            refine qm_G.cs rfl rfl rfl ?_
            refine qm_C.go (cd := qm_P11) (lv := [(0, qm_I (qm_i 0)), (1, qm_I (qm_i (a3 - 1)))]) rfl rfl ?_
            refine qm_G.s1 rfl (qm_x_iload rfl) ?_
            refine qm_G.s1 rfl (qm_x_iload rfl) ?_
            refine qm_G.s1 rfl (qm_x_icmp_lt_f ⟨by decide, by decide⟩ ⟨by omega, by omega⟩ (by omega)) ?_
            refine qm_G.s1 rfl (qm_x_iload rfl) ?_
            refine qm_G.s1 rfl (qm_x_goto) ?_
            refine qm_G.ret rfl rfl ⟨_, rfl, ?_⟩
            refine qm_G.ret rfl rfl ⟨_, rfl, ?_⟩
            refine qm_G.s1 rfl (qm_x_goto) ?_
            refine qm_G.ret rfl rfl ⟨_, rfl, ?_⟩
            refine qm_G.s1 rfl (qm_x_icmp_eq_t ⟨by decide, by decide⟩ ⟨by decide, by decide⟩ (by decide)) ?_
            exact ih _ _ _ _ _ _ hI.next
        · refine qm_G.s1 rfl (qm_x_tsweq (v := 2) (t := 53) c51 rfl) ?_
          refine qm_G.sp (lv1 := [(2, qm_I (qm_i a3))]) rfl rfl (qm_x_pushI 6 rfl) ?_
          refine qm_G.s1 rfl (qm_x_iload rfl) ?_
          refine qm_G.s1 rfl (qm_x_pushI 1 rfl) ?_
          refine qm_G.s1 rfl (qm_x_iadd) ?_
          refine qm_G.cs rfl rfl rfl ?_
          refine qm_C.go (cd := qm_P12) (lv := [(0, qm_I (qm_i 6)), (1, qm_I (qm_i (a3 + 1)))]) rfl rfl ?_
          refine qm_G.s1 rfl (qm_x_iload rfl) ?_
          refine qm_G.s1 rfl (qm_x_iload rfl) ?_
          refine qm_y_icmp_gt rfl ⟨by decide, by decide⟩ ⟨by omega, by omega⟩ (fun c65 => ?_) (fun c65 => ?_)
          · refine qm_G.sp (lv1 := [(1, qm_I (qm_i (a3 + 1)))]) rfl rfl (qm_x_iload rfl) ?_
            refine qm_G.ret rfl rfl ⟨_, rfl, ?_⟩
            refine qm_G.ret rfl rfl ⟨_, rfl, ?_⟩
            refine qm_G.ret rfl rfl ⟨_, rfl, ?_⟩
            refine qm_G.s1 rfl (qm_x_aload rfl) ?_
            refine qm_G.s1 rfl (qm_x_aload rfl) ?_
            refine qm_G.s1 rfl (qm_x_iload rfl) ?_
            refine qm_G.s1 rfl (qm_x_pushI 1 rfl) ?_
            refine qm_G.s1 rfl (qm_x_iadd) ?_
            refine qm_G.s1 rfl (qm_x_iald2v (v := a1) (by omega) (by omega) hX e1) ?_
            refine qm_G.s1 rfl (qm_x_aload rfl) ?_
            refine qm_G.s1 rfl (qm_x_iload rfl) ?_
            refine qm_G.s1 rfl (qm_x_pushI 2 rfl) ?_
            refine qm_G.s1 rfl (qm_x_iadd) ?_
            refine qm_G.s1 rfl (qm_x_iald2v (v := 1) (by omega) (by omega) hX e2) ?_
            refine qm_G.s1 rfl (qm_x_aload rfl) ?_
            refine qm_G.s1 rfl (qm_x_iload rfl) ?_
            refine qm_G.s1 rfl (qm_x_pushI 3 rfl) ?_
            refine qm_G.s1 rfl (qm_x_iadd) ?_
            refine qm_G.s1 rfl (qm_x_iald2v (v := a3) (by omega) (by omega) hX e3) ?_
            refine qm_G.cm rfl rfl (hS 61 rfl) rfl ?_
            refine qm_C.go (cd := qm_P151) (lv := [(0, qm_R (some (0, 61, 0))), (1, qm_I (qm_i a1)), (2, qm_I (qm_i 1)), (3, qm_I (qm_i a3))]) rfl rfl ?_
            refine qm_G.s1 rfl (qm_x_aload rfl) ?_
            refine qm_G.s1 rfl (qm_x_iload rfl) ?_
            refine qm_G.cm rfl rfl (hS 61 rfl) rfl ?_
            refine qm_C.go (cd := qm_P82) (lv := [(0, qm_R (some (0, 61, 0))), (1, qm_I (qm_i a1))]) rfl rfl ?_
            refine qm_G.s1 rfl (qm_x_iload rfl) ?_
            refine qm_G.s1 rfl (qm_x_pushI 0 rfl) ?_
            refine qm_G.s1 rfl (qm_x_aload rfl) ?_
            refine qm_G.s1 rfl (qm_x_getfR (q := (some (0, 62, 0))) (hS 61 rfl) (hR 61 0 62 rfl rfl)) ?_
            refine qm_G.s1 rfl (qm_x_pushI 7 rfl) ?_
            refine qm_G.s1 rfl (qm_x_iald (v := (J 62 0 7)) (qm_arS hS rfl rfl) rfl (by decide) (by decide) (by decide) rfl) ?_
            refine qm_G.s1 rfl (qm_x_pushI 1 rfl) ?_
            refine qm_G.s1 rfl (qm_x_isub) ?_
            refine qm_G.cs rfl rfl rfl ?_
            refine qm_v_within11_t ⟨by omega, by omega⟩ ⟨by decide, by decide⟩ ⟨by omega, by omega⟩ (by omega) ⟨_, rfl, ?_⟩
            refine qm_G.ret rfl rfl ⟨_, rfl, ?_⟩
            refine qm_G.s1 rfl (qm_x_if_eq_f ⟨by decide, by decide⟩ (by decide)) ?_
            refine qm_G.s1 rfl (qm_x_iload rfl) ?_
            refine qm_G.cs rfl rfl rfl ?_
            refine qm_C.go (cd := qm_P83) (lv := [(0, qm_I (qm_i 1))]) rfl rfl ?_
            refine qm_G.s1 rfl (qm_x_iload rfl) ?_
            refine qm_G.s1 rfl (qm_x_pushI 0 rfl) ?_
            refine qm_G.s1 rfl (qm_x_pushI 1 rfl) ?_
            refine qm_G.cs rfl rfl rfl ?_
            refine qm_v_within11_t ⟨by decide, by decide⟩ ⟨by decide, by decide⟩ ⟨by decide, by decide⟩ (by decide) ⟨_, rfl, ?_⟩
            refine qm_G.ret rfl rfl ⟨_, rfl, ?_⟩
            refine qm_G.s1 rfl (qm_x_if_ne_t ⟨by decide, by decide⟩ (by decide)) ?_
            refine qm_G.sp (lv1 := [(0, qm_R (some (0, 61, 0))), (1, qm_I (qm_i a1)), (2, qm_I (qm_i 1)), (3, qm_I (qm_i a3))]) rfl rfl (qm_x_iload rfl) ?_
            refine qm_G.s1 rfl (qm_x_pushI 0 rfl) ?_
            refine qm_G.s1 rfl (qm_x_pushI 5 rfl) ?_
            refine qm_G.cs rfl rfl rfl ?_
            refine qm_v_within11_t ⟨by omega, by omega⟩ ⟨by decide, by decide⟩ ⟨by decide, by decide⟩ (by omega) ⟨_, rfl, ?_⟩
            refine qm_G.s1 rfl (qm_x_if_eq_f ⟨by decide, by decide⟩ (by decide)) ?_
            refine qm_G.s1 rfl (qm_x_aload rfl) ?_
            refine qm_G.s1 rfl (qm_x_iload rfl) ?_
            refine qm_G.s1 rfl (qm_x_iload rfl) ?_
            refine qm_G.s1 rfl (qm_x_iload rfl) ?_
            refine qm_G.cm rfl rfl (hS 61 rfl) rfl ?_
            refine qm_C.go (cd := qm_P65) (lv := [(0, qm_R (some (0, 61, 0))), (1, qm_I (qm_i a1)), (2, qm_I (qm_i 1)), (3, qm_I (qm_i a3))]) rfl rfl ?_
            refine qm_G.s1 rfl (qm_x_aload rfl) ?_
            refine qm_G.s1 rfl (qm_x_getfR (q := (some (0, 62, 0))) (hS 61 rfl) (hR 61 0 62 rfl rfl)) ?_
            refine qm_G.s1 rfl (qm_x_pushI 26 rfl) ?_
            refine qm_G.s1 rfl (qm_x_pushI 3 rfl) ?_
            refine qm_G.s1 rfl (qm_x_iload rfl) ?_
            refine qm_G.s1 rfl (qm_x_imul) ?_
            refine qm_G.s1 rfl (qm_x_iadd) ?_
            refine qm_G.s1 rfl (qm_x_pushI 1 rfl) ?_
            refine qm_G.s1 rfl (qm_x_iadd) ?_
            refine qm_G.s1 rfl (qm_x_iald (v := (J 62 0 (27 + 3 * (Int.toNat a1)))) (qm_arS hS rfl rfl) rfl (by omega) (by omega) (by decide) (congrArg (J 62 0) (by omega))) ?_
            refine qm_G.s1 rfl (qm_x_istore (lv' := [(4, qm_I (qm_i (J 62 0 (27 + 3 * (Int.toNat a1))))), (0, qm_R (some (0, 61, 0))), (1, qm_I (qm_i a1)), (2, qm_I (qm_i 1)), (3, qm_I (qm_i a3))]) rfl) ?_
            refine qm_G.s1 rfl (qm_x_aload rfl) ?_
            refine qm_G.s1 rfl (qm_x_getfR (q := (some (0, 62, 0))) (hS 61 rfl) (hR 61 0 62 rfl rfl)) ?_
            refine qm_G.s1 rfl (qm_x_pushI 26 rfl) ?_
            refine qm_G.s1 rfl (qm_x_pushI 3 rfl) ?_
            refine qm_G.s1 rfl (qm_x_iload rfl) ?_
            refine qm_G.s1 rfl (qm_x_imul) ?_
            refine qm_G.s1 rfl (qm_x_iadd) ?_
            refine qm_G.s1 rfl (qm_x_iald (v := (J 62 0 (26 + 3 * (Int.toNat a1)))) (qm_arS hS rfl rfl) rfl (by omega) (by omega) (by decide) (congrArg (J 62 0) (by omega))) ?_
            refine qm_G.s1 rfl (qm_x_tsweq (v := 2) (t := 76) (by omega) rfl) ?_
            refine qm_G.sp (lv1 := [(3, qm_I (qm_i a3))]) rfl rfl (qm_x_pushI 6 rfl) ?_
            refine qm_G.s1 rfl (qm_x_iload rfl) ?_
            refine qm_G.s1 rfl (qm_x_pushI 1 rfl) ?_
            refine qm_G.s1 rfl (qm_x_iadd) ?_
            refine qm_G.cs rfl rfl rfl ?_
            refine qm_C.go (cd := qm_P12) (lv := [(0, qm_I (qm_i 6)), (1, qm_I (qm_i (a3 + 1)))]) rfl rfl ?_
            refine qm_G.s1 rfl (qm_x_iload rfl) ?_
            refine qm_G.s1 rfl (qm_x_iload rfl) ?_
            refine qm_G.s1 rfl (qm_x_icmp_gt_t ⟨by decide, by decide⟩ ⟨by omega, by omega⟩ (by omega)) ?_
            refine qm_G.sp (lv1 := [(1, qm_I (qm_i (a3 + 1)))]) rfl rfl (qm_x_iload rfl) ?_
            refine qm_G.ret rfl rfl ⟨_, rfl, ?_⟩
            refine qm_G.ret rfl rfl ⟨_, rfl, ?_⟩
            refine qm_G.s1 rfl (qm_x_goto) ?_
            refine qm_G.ret rfl rfl ⟨_, rfl, ?_⟩
            refine qm_G.s1 rfl (qm_x_icmp_eq_t ⟨by omega, by omega⟩ ⟨by omega, by omega⟩ (by omega)) ?_
            exact ih _ _ _ _ _ _ hI.next
          · refine qm_G.s1 rfl (qm_x_iload rfl) ?_
            refine qm_G.s1 rfl (qm_x_goto) ?_
            refine qm_G.ret rfl rfl ⟨_, rfl, ?_⟩
            refine qm_G.ret rfl rfl ⟨_, rfl, ?_⟩
            refine qm_G.ret rfl rfl ⟨_, rfl, ?_⟩
            refine qm_G.s1 rfl (qm_x_aload rfl) ?_
            refine qm_G.s1 rfl (qm_x_aload rfl) ?_
            refine qm_G.s1 rfl (qm_x_iload rfl) ?_
            refine qm_G.s1 rfl (qm_x_pushI 1 rfl) ?_
            refine qm_G.s1 rfl (qm_x_iadd) ?_
            refine qm_G.s1 rfl (qm_x_iald2v (v := a1) (by omega) (by omega) hX e1) ?_
            refine qm_G.s1 rfl (qm_x_aload rfl) ?_
            refine qm_G.s1 rfl (qm_x_iload rfl) ?_
            refine qm_G.s1 rfl (qm_x_pushI 2 rfl) ?_
            refine qm_G.s1 rfl (qm_x_iadd) ?_
            refine qm_G.s1 rfl (qm_x_iald2v (v := 1) (by omega) (by omega) hX e2) ?_
            refine qm_G.s1 rfl (qm_x_aload rfl) ?_
            refine qm_G.s1 rfl (qm_x_iload rfl) ?_
            refine qm_G.s1 rfl (qm_x_pushI 3 rfl) ?_
            refine qm_G.s1 rfl (qm_x_iadd) ?_
            refine qm_G.s1 rfl (qm_x_iald2v (v := a3) (by omega) (by omega) hX e3) ?_
            refine qm_G.cm rfl rfl (hS 61 rfl) rfl ?_
            refine qm_C.go (cd := qm_P151) (lv := [(0, qm_R (some (0, 61, 0))), (1, qm_I (qm_i a1)), (2, qm_I (qm_i 1)), (3, qm_I (qm_i a3))]) rfl rfl ?_
            refine qm_G.s1 rfl (qm_x_aload rfl) ?_
            refine qm_G.s1 rfl (qm_x_iload rfl) ?_
            refine qm_G.cm rfl rfl (hS 61 rfl) rfl ?_
            refine qm_C.go (cd := qm_P82) (lv := [(0, qm_R (some (0, 61, 0))), (1, qm_I (qm_i a1))]) rfl rfl ?_
            refine qm_G.s1 rfl (qm_x_iload rfl) ?_
            refine qm_G.s1 rfl (qm_x_pushI 0 rfl) ?_
            refine qm_G.s1 rfl (qm_x_aload rfl) ?_
            refine qm_G.s1 rfl (qm_x_getfR (q := (some (0, 62, 0))) (hS 61 rfl) (hR 61 0 62 rfl rfl)) ?_
            refine qm_G.s1 rfl (qm_x_pushI 7 rfl) ?_
            refine qm_G.s1 rfl (qm_x_iald (v := (J 62 0 7)) (qm_arS hS rfl rfl) rfl (by decide) (by decide) (by decide) rfl) ?_
            refine qm_G.s1 rfl (qm_x_pushI 1 rfl) ?_
            refine qm_G.s1 rfl (qm_x_isub) ?_
            refine qm_G.cs rfl rfl rfl ?_
            refine qm_v_within11_t ⟨by omega, by omega⟩ ⟨by decide, by decide⟩ ⟨by omega, by omega⟩ (by omega) ⟨_, rfl, ?_⟩
            refine qm_G.ret rfl rfl ⟨_, rfl, ?_⟩
            refine qm_G.s1 rfl (qm_x_if_eq_f ⟨by decide, by decide⟩ (by decide)) ?_
            refine qm_G.s1 rfl (qm_x_iload rfl) ?_
            refine qm_G.cs rfl rfl rfl ?_
            refine qm_C.go (cd := qm_P83) (lv := [(0, qm_I (qm_i 1))]) rfl rfl ?_
            refine qm_G.s1 rfl (qm_x_iload rfl) ?_
            refine qm_G.s1 rfl (qm_x_pushI 0 rfl) ?_
            refine qm_G.s1 rfl (qm_x_pushI 1 rfl) ?_
            refine qm_G.cs rfl rfl rfl ?_
            refine qm_v_within11_t ⟨by decide, by decide⟩ ⟨by decide, by decide⟩ ⟨by decide, by decide⟩ (by decide) ⟨_, rfl, ?_⟩
            refine qm_G.ret rfl rfl ⟨_, rfl, ?_⟩
            refine qm_G.s1 rfl (qm_x_if_ne_t ⟨by decide, by decide⟩ (by decide)) ?_
            refine qm_G.sp (lv1 := [(0, qm_R (some (0, 61, 0))), (1, qm_I (qm_i a1)), (2, qm_I (qm_i 1)), (3, qm_I (qm_i a3))]) rfl rfl (qm_x_iload rfl) ?_
            refine qm_G.s1 rfl (qm_x_pushI 0 rfl) ?_
            refine qm_G.s1 rfl (qm_x_pushI 5 rfl) ?_
            refine qm_G.cs rfl rfl rfl ?_
            refine qm_v_within11_t ⟨by omega, by omega⟩ ⟨by decide, by decide⟩ ⟨by decide, by decide⟩ (by omega) ⟨_, rfl, ?_⟩
            refine qm_G.s1 rfl (qm_x_if_eq_f ⟨by decide, by decide⟩ (by decide)) ?_
            refine qm_G.s1 rfl (qm_x_aload rfl) ?_
            refine qm_G.s1 rfl (qm_x_iload rfl) ?_
            refine qm_G.s1 rfl (qm_x_iload rfl) ?_
            refine qm_G.s1 rfl (qm_x_iload rfl) ?_
            refine qm_G.cm rfl rfl (hS 61 rfl) rfl ?_
            refine qm_C.go (cd := qm_P65) (lv := [(0, qm_R (some (0, 61, 0))), (1, qm_I (qm_i a1)), (2, qm_I (qm_i 1)), (3, qm_I (qm_i a3))]) rfl rfl ?_
            refine qm_G.s1 rfl (qm_x_aload rfl) ?_
            refine qm_G.s1 rfl (qm_x_getfR (q := (some (0, 62, 0))) (hS 61 rfl) (hR 61 0 62 rfl rfl)) ?_
            refine qm_G.s1 rfl (qm_x_pushI 26 rfl) ?_
            refine qm_G.s1 rfl (qm_x_pushI 3 rfl) ?_
            refine qm_G.s1 rfl (qm_x_iload rfl) ?_
            refine qm_G.s1 rfl (qm_x_imul) ?_
            refine qm_G.s1 rfl (qm_x_iadd) ?_
            refine qm_G.s1 rfl (qm_x_pushI 1 rfl) ?_
            refine qm_G.s1 rfl (qm_x_iadd) ?_
            refine qm_G.s1 rfl (qm_x_iald (v := (J 62 0 (27 + 3 * (Int.toNat a1)))) (qm_arS hS rfl rfl) rfl (by omega) (by omega) (by decide) (congrArg (J 62 0) (by omega))) ?_
            refine qm_G.s1 rfl (qm_x_istore (lv' := [(4, qm_I (qm_i (J 62 0 (27 + 3 * (Int.toNat a1))))), (0, qm_R (some (0, 61, 0))), (1, qm_I (qm_i a1)), (2, qm_I (qm_i 1)), (3, qm_I (qm_i a3))]) rfl) ?_
            refine qm_G.s1 rfl (qm_x_aload rfl) ?_
            refine qm_G.s1 rfl (qm_x_getfR (q := (some (0, 62, 0))) (hS 61 rfl) (hR 61 0 62 rfl rfl)) ?_
            refine qm_G.s1 rfl (qm_x_pushI 26 rfl) ?_
            refine qm_G.s1 rfl (qm_x_pushI 3 rfl) ?_
            refine qm_G.s1 rfl (qm_x_iload rfl) ?_
            refine qm_G.s1 rfl (qm_x_imul) ?_
            refine qm_G.s1 rfl (qm_x_iadd) ?_
            refine qm_G.s1 rfl (qm_x_iald (v := (J 62 0 (26 + 3 * (Int.toNat a1)))) (qm_arS hS rfl rfl) rfl (by omega) (by omega) (by decide) (congrArg (J 62 0) (by omega))) ?_
            refine qm_G.s1 rfl (qm_x_tsweq (v := 2) (t := 76) (by omega) rfl) ?_
            refine qm_G.sp (lv1 := [(3, qm_I (qm_i a3))]) rfl rfl (qm_x_pushI 6 rfl) ?_
            refine qm_G.s1 rfl (qm_x_iload rfl) ?_
            refine qm_G.s1 rfl (qm_x_pushI 1 rfl) ?_
            refine qm_G.s1 rfl (qm_x_iadd) ?_
            refine qm_G.cs rfl rfl rfl ?_
            refine qm_C.go (cd := qm_P12) (lv := [(0, qm_I (qm_i 6)), (1, qm_I (qm_i (a3 + 1)))]) rfl rfl ?_
            refine qm_G.s1 rfl (qm_x_iload rfl) ?_
            refine qm_G.s1 rfl (qm_x_iload rfl) ?_
            refine qm_G.s1 rfl (qm_x_icmp_gt_f ⟨by decide, by decide⟩ ⟨by omega, by omega⟩ (by omega)) ?_
            refine qm_G.s1 rfl (qm_x_iload rfl) ?_
            refine qm_G.s1 rfl (qm_x_goto) ?_
            refine qm_G.ret rfl rfl ⟨_, rfl, ?_⟩
            refine qm_G.ret rfl rfl ⟨_, rfl, ?_⟩
            refine qm_G.s1 rfl (qm_x_goto) ?_
            refine qm_G.ret rfl rfl ⟨_, rfl, ?_⟩
            refine qm_G.s1 rfl (qm_x_icmp_eq_t ⟨by decide, by decide⟩ ⟨by decide, by decide⟩ (by decide)) ?_
            exact ih _ _ _ _ _ _ hI.next
        · refine qm_G.s1 rfl (qm_x_tswd (m := 3) rfl ⟨by omega, by omega⟩ (by omega) (by omega) (by decide)) ?_
          refine qm_G.sp (lv1 := [(0, qm_R (some (0, q48, 0))), (2, qm_I (qm_i a3))]) rfl rfl (qm_x_pushI 0 rfl) ?_
          refine qm_G.s1 rfl (qm_x_iload rfl) ?_
          refine qm_G.cs rfl rfl rfl ?_
          refine qm_C.go (cd := qm_P67) (lv := [(0, qm_I (qm_i a3))]) rfl rfl ?_
          refine qm_G.s1 rfl (qm_x_pushI 0 rfl) ?_
          refine qm_G.s1 rfl (qm_x_iload rfl) ?_
          refine qm_G.s1 rfl (qm_x_pushI 1 rfl) ?_
          refine qm_G.s1 rfl (qm_x_isub) ?_
          refine qm_G.cs rfl rfl rfl ?_
          refine qm_C.go (cd := qm_P11) (lv := [(0, qm_I (qm_i 0)), (1, qm_I (qm_i (a3 - 1)))]) rfl rfl ?_
          refine qm_G.s1 rfl (qm_x_iload rfl) ?_
          refine qm_G.s1 rfl (qm_x_iload rfl) ?_
          refine qm_y_icmp_lt rfl ⟨by decide, by decide⟩ ⟨by omega, by omega⟩ (fun c74 => ?_) (fun c74 => ?_)
          · refine qm_G.sp (lv1 := [(1, qm_I (qm_i (a3 - 1)))]) rfl rfl (qm_x_iload rfl) ?_
            refine qm_G.ret rfl rfl ⟨_, rfl, ?_⟩
            refine qm_G.ret rfl rfl ⟨_, rfl, ?_⟩
            refine qm_G.s1 rfl (qm_x_aload rfl) ?_
            refine qm_G.s1 rfl (qm_x_getfI (v := (J q48 0 1)) g49s rfl) ?_
            refine qm_G.s1 rfl (qm_x_isub) ?_
            refine qm_G.cs rfl rfl rfl ?_
            refine qm_C.go (cd := qm_P11) (lv := [(0, qm_I (qm_i 0)), (1, qm_I (qm_i ((a3 - 1) - (J q48 0 1))))]) rfl rfl ?_
            refine qm_G.s1 rfl (qm_x_iload rfl) ?_
            refine qm_G.s1 rfl (qm_x_iload rfl) ?_
            refine qm_y_icmp_lt rfl ⟨by decide, by decide⟩ ⟨by omega, by omega⟩ (fun c75 => ?_) (fun c75 => ?_)
            · refine qm_G.sp (lv1 := [(1, qm_I (qm_i ((a3 - 1) - (J q48 0 1))))]) rfl rfl (qm_x_iload rfl) ?_
              refine qm_G.ret rfl rfl ⟨_, rfl, ?_⟩
              refine qm_G.ret rfl rfl ⟨_, rfl, ?_⟩
              refine qm_G.ret rfl rfl ⟨_, rfl, ?_⟩
              refine qm_G.s1 rfl (qm_x_aload rfl) ?_
              refine qm_G.s1 rfl (qm_x_aload rfl) ?_
              refine qm_G.s1 rfl (qm_x_iload rfl) ?_
              refine qm_G.s1 rfl (qm_x_pushI 1 rfl) ?_
              refine qm_G.s1 rfl (qm_x_iadd) ?_
              refine qm_G.s1 rfl (qm_x_iald2v (v := a1) (by omega) (by omega) hX e1) ?_
              refine qm_G.s1 rfl (qm_x_aload rfl) ?_
              refine qm_G.s1 rfl (qm_x_iload rfl) ?_
              refine qm_G.s1 rfl (qm_x_pushI 2 rfl) ?_
              refine qm_G.s1 rfl (qm_x_iadd) ?_
              refine qm_G.s1 rfl (qm_x_iald2v (v := 1) (by omega) (by omega) hX e2) ?_
              refine qm_G.s1 rfl (qm_x_aload rfl) ?_
              refine qm_G.s1 rfl (qm_x_iload rfl) ?_
              refine qm_G.s1 rfl (qm_x_pushI 3 rfl) ?_
              refine qm_G.s1 rfl (qm_x_iadd) ?_
              refine qm_G.s1 rfl (qm_x_iald2v (v := a3) (by omega) (by omega) hX e3) ?_
              refine qm_G.cm rfl rfl (hS 61 rfl) rfl ?_
              refine qm_C.go (cd := qm_P151) (lv := [(0, qm_R (some (0, 61, 0))), (1, qm_I (qm_i a1)), (2, qm_I (qm_i 1)), (3, qm_I (qm_i a3))]) rfl rfl ?_
              refine qm_G.s1 rfl (qm_x_aload rfl) ?_
              refine qm_G.s1 rfl (qm_x_iload rfl) ?_
              refine qm_G.cm rfl rfl (hS 61 rfl) rfl ?_
              refine qm_C.go (cd := qm_P82) (lv := [(0, qm_R (some (0, 61, 0))), (1, qm_I (qm_i a1))]) rfl rfl ?_
              refine qm_G.s1 rfl (qm_x_iload rfl) ?_
              refine qm_G.s1 rfl (qm_x_pushI 0 rfl) ?_
              refine qm_G.s1 rfl (qm_x_aload rfl) ?_
              refine qm_G.s1 rfl (qm_x_getfR (q := (some (0, 62, 0))) (hS 61 rfl) (hR 61 0 62 rfl rfl)) ?_
              refine qm_G.s1 rfl (qm_x_pushI 7 rfl) ?_
              refine qm_G.s1 rfl (qm_x_iald (v := (J 62 0 7)) (qm_arS hS rfl rfl) rfl (by decide) (by decide) (by decide) rfl) ?_
              refine qm_G.s1 rfl (qm_x_pushI 1 rfl) ?_
              refine qm_G.s1 rfl (qm_x_isub) ?_
              refine qm_G.cs rfl rfl rfl ?_
              refine qm_v_within11_t ⟨by omega, by omega⟩ ⟨by decide, by decide⟩ ⟨by omega, by omega⟩ (by omega) ⟨_, rfl, ?_⟩
              refine qm_G.ret rfl rfl ⟨_, rfl, ?_⟩
              refine qm_G.s1 rfl (qm_x_if_eq_f ⟨by decide, by decide⟩ (by decide)) ?_
              refine qm_G.s1 rfl (qm_x_iload rfl) ?_
              refine qm_G.cs rfl rfl rfl ?_
              refine qm_C.go (cd := qm_P83) (lv := [(0, qm_I (qm_i 1))]) rfl rfl ?_
              refine qm_G.s1 rfl (qm_x_iload rfl) ?_
              refine qm_G.s1 rfl (qm_x_pushI 0 rfl) ?_
              refine qm_G.s1 rfl (qm_x_pushI 1 rfl) ?_
              refine qm_G.cs rfl rfl rfl ?_
              refine qm_v_within11_t ⟨by decide, by decide⟩ ⟨by decide, by decide⟩ ⟨by decide, by decide⟩ (by decide) ⟨_, rfl, ?_⟩
              refine qm_G.ret rfl rfl ⟨_, rfl, ?_⟩
              refine qm_G.s1 rfl (qm_x_if_ne_t ⟨by decide, by decide⟩ (by decide)) ?_
              refine qm_G.sp (lv1 := [(0, qm_R (some (0, 61, 0))), (1, qm_I (qm_i a1)), (2, qm_I (qm_i 1)), (3, qm_I (qm_i a3))]) rfl rfl (qm_x_iload rfl) ?_
              refine qm_G.s1 rfl (qm_x_pushI 0 rfl) ?_
              refine qm_G.s1 rfl (qm_x_pushI 5 rfl) ?_
              refine qm_G.cs rfl rfl rfl ?_
              refine qm_v_within11_t ⟨by omega, by omega⟩ ⟨by decide, by decide⟩ ⟨by decide, by decide⟩ (by omega) ⟨_, rfl, ?_⟩
              refine qm_G.s1 rfl (qm_x_if_eq_f ⟨by decide, by decide⟩ (by decide)) ?_
              refine qm_G.s1 rfl (qm_x_aload rfl) ?_
              refine qm_G.s1 rfl (qm_x_iload rfl) ?_
              refine qm_G.s1 rfl (qm_x_iload rfl) ?_
              refine qm_G.s1 rfl (qm_x_iload rfl) ?_
              refine qm_G.cm rfl rfl (hS 61 rfl) rfl ?_
              refine qm_C.go (cd := qm_P65) (lv := [(0, qm_R (some (0, 61, 0))), (1, qm_I (qm_i a1)), (2, qm_I (qm_i 1)), (3, qm_I (qm_i a3))]) rfl rfl ?_
              refine qm_G.s1 rfl (qm_x_aload rfl) ?_
              refine qm_G.s1 rfl (qm_x_getfR (q := (some (0, 62, 0))) (hS 61 rfl) (hR 61 0 62 rfl rfl)) ?_
              refine qm_G.s1 rfl (qm_x_pushI 26 rfl) ?_
              refine qm_G.s1 rfl (qm_x_pushI 3 rfl) ?_
              refine qm_G.s1 rfl (qm_x_iload rfl) ?_
              refine qm_G.s1 rfl (qm_x_imul) ?_
              refine qm_G.s1 rfl (qm_x_iadd) ?_
              refine qm_G.s1 rfl (qm_x_pushI 1 rfl) ?_
              refine qm_G.s1 rfl (qm_x_iadd) ?_
              refine qm_G.s1 rfl (qm_x_iald (v := (J 62 0 (27 + 3 * (Int.toNat a1)))) (qm_arS hS rfl rfl) rfl (by omega) (by omega) (by decide) (congrArg (J 62 0) (by omega))) ?_
              refine qm_G.s1 rfl (qm_x_istore (lv' := [(4, qm_I (qm_i (J 62 0 (27 + 3 * (Int.toNat a1))))), (0, qm_R (some (0, 61, 0))), (1, qm_I (qm_i a1)), (2, qm_I (qm_i 1)), (3, qm_I (qm_i a3))]) rfl) ?_
              refine qm_G.s1 rfl (qm_x_aload rfl) ?_
              refine qm_G.s1 rfl (qm_x_getfR (q := (some (0, 62, 0))) (hS 61 rfl) (hR 61 0 62 rfl rfl)) ?_
              refine qm_G.s1 rfl (qm_x_pushI 26 rfl) ?_
              refine qm_G.s1 rfl (qm_x_pushI 3 rfl) ?_
              refine qm_G.s1 rfl (qm_x_iload rfl) ?_
              refine qm_G.s1 rfl (qm_x_imul) ?_
              refine qm_G.s1 rfl (qm_x_iadd) ?_
              refine qm_G.s1 rfl (qm_x_iald (v := (J 62 0 (26 + 3 * (Int.toNat a1)))) (qm_arS hS rfl rfl) rfl (by omega) (by omega) (by decide) (congrArg (J 62 0) (by omega))) ?_
              rcases (show (J 62 0 (26 + 3 * (Int.toNat a1)) < 0 ∨ 3 ≤ J 62 0 (26 + 3 * (Int.toNat a1))) by omega) with c79
              · refine qm_G.s1 rfl (qm_x_tswd (m := 3) rfl ⟨by omega, by omega⟩ (by omega) (by omega) (by decide)) ?_
                refine qm_G.sp (lv1 := [(3, qm_I (qm_i a3)), (4, qm_I (qm_i (J 62 0 (27 + 3 * (Int.toNat a1)))))]) rfl rfl (qm_x_pushI 0 rfl) ?_
                refine qm_G.s1 rfl (qm_x_pushI 0 rfl) ?_
                refine qm_G.s1 rfl (qm_x_iload rfl) ?_
                refine qm_G.s1 rfl (qm_x_pushI 1 rfl) ?_
                refine qm_G.s1 rfl (qm_x_isub) ?_
                refine qm_G.cs rfl rfl rfl ?_
                refine qm_C.go (cd := qm_P11) (lv := [(0, qm_I (qm_i 0)), (1, qm_I (qm_i (a3 - 1)))]) rfl rfl ?_
                refine qm_G.s1 rfl (qm_x_iload rfl) ?_
                refine qm_G.s1 rfl (qm_x_iload rfl) ?_
                refine qm_G.s1 rfl (qm_x_icmp_lt_t ⟨by decide, by decide⟩ ⟨by omega, by omega⟩ (by omega)) ?_
                refine qm_G.sp (lv1 := [(1, qm_I (qm_i (a3 - 1)))]) rfl rfl (qm_x_iload rfl) ?_
                refine qm_G.ret rfl rfl ⟨_, rfl, ?_⟩
                refine qm_G.s1 rfl (qm_x_iload rfl) ?_
                refine qm_G.s1 rfl (qm_x_isub) ?_
                refine qm_G.cs rfl rfl rfl ?_
                refine qm_C.go (cd := qm_P11) (lv := [(0, qm_I (qm_i 0)), (1, qm_I (qm_i ((a3 - 1) - (J 62 0 (27 + 3 * (Int.toNat a1))))))]) rfl rfl ?_
                refine qm_G.s1 rfl (qm_x_iload rfl) ?_
                refine qm_G.s1 rfl (qm_x_iload rfl) ?_
                refine qm_G.s1 rfl (qm_x_icmp_lt_t ⟨by decide, by decide⟩ ⟨by omega, by omega⟩ (by omega)) ?_
                refine qm_G.sp (lv1 := [(1, qm_I (qm_i ((a3 - 1) - (J 62 0 (27 + 3 * (Int.toNat a1))))))]) rfl rfl (qm_x_iload rfl) ?_
                refine qm_G.ret rfl rfl ⟨_, rfl, ?_⟩
                refine qm_G.ret rfl rfl ⟨_, rfl, ?_⟩
                refine qm_G.s1 rfl (qm_x_goto) ?_
                refine qm_G.ret rfl rfl ⟨_, rfl, ?_⟩
                refine qm_G.s1 rfl (qm_x_icmp_eq_t ⟨by omega, by omega⟩ ⟨by omega, by omega⟩ (by omega)) ?_
                exact ih _ _ _ _ _ _ hI.next
            · refine qm_G.s1 rfl (qm_x_iload rfl) ?_
              refine qm_G.s1 rfl (qm_x_goto) ?_
              refine qm_G.ret rfl rfl ⟨_, rfl, ?_⟩
              refine qm_G.ret rfl rfl ⟨_, rfl, ?_⟩
              refine qm_G.ret rfl rfl ⟨_, rfl, ?_⟩
              refine qm_G.s1 rfl (qm_x_aload rfl) ?_
              refine qm_G.s1 rfl (qm_x_aload rfl) ?_
              refine qm_G.s1 rfl (qm_x_iload rfl) ?_
              refine qm_G.s1 rfl (qm_x_pushI 1 rfl) ?_
              refine qm_G.s1 rfl (qm_x_iadd) ?_
              refine qm_G.s1 rfl (qm_x_iald2v (v := a1) (by omega) (by omega) hX e1) ?_
              refine qm_G.s1 rfl (qm_x_aload rfl) ?_
              refine qm_G.s1 rfl (qm_x_iload rfl) ?_
              refine qm_G.s1 rfl (qm_x_pushI 2 rfl) ?_
              refine qm_G.s1 rfl (qm_x_iadd) ?_
              refine qm_G.s1 rfl (qm_x_iald2v (v := 1) (by omega) (by omega) hX e2) ?_
              refine qm_G.s1 rfl (qm_x_aload rfl) ?_
              refine qm_G.s1 rfl (qm_x_iload rfl) ?_
              refine qm_G.s1 rfl (qm_x_pushI 3 rfl) ?_
              refine qm_G.s1 rfl (qm_x_iadd) ?_
              refine qm_G.s1 rfl (qm_x_iald2v (v := a3) (by omega) (by omega) hX e3) ?_
              refine qm_G.cm rfl rfl (hS 61 rfl) rfl ?_
              refine qm_C.go (cd := qm_P151) (lv := [(0, qm_R (some (0, 61, 0))), (1, qm_I (qm_i a1)), (2, qm_I (qm_i 1)), (3, qm_I (qm_i a3))]) rfl rfl ?_
              refine qm_G.s1 rfl (qm_x_aload rfl) ?_
              refine qm_G.s1 rfl (qm_x_iload rfl) ?_
              refine qm_G.cm rfl rfl (hS 61 rfl) rfl ?_
              refine qm_C.go (cd := qm_P82) (lv := [(0, qm_R (some (0, 61, 0))), (1, qm_I (qm_i a1))]) rfl rfl ?_
              refine qm_G.s1 rfl (qm_x_iload rfl) ?_
              refine qm_G.s1 rfl (qm_x_pushI 0 rfl) ?_
              refine qm_G.s1 rfl (qm_x_aload rfl) ?_
              refine qm_G.s1 rfl (qm_x_getfR (q := (some (0, 62, 0))) (hS 61 rfl) (hR 61 0 62 rfl rfl)) ?_
              refine qm_G.s1 rfl (qm_x_pushI 7 rfl) ?_
              refine qm_G.s1 rfl (qm_x_iald (v := (J 62 0 7)) (qm_arS hS rfl rfl) rfl (by decide) (by decide) (by decide) rfl) ?_
              refine qm_G.s1 rfl (qm_x_pushI 1 rfl) ?_
              refine qm_G.s1 rfl (qm_x_isub) ?_
              refine qm_G.cs rfl rfl rfl ?_
              refine qm_v_within11_t ⟨by omega, by omega⟩ ⟨by decide, by decide⟩ ⟨by omega, by omega⟩ (by omega) ⟨_, rfl, ?_⟩
              refine qm_G.ret rfl rfl ⟨_, rfl, ?_⟩
              refine qm_G.s1 rfl (qm_x_if_eq_f ⟨by decide, by decide⟩ (by decide)) ?_
              refine qm_G.s1 rfl (qm_x_iload rfl) ?_
              refine qm_G.cs rfl rfl rfl ?_
              refine qm_C.go (cd := qm_P83) (lv := [(0, qm_I (qm_i 1))]) rfl rfl ?_
              refine qm_G.s1 rfl (qm_x_iload rfl) ?_
              refine qm_G.s1 rfl (qm_x_pushI 0 rfl) ?_
              refine qm_G.s1 rfl (qm_x_pushI 1 rfl) ?_
              refine qm_G.cs rfl rfl rfl ?_
              refine qm_v_within11_t ⟨by decide, by decide⟩ ⟨by decide, by decide⟩ ⟨by decide, by decide⟩ (by decide) ⟨_, rfl, ?_⟩
              refine qm_G.ret rfl rfl ⟨_, rfl, ?_⟩
              refine qm_G.s1 rfl (qm_x_if_ne_t ⟨by decide, by decide⟩ (by decide)) ?_
              refine qm_G.sp (lv1 := [(0, qm_R (some (0, 61, 0))), (1, qm_I (qm_i a1)), (2, qm_I (qm_i 1)), (3, qm_I (qm_i a3))]) rfl rfl (qm_x_iload rfl) ?_
              refine qm_G.s1 rfl (qm_x_pushI 0 rfl) ?_
              refine qm_G.s1 rfl (qm_x_pushI 5 rfl) ?_
              refine qm_G.cs rfl rfl rfl ?_
              refine qm_v_within11_t ⟨by omega, by omega⟩ ⟨by decide, by decide⟩ ⟨by decide, by decide⟩ (by omega) ⟨_, rfl, ?_⟩
              refine qm_G.s1 rfl (qm_x_if_eq_f ⟨by decide, by decide⟩ (by decide)) ?_
              refine qm_G.s1 rfl (qm_x_aload rfl) ?_
              refine qm_G.s1 rfl (qm_x_iload rfl) ?_
              refine qm_G.s1 rfl (qm_x_iload rfl) ?_
              refine qm_G.s1 rfl (qm_x_iload rfl) ?_
              refine qm_G.cm rfl rfl (hS 61 rfl) rfl ?_
              refine qm_C.go (cd := qm_P65) (lv := [(0, qm_R (some (0, 61, 0))), (1, qm_I (qm_i a1)), (2, qm_I (qm_i 1)), (3, qm_I (qm_i a3))]) rfl rfl ?_
              refine qm_G.s1 rfl (qm_x_aload rfl) ?_
              refine qm_G.s1 rfl (qm_x_getfR (q := (some (0, 62, 0))) (hS 61 rfl) (hR 61 0 62 rfl rfl)) ?_
              refine qm_G.s1 rfl (qm_x_pushI 26 rfl) ?_
              refine qm_G.s1 rfl (qm_x_pushI 3 rfl) ?_
              refine qm_G.s1 rfl (qm_x_iload rfl) ?_
              refine qm_G.s1 rfl (qm_x_imul) ?_
              refine qm_G.s1 rfl (qm_x_iadd) ?_
              refine qm_G.s1 rfl (qm_x_pushI 1 rfl) ?_
              refine qm_G.s1 rfl (qm_x_iadd) ?_
              refine qm_G.s1 rfl (qm_x_iald (v := (J 62 0 (27 + 3 * (Int.toNat a1)))) (qm_arS hS rfl rfl) rfl (by omega) (by omega) (by decide) (congrArg (J 62 0) (by omega))) ?_
              refine qm_G.s1 rfl (qm_x_istore (lv' := [(4, qm_I (qm_i (J 62 0 (27 + 3 * (Int.toNat a1))))), (0, qm_R (some (0, 61, 0))), (1, qm_I (qm_i a1)), (2, qm_I (qm_i 1)), (3, qm_I (qm_i a3))]) rfl) ?_
              refine qm_G.s1 rfl (qm_x_aload rfl) ?_
              refine qm_G.s1 rfl (qm_x_getfR (q := (some (0, 62, 0))) (hS 61 rfl) (hR 61 0 62 rfl rfl)) ?_
              refine qm_G.s1 rfl (qm_x_pushI 26 rfl) ?_
              refine qm_G.s1 rfl (qm_x_pushI 3 rfl) ?_
              refine qm_G.s1 rfl (qm_x_iload rfl) ?_
              refine qm_G.s1 rfl (qm_x_imul) ?_
              refine qm_G.s1 rfl (qm_x_iadd) ?_
              refine qm_G.s1 rfl (qm_x_iald (v := (J 62 0 (26 + 3 * (Int.toNat a1)))) (qm_arS hS rfl rfl) rfl (by omega) (by omega) (by decide) (congrArg (J 62 0) (by omega))) ?_
              rcases (show (J 62 0 (26 + 3 * (Int.toNat a1)) < 0 ∨ 3 ≤ J 62 0 (26 + 3 * (Int.toNat a1))) by omega) with c83
              · refine qm_G.s1 rfl (qm_x_tswd (m := 3) rfl ⟨by omega, by omega⟩ (by omega) (by omega) (by decide)) ?_
                refine qm_G.sp (lv1 := [(3, qm_I (qm_i a3)), (4, qm_I (qm_i (J 62 0 (27 + 3 * (Int.toNat a1)))))]) rfl rfl (qm_x_pushI 0 rfl) ?_
                refine qm_G.s1 rfl (qm_x_pushI 0 rfl) ?_
                refine qm_G.s1 rfl (qm_x_iload rfl) ?_
                refine qm_G.s1 rfl (qm_x_pushI 1 rfl) ?_
                refine qm_G.s1 rfl (qm_x_isub) ?_
                refine qm_G.cs rfl rfl rfl ?_
                refine qm_C.go (cd := qm_P11) (lv := [(0, qm_I (qm_i 0)), (1, qm_I (qm_i (a3 - 1)))]) rfl rfl ?_
                refine qm_G.s1 rfl (qm_x_iload rfl) ?_
                refine qm_G.s1 rfl (qm_x_iload rfl) ?_
                refine qm_G.s1 rfl (qm_x_icmp_lt_t ⟨by decide, by decide⟩ ⟨by omega, by omega⟩ (by omega)) ?_
                refine qm_G.sp (lv1 := [(1, qm_I (qm_i (a3 - 1)))]) rfl rfl (qm_x_iload rfl) ?_
                refine qm_G.ret rfl rfl ⟨_, rfl, ?_⟩
                refine qm_G.s1 rfl (qm_x_iload rfl) ?_
                refine qm_G.s1 rfl (qm_x_isub) ?_
                refine qm_G.cs rfl rfl rfl ?_
                refine qm_C.go (cd := qm_P11) (lv := [(0, qm_I (qm_i 0)), (1, qm_I (qm_i ((a3 - 1) - (J 62 0 (27 + 3 * (Int.toNat a1))))))]) rfl rfl ?_
                refine qm_G.s1 rfl (qm_x_iload rfl) ?_
                refine qm_G.s1 rfl (qm_x_iload rfl) ?_
                refine qm_G.s1 rfl (qm_x_icmp_lt_f ⟨by decide, by decide⟩ ⟨by omega, by omega⟩ (by omega)) ?_
                refine qm_G.s1 rfl (qm_x_iload rfl) ?_
                refine qm_G.s1 rfl (qm_x_goto) ?_
                refine qm_G.ret rfl rfl ⟨_, rfl, ?_⟩
                refine qm_G.ret rfl rfl ⟨_, rfl, ?_⟩
                refine qm_G.s1 rfl (qm_x_goto) ?_
                refine qm_G.ret rfl rfl ⟨_, rfl, ?_⟩
                refine qm_G.s1 rfl (qm_x_icmp_eq_t ⟨by decide, by decide⟩ ⟨by decide, by decide⟩ (by decide)) ?_
                exact ih _ _ _ _ _ _ hI.next
          · refine qm_G.s1 rfl (qm_x_iload rfl) ?_
            refine qm_G.s1 rfl (qm_x_goto) ?_
            refine qm_G.ret rfl rfl ⟨_, rfl, ?_⟩
            refine qm_G.ret rfl rfl ⟨_, rfl, ?_⟩
            refine qm_G.s1 rfl (qm_x_aload rfl) ?_
            refine qm_G.s1 rfl (qm_x_getfI (v := (J q48 0 1)) g49s rfl) ?_
            refine qm_G.s1 rfl (qm_x_isub) ?_
            refine qm_G.cs rfl rfl rfl ?_
            refine qm_C.go (cd := qm_P11) (lv := [(0, qm_I (qm_i 0)), (1, qm_I (qm_i (0 - (J q48 0 1))))]) rfl rfl ?_
            refine qm_G.s1 rfl (qm_x_iload rfl) ?_
            refine qm_G.s1 rfl (qm_x_iload rfl) ?_
            refine qm_G.s1 rfl (qm_x_icmp_lt_f ⟨by decide, by decide⟩ ⟨by omega, by omega⟩ (by omega)) ?_
            refine qm_G.s1 rfl (qm_x_iload rfl) ?_
            refine qm_G.s1 rfl (qm_x_goto) ?_
            refine qm_G.ret rfl rfl ⟨_, rfl, ?_⟩
            refine qm_G.ret rfl rfl ⟨_, rfl, ?_⟩
            refine qm_G.ret rfl rfl ⟨_, rfl, ?_⟩
            refine qm_G.s1 rfl (qm_x_aload rfl) ?_
            refine qm_G.s1 rfl (qm_x_aload rfl) ?_
            refine qm_G.s1 rfl (qm_x_iload rfl) ?_
            refine qm_G.s1 rfl (qm_x_pushI 1 rfl) ?_
            refine qm_G.s1 rfl (qm_x_iadd) ?_
            refine qm_G.s1 rfl (qm_x_iald2v (v := a1) (by omega) (by omega) hX e1) ?_
            refine qm_G.s1 rfl (qm_x_aload rfl) ?_
            refine qm_G.s1 rfl (qm_x_iload rfl) ?_
            refine qm_G.s1 rfl (qm_x_pushI 2 rfl) ?_
            refine qm_G.s1 rfl (qm_x_iadd) ?_
            refine qm_G.s1 rfl (qm_x_iald2v (v := 1) (by omega) (by omega) hX e2) ?_
            refine qm_G.s1 rfl (qm_x_aload rfl) ?_
            refine qm_G.s1 rfl (qm_x_iload rfl) ?_
            refine qm_G.s1 rfl (qm_x_pushI 3 rfl) ?_
            refine qm_G.s1 rfl (qm_x_iadd) ?_
            refine qm_G.s1 rfl (qm_x_iald2v (v := a3) (by omega) (by omega) hX e3) ?_
            refine qm_G.cm rfl rfl (hS 61 rfl) rfl ?_
            refine qm_C.go (cd := qm_P151) (lv := [(0, qm_R (some (0, 61, 0))), (1, qm_I (qm_i a1)), (2, qm_I (qm_i 1)), (3, qm_I (qm_i a3))]) rfl rfl ?_
            refine qm_G.s1 rfl (qm_x_aload rfl) ?_
            refine qm_G.s1 rfl (qm_x_iload rfl) ?_
            refine qm_G.cm rfl rfl (hS 61 rfl) rfl ?_
            refine qm_C.go (cd := qm_P82) (lv := [(0, qm_R (some (0, 61, 0))), (1, qm_I (qm_i a1))]) rfl rfl ?_
            refine qm_G.s1 rfl (qm_x_iload rfl) ?_
            refine qm_G.s1 rfl (qm_x_pushI 0 rfl) ?_
            refine qm_G.s1 rfl (qm_x_aload rfl) ?_
            refine qm_G.s1 rfl (qm_x_getfR (q := (some (0, 62, 0))) (hS 61 rfl) (hR 61 0 62 rfl rfl)) ?_
            refine qm_G.s1 rfl (qm_x_pushI 7 rfl) ?_
            refine qm_G.s1 rfl (qm_x_iald (v := (J 62 0 7)) (qm_arS hS rfl rfl) rfl (by decide) (by decide) (by decide) rfl) ?_
            refine qm_G.s1 rfl (qm_x_pushI 1 rfl) ?_
            refine qm_G.s1 rfl (qm_x_isub) ?_
            refine qm_G.cs rfl rfl rfl ?_
            refine qm_v_within11_t ⟨by omega, by omega⟩ ⟨by decide, by decide⟩ ⟨by omega, by omega⟩ (by omega) ⟨_, rfl, ?_⟩
            refine qm_G.ret rfl rfl ⟨_, rfl, ?_⟩
            refine qm_G.s1 rfl (qm_x_if_eq_f ⟨by decide, by decide⟩ (by decide)) ?_
            refine qm_G.s1 rfl (qm_x_iload rfl) ?_
            refine qm_G.cs rfl rfl rfl ?_
            refine qm_C.go (cd := qm_P83) (lv := [(0, qm_I (qm_i 1))]) rfl rfl ?_
            refine qm_G.s1 rfl (qm_x_iload rfl) ?_
            refine qm_G.s1 rfl (qm_x_pushI 0 rfl) ?_
            refine qm_G.s1 rfl (qm_x_pushI 1 rfl) ?_
            refine qm_G.cs rfl rfl rfl ?_
            refine qm_v_within11_t ⟨by decide, by decide⟩ ⟨by decide, by decide⟩ ⟨by decide, by decide⟩ (by decide) ⟨_, rfl, ?_⟩
            refine qm_G.ret rfl rfl ⟨_, rfl, ?_⟩
            refine qm_G.s1 rfl (qm_x_if_ne_t ⟨by decide, by decide⟩ (by decide)) ?_
            refine qm_G.sp (lv1 := [(0, qm_R (some (0, 61, 0))), (1, qm_I (qm_i a1)), (2, qm_I (qm_i 1)), (3, qm_I (qm_i a3))]) rfl rfl (qm_x_iload rfl) ?_
            refine qm_G.s1 rfl (qm_x_pushI 0 rfl) ?_
            refine qm_G.s1 rfl (qm_x_pushI 5 rfl) ?_
            refine qm_G.cs rfl rfl rfl ?_
            refine qm_v_within11_t ⟨by omega, by omega⟩ ⟨by decide, by decide⟩ ⟨by decide, by decide⟩ (by omega) ⟨_, rfl, ?_⟩
            refine qm_G.s1 rfl (qm_x_if_eq_f ⟨by decide, by decide⟩ (by decide)) ?_
            refine qm_G.s1 rfl (qm_x_aload rfl) ?_
            refine qm_G.s1 rfl (qm_x_iload rfl) ?_
            refine qm_G.s1 rfl (qm_x_iload rfl) ?_
            refine qm_G.s1 rfl (qm_x_iload rfl) ?_
            refine qm_G.cm rfl rfl (hS 61 rfl) rfl ?_
            refine qm_C.go (cd := qm_P65) (lv := [(0, qm_R (some (0, 61, 0))), (1, qm_I (qm_i a1)), (2, qm_I (qm_i 1)), (3, qm_I (qm_i a3))]) rfl rfl ?_
            refine qm_G.s1 rfl (qm_x_aload rfl) ?_
            refine qm_G.s1 rfl (qm_x_getfR (q := (some (0, 62, 0))) (hS 61 rfl) (hR 61 0 62 rfl rfl)) ?_
            refine qm_G.s1 rfl (qm_x_pushI 26 rfl) ?_
            refine qm_G.s1 rfl (qm_x_pushI 3 rfl) ?_
            refine qm_G.s1 rfl (qm_x_iload rfl) ?_
            refine qm_G.s1 rfl (qm_x_imul) ?_
            refine qm_G.s1 rfl (qm_x_iadd) ?_
            refine qm_G.s1 rfl (qm_x_pushI 1 rfl) ?_
            refine qm_G.s1 rfl (qm_x_iadd) ?_
            refine qm_G.s1 rfl (qm_x_iald (v := (J 62 0 (27 + 3 * (Int.toNat a1)))) (qm_arS hS rfl rfl) rfl (by omega) (by omega) (by decide) (congrArg (J 62 0) (by omega))) ?_
            refine qm_G.s1 rfl (qm_x_istore (lv' := [(4, qm_I (qm_i (J 62 0 (27 + 3 * (Int.toNat a1))))), (0, qm_R (some (0, 61, 0))), (1, qm_I (qm_i a1)), (2, qm_I (qm_i 1)), (3, qm_I (qm_i a3))]) rfl) ?_
            refine qm_G.s1 rfl (qm_x_aload rfl) ?_
            refine qm_G.s1 rfl (qm_x_getfR (q := (some (0, 62, 0))) (hS 61 rfl) (hR 61 0 62 rfl rfl)) ?_
            refine qm_G.s1 rfl (qm_x_pushI 26 rfl) ?_
            refine qm_G.s1 rfl (qm_x_pushI 3 rfl) ?_
            refine qm_G.s1 rfl (qm_x_iload rfl) ?_
            refine qm_G.s1 rfl (qm_x_imul) ?_
            refine qm_G.s1 rfl (qm_x_iadd) ?_
            refine qm_G.s1 rfl (qm_x_iald (v := (J 62 0 (26 + 3 * (Int.toNat a1)))) (qm_arS hS rfl rfl) rfl (by omega) (by omega) (by decide) (congrArg (J 62 0) (by omega))) ?_
            rcases (show (J 62 0 (26 + 3 * (Int.toNat a1)) < 0 ∨ 3 ≤ J 62 0 (26 + 3 * (Int.toNat a1))) by omega) with c87
            · refine qm_G.s1 rfl (qm_x_tswd (m := 3) rfl ⟨by omega, by omega⟩ (by omega) (by omega) (by decide)) ?_
              refine qm_G.sp (lv1 := [(3, qm_I (qm_i a3)), (4, qm_I (qm_i (J 62 0 (27 + 3 * (Int.toNat a1)))))]) rfl rfl (qm_x_pushI 0 rfl) ?_
              refine qm_G.s1 rfl (qm_x_pushI 0 rfl) ?_
              refine qm_G.s1 rfl (qm_x_iload rfl) ?_
              refine qm_G.s1 rfl (qm_x_pushI 1 rfl) ?_
              refine qm_G.s1 rfl (qm_x_isub) ?_
              refine qm_G.cs rfl rfl rfl ?_
              refine qm_C.go (cd := qm_P11) (lv := [(0, qm_I (qm_i 0)), (1, qm_I (qm_i (a3 - 1)))]) rfl rfl ?_
              refine qm_G.s1 rfl (qm_x_iload rfl) ?_
              refine qm_G.s1 rfl (qm_x_iload rfl) ?_
              refine qm_G.s1 rfl (qm_x_icmp_lt_f ⟨by decide, by decide⟩ ⟨by omega, by omega⟩ (by omega)) ?_
              refine qm_G.s1 rfl (qm_x_iload rfl) ?_
              refine qm_G.s1 rfl (qm_x_goto) ?_
              refine qm_G.ret rfl rfl ⟨_, rfl, ?_⟩
              refine qm_G.s1 rfl (qm_x_iload rfl) ?_
              refine qm_G.s1 rfl (qm_x_isub) ?_
              refine qm_G.cs rfl rfl rfl ?_
              refine qm_C.go (cd := qm_P11) (lv := [(0, qm_I (qm_i 0)), (1, qm_I (qm_i (0 - (J 62 0 (27 + 3 * (Int.toNat a1))))))]) rfl rfl ?_
              refine qm_G.s1 rfl (qm_x_iload rfl) ?_
              refine qm_G.s1 rfl (qm_x_iload rfl) ?_
              refine qm_G.s1 rfl (qm_x_icmp_lt_f ⟨by decide, by decide⟩ ⟨by omega, by omega⟩ (by omega)) ?_
              refine qm_G.s1 rfl (qm_x_iload rfl) ?_
              refine qm_G.s1 rfl (qm_x_goto) ?_
              refine qm_G.ret rfl rfl ⟨_, rfl, ?_⟩
              refine qm_G.ret rfl rfl ⟨_, rfl, ?_⟩
              refine qm_G.s1 rfl (qm_x_goto) ?_
              refine qm_G.ret rfl rfl ⟨_, rfl, ?_⟩
              refine qm_G.s1 rfl (qm_x_icmp_eq_t ⟨by decide, by decide⟩ ⟨by decide, by decide⟩ (by decide)) ?_
              exact ih _ _ _ _ _ _ hI.next
      · refine qm_G.ret rfl rfl ⟨_, rfl, ?_⟩
        refine qm_G.s1 rfl (qm_x_if_ne_f ⟨by decide, by decide⟩ (by decide)) ?_
        refine qm_G.s1 rfl (qm_x_pushI (-2) rfl) ?_
        refine qm_G.ret rfl rfl ⟨_, rfl, ?_⟩
        refine qm_G.s1 rfl (qm_x_aload rfl) ?_
        refine qm_G.s1 rfl (qm_x_aload rfl) ?_
        refine qm_G.s1 rfl (qm_x_iload rfl) ?_
        refine qm_G.s1 rfl (qm_x_pushI 1 rfl) ?_
        refine qm_G.s1 rfl (qm_x_iadd) ?_
        refine qm_G.s1 rfl (qm_x_iald2v (v := a1) (by omega) (by omega) hX e1) ?_
        refine qm_G.s1 rfl (qm_x_aload rfl) ?_
        refine qm_G.s1 rfl (qm_x_iload rfl) ?_
        refine qm_G.s1 rfl (qm_x_pushI 2 rfl) ?_
        refine qm_G.s1 rfl (qm_x_iadd) ?_
        refine qm_G.s1 rfl (qm_x_iald2v (v := 1) (by omega) (by omega) hX e2) ?_
        refine qm_G.s1 rfl (qm_x_aload rfl) ?_
        refine qm_G.s1 rfl (qm_x_iload rfl) ?_
        refine qm_G.s1 rfl (qm_x_pushI 3 rfl) ?_
        refine qm_G.s1 rfl (qm_x_iadd) ?_
        refine qm_G.s1 rfl (qm_x_iald2v (v := a3) (by omega) (by omega) hX e3) ?_
        refine qm_G.cm rfl rfl (hS 61 rfl) rfl ?_
        refine qm_C.go (cd := qm_P151) (lv := [(0, qm_R (some (0, 61, 0))), (1, qm_I (qm_i a1)), (2, qm_I (qm_i 1)), (3, qm_I (qm_i a3))]) rfl rfl ?_
        refine qm_G.s1 rfl (qm_x_aload rfl) ?_
        refine qm_G.s1 rfl (qm_x_iload rfl) ?_
        refine qm_G.cm rfl rfl (hS 61 rfl) rfl ?_
        refine qm_C.go (cd := qm_P82) (lv := [(0, qm_R (some (0, 61, 0))), (1, qm_I (qm_i a1))]) rfl rfl ?_
        refine qm_G.s1 rfl (qm_x_iload rfl) ?_
        refine qm_G.s1 rfl (qm_x_pushI 0 rfl) ?_
        refine qm_G.s1 rfl (qm_x_aload rfl) ?_
        refine qm_G.s1 rfl (qm_x_getfR (q := (some (0, 62, 0))) (hS 61 rfl) (hR 61 0 62 rfl rfl)) ?_
        refine qm_G.s1 rfl (qm_x_pushI 7 rfl) ?_
        refine qm_G.s1 rfl (qm_x_iald (v := (J 62 0 7)) (qm_arS hS rfl rfl) rfl (by decide) (by decide) (by decide) rfl) ?_
        refine qm_G.s1 rfl (qm_x_pushI 1 rfl) ?_
        refine qm_G.s1 rfl (qm_x_isub) ?_
        refine qm_G.cs rfl rfl rfl ?_
        refine qm_v_within11_t ⟨by omega, by omega⟩ ⟨by decide, by decide⟩ ⟨by omega, by omega⟩ (by omega) ⟨_, rfl, ?_⟩
        refine qm_G.ret rfl rfl ⟨_, rfl, ?_⟩
        refine qm_G.s1 rfl (qm_x_if_eq_f ⟨by decide, by decide⟩ (by decide)) ?_
        refine qm_G.s1 rfl (qm_x_iload rfl) ?_
        refine qm_G.cs rfl rfl rfl ?_
        refine qm_C.go (cd := qm_P83) (lv := [(0, qm_I (qm_i 1))]) rfl rfl ?_
        refine qm_G.s1 rfl (qm_x_iload rfl) ?_
        refine qm_G.s1 rfl (qm_x_pushI 0 rfl) ?_
        refine qm_G.s1 rfl (qm_x_pushI 1 rfl) ?_
        refine qm_G.cs rfl rfl rfl ?_
        refine qm_v_within11_t ⟨by decide, by decide⟩ ⟨by decide, by decide⟩ ⟨by decide, by decide⟩ (by decide) ⟨_, rfl, ?_⟩
        refine qm_G.ret rfl rfl ⟨_, rfl, ?_⟩
        refine qm_G.s1 rfl (qm_x_if_ne_t ⟨by decide, by decide⟩ (by decide)) ?_
        refine qm_G.sp (lv1 := [(0, qm_R (some (0, 61, 0))), (1, qm_I (qm_i a1)), (2, qm_I (qm_i 1)), (3, qm_I (qm_i a3))]) rfl rfl (qm_x_iload rfl) ?_
        refine qm_G.s1 rfl (qm_x_pushI 0 rfl) ?_
        refine qm_G.s1 rfl (qm_x_pushI 5 rfl) ?_
        refine qm_G.cs rfl rfl rfl ?_
        refine qm_v_within11_f ⟨by omega, by omega⟩ ⟨by decide, by decide⟩ ⟨by decide, by decide⟩ (by omega) ⟨_, rfl, ?_⟩
        refine qm_G.s1 rfl (qm_x_if_eq_t ⟨by decide, by decide⟩ (by decide)) ?_
        refine qm_G.sp (lv1 := []) rfl rfl (qm_x_pushI (-2) rfl) ?_
        refine qm_G.ret rfl rfl ⟨_, rfl, ?_⟩
        refine qm_G.s1 rfl (qm_x_icmp_eq_t ⟨by decide, by decide⟩ ⟨by decide, by decide⟩ (by decide)) ?_
        exact ih _ _ _ _ _ _ hI.next
    · refine qm_G.s1 rfl (qm_x_if_eq_t ⟨by decide, by decide⟩ (by decide)) ?_
      refine qm_G.sp (lv1 := []) rfl rfl (qm_x_push) ?_
      refine qm_G.ret rfl rfl ⟨_, rfl, ?_⟩
      refine qm_G.s1 rfl (qm_x_astore (lv' := [(4, qm_R (none)), (0, qm_R (some (0, 0, 0))), (1, qm_I (qm_i a1)), (2, qm_I (qm_i 1)), (3, qm_I (qm_i a3))]) rfl) ?_
      refine qm_G.s1 rfl (qm_x_aload rfl) ?_
      refine qm_G.s1 rfl (qm_x_ifnull0) ?_
      refine qm_G.sp (lv1 := []) rfl rfl (qm_x_pushI (-1) rfl) ?_
      refine qm_G.ret rfl rfl ⟨_, rfl, ?_⟩
      refine qm_G.s1 rfl (qm_x_aload rfl) ?_
      refine qm_G.s1 rfl (qm_x_aload rfl) ?_
      refine qm_G.s1 rfl (qm_x_iload rfl) ?_
      refine qm_G.s1 rfl (qm_x_pushI 1 rfl) ?_
      refine qm_G.s1 rfl (qm_x_iadd) ?_
      refine qm_G.s1 rfl (qm_x_iald2v (v := a1) (by omega) (by omega) hX e1) ?_
      refine qm_G.s1 rfl (qm_x_aload rfl) ?_
      refine qm_G.s1 rfl (qm_x_iload rfl) ?_
      refine qm_G.s1 rfl (qm_x_pushI 2 rfl) ?_
      refine qm_G.s1 rfl (qm_x_iadd) ?_
      refine qm_G.s1 rfl (qm_x_iald2v (v := 1) (by omega) (by omega) hX e2) ?_
      refine qm_G.s1 rfl (qm_x_aload rfl) ?_
      refine qm_G.s1 rfl (qm_x_iload rfl) ?_
      refine qm_G.s1 rfl (qm_x_pushI 3 rfl) ?_
      refine qm_G.s1 rfl (qm_x_iadd) ?_
      refine qm_G.s1 rfl (qm_x_iald2v (v := a3) (by omega) (by omega) hX e3) ?_
      refine qm_G.cm rfl rfl (hS 61 rfl) rfl ?_
      refine qm_C.go (cd := qm_P151) (lv := [(0, qm_R (some (0, 61, 0))), (1, qm_I (qm_i a1)), (2, qm_I (qm_i 1)), (3, qm_I (qm_i a3))]) rfl rfl ?_
      refine qm_G.s1 rfl (qm_x_aload rfl) ?_
      refine qm_G.s1 rfl (qm_x_iload rfl) ?_
      refine qm_G.cm rfl rfl (hS 61 rfl) rfl ?_
      refine qm_C.go (cd := qm_P82) (lv := [(0, qm_R (some (0, 61, 0))), (1, qm_I (qm_i a1))]) rfl rfl ?_
      refine qm_G.s1 rfl (qm_x_iload rfl) ?_
      refine qm_G.s1 rfl (qm_x_pushI 0 rfl) ?_
      refine qm_G.s1 rfl (qm_x_aload rfl) ?_
      refine qm_G.s1 rfl (qm_x_getfR (q := (some (0, 62, 0))) (hS 61 rfl) (hR 61 0 62 rfl rfl)) ?_
      refine qm_G.s1 rfl (qm_x_pushI 7 rfl) ?_
      refine qm_G.s1 rfl (qm_x_iald (v := (J 62 0 7)) (qm_arS hS rfl rfl) rfl (by decide) (by decide) (by decide) rfl) ?_
      refine qm_G.s1 rfl (qm_x_pushI 1 rfl) ?_
      refine qm_G.s1 rfl (qm_x_isub) ?_
      refine qm_G.cs rfl rfl rfl ?_
      refine qm_v_within11_f ⟨by omega, by omega⟩ ⟨by decide, by decide⟩ ⟨by omega, by omega⟩ (by omega) ⟨_, rfl, ?_⟩
      refine qm_G.ret rfl rfl ⟨_, rfl, ?_⟩
      refine qm_G.s1 rfl (qm_x_if_eq_t ⟨by decide, by decide⟩ (by decide)) ?_
      refine qm_G.sp (lv1 := []) rfl rfl (qm_x_pushI (-1) rfl) ?_
      refine qm_G.ret rfl rfl ⟨_, rfl, ?_⟩
      refine qm_G.s1 rfl (qm_x_icmp_eq_t ⟨by decide, by decide⟩ ⟨by decide, by decide⟩ (by decide)) ?_
      exact ih _ _ _ _ _ _ hI.next
  · refine qm_G.sp (lv1 := [(0, qm_R (some (2, 0, 0))), (1, qm_R (some (0, 0, 0))), (2, qm_R (some (0, 61, 0))), (3, qm_I (qm_i z))]) rfl rfl (qm_x_aload rfl) ?_
    refine qm_G.s1 rfl (qm_x_aload rfl) ?_
    refine qm_G.s1 rfl (qm_x_iload rfl) ?_
    refine qm_G.s1 rfl (qm_x_pushI 1 rfl) ?_
    refine qm_G.s1 rfl (qm_x_iadd) ?_
    refine qm_G.s1 rfl (qm_x_iald2v (v := a1) (by omega) (by omega) hX e1) ?_
    refine qm_G.s1 rfl (qm_x_aload rfl) ?_
    refine qm_G.s1 rfl (qm_x_iload rfl) ?_
    refine qm_G.s1 rfl (qm_x_pushI 2 rfl) ?_
    refine qm_G.s1 rfl (qm_x_iadd) ?_
    refine qm_G.s1 rfl (qm_x_iald2v (v := a2) (by omega) (by omega) hX e2) ?_
    refine qm_G.s1 rfl (qm_x_aload rfl) ?_
    refine qm_G.s1 rfl (qm_x_iload rfl) ?_
    refine qm_G.s1 rfl (qm_x_pushI 3 rfl) ?_
    refine qm_G.s1 rfl (qm_x_iadd) ?_
    refine qm_G.s1 rfl (qm_x_iald2v (v := a3) (by omega) (by omega) hX e3) ?_
    refine qm_G.cm rfl rfl (hS 0 rfl) rfl ?_
    refine qm_C.go (cd := qm_P158) (lv := [(0, qm_R (some (0, 0, 0))), (1, qm_I (qm_i a1)), (2, qm_I (qm_i a2)), (3, qm_I (qm_i a3))]) rfl rfl ?_
    refine qm_G.s1 rfl (qm_x_aload rfl) ?_
    refine qm_G.s1 rfl (qm_x_getfR (q := (some (0, 1, 0))) (hS 0 rfl) (hR 0 0 1 rfl rfl)) ?_
    refine qm_G.s1 rfl (qm_x_getfR (q := (some (0, 2, 0))) (hS 1 rfl) (hR 1 0 2 rfl rfl)) ?_
    refine qm_G.s1 rfl (qm_x_iload rfl) ?_
    refine qm_G.cm rfl rfl (hS 2 rfl) rfl ?_
    refine qm_C.go (cd := qm_P93) (lv := [(0, qm_R (some (0, 2, 0))), (1, qm_I (qm_i a1))]) rfl rfl ?_
    refine qm_G.s1 rfl (qm_x_iload rfl) ?_
    refine qm_G.s1 rfl (qm_x_pushI 0 rfl) ?_
    refine qm_G.s1 rfl (qm_x_aload rfl) ?_
    have f62_7 : 0 ≤ J 62 0 7 ∧ J 62 0 7 ≤ 8 := hI.mk.rrc
    have f2_3 : J 2 0 3 = J 62 0 7 := hI.mk.rc
    refine qm_G.s1 rfl (qm_x_getfI (v := (J 2 0 3)) (hS 2 rfl) rfl) ?_
    refine qm_G.s1 rfl (qm_x_pushI 1 rfl) ?_
    refine qm_G.s1 rfl (qm_x_isub) ?_
    refine qm_G.cs rfl rfl rfl ?_
    refine qm_v_within10 ⟨by omega, by omega⟩ ⟨by decide, by decide⟩ ⟨by omega, by omega⟩ (fun c92 => ⟨_, rfl, ?_⟩) (fun c92 => ⟨_, rfl, ?_⟩)
    · refine qm_G.s1 rfl (qm_x_if_eq_f ⟨by decide, by decide⟩ (by decide)) ?_
      refine qm_G.s1 rfl (qm_x_aload rfl) ?_
      refine qm_G.s1 rfl (qm_x_getfR (q := (some (0, 7, 0))) (hS 2 rfl) (hR 2 2 7 rfl rfl)) ?_
      refine qm_G.s1 rfl (qm_x_iload rfl) ?_
      obtain ⟨q93, g94r, g94h, g94s, g94a, g94b, g94c, g94x, g94y, g94z⟩ := hI.mk.riv (Int.toNat a1) (by omega) (by omega)
      refine qm_G.s1 rfl (qm_x_aaldr (q := (some (0, q93, 0))) (hS 7 rfl) rfl rfl (by omega) (by omega) g94r) ?_
      refine qm_G.s1 rfl (qm_x_goto) ?_
      refine qm_G.ret rfl rfl ⟨_, rfl, ?_⟩
      refine qm_G.s1 rfl (qm_x_astore (lv' := [(4, qm_R (some (0, q93, 0))), (0, qm_R (some (0, 0, 0))), (1, qm_I (qm_i a1)), (2, qm_I (qm_i a2)), (3, qm_I (qm_i a3))]) rfl) ?_
      refine qm_G.s1 rfl (qm_x_aload rfl) ?_
      refine qm_G.s1 rfl (qm_x_ifnull1) ?_
      refine qm_G.s1 rfl (qm_x_iload rfl) ?_
      refine qm_G.cs rfl rfl rfl ?_
      refine qm_C.go (cd := qm_P18) (lv := [(0, qm_I (qm_i a2))]) rfl rfl ?_
      refine qm_G.s1 rfl (qm_x_iload rfl) ?_
      refine qm_G.s1 rfl (qm_x_if_eq_f ⟨by omega, by omega⟩ (by omega)) ?_
      refine qm_G.s1 rfl (qm_x_iload rfl) ?_
      refine qm_G.s1 rfl (qm_x_pushI 1 rfl) ?_
      refine qm_G.s1 rfl (qm_x_icmp_ne_t ⟨by omega, by omega⟩ ⟨by decide, by decide⟩ (by omega)) ?_
      refine qm_G.sp (lv1 := []) rfl rfl (qm_x_pushI 0 rfl) ?_
      refine qm_G.ret rfl rfl ⟨_, rfl, ?_⟩
      refine qm_G.s1 rfl (qm_x_if_ne_f ⟨by decide, by decide⟩ (by decide)) ?_
      refine qm_G.sp (lv1 := []) rfl rfl (qm_x_pushI (-1) rfl) ?_
      refine qm_G.ret rfl rfl ⟨_, rfl, ?_⟩
      refine qm_G.s1 rfl (qm_x_aload rfl) ?_
      refine qm_G.s1 rfl (qm_x_aload rfl) ?_
      refine qm_G.s1 rfl (qm_x_iload rfl) ?_
      refine qm_G.s1 rfl (qm_x_pushI 1 rfl) ?_
      refine qm_G.s1 rfl (qm_x_iadd) ?_
      refine qm_G.s1 rfl (qm_x_iald2v (v := a1) (by omega) (by omega) hX e1) ?_
      refine qm_G.s1 rfl (qm_x_aload rfl) ?_
      refine qm_G.s1 rfl (qm_x_iload rfl) ?_
      refine qm_G.s1 rfl (qm_x_pushI 2 rfl) ?_
      refine qm_G.s1 rfl (qm_x_iadd) ?_
      refine qm_G.s1 rfl (qm_x_iald2v (v := a2) (by omega) (by omega) hX e2) ?_
      refine qm_G.s1 rfl (qm_x_aload rfl) ?_
      refine qm_G.s1 rfl (qm_x_iload rfl) ?_
      refine qm_G.s1 rfl (qm_x_pushI 3 rfl) ?_
      refine qm_G.s1 rfl (qm_x_iadd) ?_
      refine qm_G.s1 rfl (qm_x_iald2v (v := a3) (by omega) (by omega) hX e3) ?_
      refine qm_G.cm rfl rfl (hS 61 rfl) rfl ?_
      refine qm_C.go (cd := qm_P151) (lv := [(0, qm_R (some (0, 61, 0))), (1, qm_I (qm_i a1)), (2, qm_I (qm_i a2)), (3, qm_I (qm_i a3))]) rfl rfl ?_
      refine qm_G.s1 rfl (qm_x_aload rfl) ?_
      refine qm_G.s1 rfl (qm_x_iload rfl) ?_
      refine qm_G.cm rfl rfl (hS 61 rfl) rfl ?_
      refine qm_C.go (cd := qm_P82) (lv := [(0, qm_R (some (0, 61, 0))), (1, qm_I (qm_i a1))]) rfl rfl ?_
      refine qm_G.s1 rfl (qm_x_iload rfl) ?_
      refine qm_G.s1 rfl (qm_x_pushI 0 rfl) ?_
      refine qm_G.s1 rfl (qm_x_aload rfl) ?_
      refine qm_G.s1 rfl (qm_x_getfR (q := (some (0, 62, 0))) (hS 61 rfl) (hR 61 0 62 rfl rfl)) ?_
      refine qm_G.s1 rfl (qm_x_pushI 7 rfl) ?_
      refine qm_G.s1 rfl (qm_x_iald (v := (J 62 0 7)) (qm_arS hS rfl rfl) rfl (by decide) (by decide) (by decide) rfl) ?_
      refine qm_G.s1 rfl (qm_x_pushI 1 rfl) ?_
      refine qm_G.s1 rfl (qm_x_isub) ?_
      refine qm_G.cs rfl rfl rfl ?_
      refine qm_v_within11_t ⟨by omega, by omega⟩ ⟨by decide, by decide⟩ ⟨by omega, by omega⟩ (by omega) ⟨_, rfl, ?_⟩
      refine qm_G.ret rfl rfl ⟨_, rfl, ?_⟩
      refine qm_G.s1 rfl (qm_x_if_eq_f ⟨by decide, by decide⟩ (by decide)) ?_
      refine qm_G.s1 rfl (qm_x_iload rfl) ?_
      refine qm_G.cs rfl rfl rfl ?_
      refine qm_C.go (cd := qm_P83) (lv := [(0, qm_I (qm_i a2))]) rfl rfl ?_
      refine qm_G.s1 rfl (qm_x_iload rfl) ?_
      refine qm_G.s1 rfl (qm_x_pushI 0 rfl) ?_
      refine qm_G.s1 rfl (qm_x_pushI 1 rfl) ?_
      refine qm_G.cs rfl rfl rfl ?_
      refine qm_v_within11_f ⟨by omega, by omega⟩ ⟨by decide, by decide⟩ ⟨by decide, by decide⟩ (by omega) ⟨_, rfl, ?_⟩
      refine qm_G.ret rfl rfl ⟨_, rfl, ?_⟩
      refine qm_G.s1 rfl (qm_x_if_ne_f ⟨by decide, by decide⟩ (by decide)) ?_
      refine qm_G.sp (lv1 := []) rfl rfl (qm_x_pushI (-1) rfl) ?_
      refine qm_G.ret rfl rfl ⟨_, rfl, ?_⟩
      refine qm_G.s1 rfl (qm_x_icmp_eq_t ⟨by decide, by decide⟩ ⟨by decide, by decide⟩ (by decide)) ?_
      exact ih _ _ _ _ _ _ hI.next
    · refine qm_G.s1 rfl (qm_x_if_eq_t ⟨by decide, by decide⟩ (by decide)) ?_
      refine qm_G.sp (lv1 := []) rfl rfl (qm_x_push) ?_
      refine qm_G.ret rfl rfl ⟨_, rfl, ?_⟩
      refine qm_G.s1 rfl (qm_x_astore (lv' := [(4, qm_R (none)), (0, qm_R (some (0, 0, 0))), (1, qm_I (qm_i a1)), (2, qm_I (qm_i a2)), (3, qm_I (qm_i a3))]) rfl) ?_
      refine qm_G.s1 rfl (qm_x_aload rfl) ?_
      refine qm_G.s1 rfl (qm_x_ifnull0) ?_
      refine qm_G.sp (lv1 := []) rfl rfl (qm_x_pushI (-1) rfl) ?_
      refine qm_G.ret rfl rfl ⟨_, rfl, ?_⟩
      refine qm_G.s1 rfl (qm_x_aload rfl) ?_
      refine qm_G.s1 rfl (qm_x_aload rfl) ?_
      refine qm_G.s1 rfl (qm_x_iload rfl) ?_
      refine qm_G.s1 rfl (qm_x_pushI 1 rfl) ?_
      refine qm_G.s1 rfl (qm_x_iadd) ?_
      refine qm_G.s1 rfl (qm_x_iald2v (v := a1) (by omega) (by omega) hX e1) ?_
      refine qm_G.s1 rfl (qm_x_aload rfl) ?_
      refine qm_G.s1 rfl (qm_x_iload rfl) ?_
      refine qm_G.s1 rfl (qm_x_pushI 2 rfl) ?_
      refine qm_G.s1 rfl (qm_x_iadd) ?_
      refine qm_G.s1 rfl (qm_x_iald2v (v := a2) (by omega) (by omega) hX e2) ?_
      refine qm_G.s1 rfl (qm_x_aload rfl) ?_
      refine qm_G.s1 rfl (qm_x_iload rfl) ?_
      refine qm_G.s1 rfl (qm_x_pushI 3 rfl) ?_
      refine qm_G.s1 rfl (qm_x_iadd) ?_
      refine qm_G.s1 rfl (qm_x_iald2v (v := a3) (by omega) (by omega) hX e3) ?_
      refine qm_G.cm rfl rfl (hS 61 rfl) rfl ?_
      refine qm_C.go (cd := qm_P151) (lv := [(0, qm_R (some (0, 61, 0))), (1, qm_I (qm_i a1)), (2, qm_I (qm_i a2)), (3, qm_I (qm_i a3))]) rfl rfl ?_
      refine qm_G.s1 rfl (qm_x_aload rfl) ?_
      refine qm_G.s1 rfl (qm_x_iload rfl) ?_
      refine qm_G.cm rfl rfl (hS 61 rfl) rfl ?_
      refine qm_C.go (cd := qm_P82) (lv := [(0, qm_R (some (0, 61, 0))), (1, qm_I (qm_i a1))]) rfl rfl ?_
      refine qm_G.s1 rfl (qm_x_iload rfl) ?_
      refine qm_G.s1 rfl (qm_x_pushI 0 rfl) ?_
      refine qm_G.s1 rfl (qm_x_aload rfl) ?_
      refine qm_G.s1 rfl (qm_x_getfR (q := (some (0, 62, 0))) (hS 61 rfl) (hR 61 0 62 rfl rfl)) ?_
      refine qm_G.s1 rfl (qm_x_pushI 7 rfl) ?_
      refine qm_G.s1 rfl (qm_x_iald (v := (J 62 0 7)) (qm_arS hS rfl rfl) rfl (by decide) (by decide) (by decide) rfl) ?_
      refine qm_G.s1 rfl (qm_x_pushI 1 rfl) ?_
      refine qm_G.s1 rfl (qm_x_isub) ?_
      refine qm_G.cs rfl rfl rfl ?_
      refine qm_v_within11_f ⟨by omega, by omega⟩ ⟨by decide, by decide⟩ ⟨by omega, by omega⟩ (by omega) ⟨_, rfl, ?_⟩
      refine qm_G.ret rfl rfl ⟨_, rfl, ?_⟩
      refine qm_G.s1 rfl (qm_x_if_eq_t ⟨by decide, by decide⟩ (by decide)) ?_
      refine qm_G.sp (lv1 := []) rfl rfl (qm_x_pushI (-1) rfl) ?_
      refine qm_G.ret rfl rfl ⟨_, rfl, ?_⟩
      refine qm_G.s1 rfl (qm_x_icmp_eq_t ⟨by decide, by decide⟩ ⟨by decide, by decide⟩ (by decide)) ?_
      exact ih _ _ _ _ _ _ hI.next
