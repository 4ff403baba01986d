/-! THE LAW, case 24 -/
theorem qm_case24 {S : List qm_Sh} {J K : qm_J} {L : qm_Ct Int64} {D : qm_Ct UInt64} {R : qm_Ct (Option qm_Rf)} {X : Nat × (Nat → Int32)} {k : Nat} {z : Int} {Q : Option qm_V → qm_Hp → Prop} {a1 : Int} {a2 : Int} {a3 : Int} (hI : qm_Inv S J K L D R k) (hX : X.1 ≤ 3072) (h0 : 0 ≤ z) (h6 : z + 6 ≤ X.1) (e1 : (X.2 (Int.toNat (z + 1))).toInt = a1) (e2 : (X.2 (Int.toNat (z + 2))).toInt = a2) (e3 : (X.2 (Int.toNat (z + 3))).toInt = a3) (ih : ∀ (S : List qm_Sh) (J K : qm_J) (L : qm_Ct Int64) (D : qm_Ct UInt64) (R : qm_Ct (Option qm_Rf)), qm_Inv S J K L D R (k + 1) → qm_G qm_P qm_P222 1445 [(0, qm_R (some (2, 0, 0))), (1, qm_R (some (0, 0, 0))), (2, qm_R (some (0, 61, 0))), (3, qm_I (qm_i z))] [] (qm_H S J K L D R X) Q) : qm_G qm_P qm_P222 983 [(0, qm_R (some (2, 0, 0))), (1, qm_R (some (0, 0, 0))), (2, qm_R (some (0, 61, 0))), (3, qm_I (qm_i z))] [] (qm_H S J K L D R X) Q := by
  have hS := hI.sd
  have hR := hI.rd
  have s1 : qm_sm a1 := e1 ▸ qm_i_sml _
  have s2 : qm_sm a2 := e2 ▸ qm_i_sml _
  have s3 : qm_sm a3 := e3 ▸ qm_i_sml _
  refine qm_G.sp (lv1 := [(0, qm_R (some (2, 0, 0))), (1, qm_R (some (0, 0, 0))), (2, qm_R (some (0, 61, 0))), (3, qm_I (qm_i z))]) rfl rfl (qm_x_aload rfl) ?_
  refine qm_G.s1 rfl (qm_x_aload rfl) ?_
  refine qm_G.s1 rfl (qm_x_iload rfl) ?_
  refine qm_G.s1 rfl (qm_x_pushI 1 rfl) ?_
  refine qm_G.s1 rfl (qm_x_iadd) ?_
  refine qm_G.s1 rfl (qm_x_iald2v (v := a1) (by omega) (by omega) hX e1) ?_
  refine qm_G.s1 rfl (qm_x_aload rfl) ?_
  refine qm_G.s1 rfl (qm_x_iload rfl) ?_
  refine qm_G.s1 rfl (qm_x_pushI 2 rfl) ?_
  refine qm_G.s1 rfl (qm_x_iadd) ?_
  refine qm_G.s1 rfl (qm_x_iald2v (v := a2) (by omega) (by omega) hX e2) ?_
  refine qm_G.s1 rfl (qm_x_aload rfl) ?_
  refine qm_G.s1 rfl (qm_x_iload rfl) ?_
  refine qm_G.s1 rfl (qm_x_pushI 3 rfl) ?_
  refine qm_G.s1 rfl (qm_x_iadd) ?_
  refine qm_G.s1 rfl (qm_x_iald2v (v := a3) (by omega) (by omega) hX e3) ?_
  refine qm_G.cm rfl rfl (hS 0 rfl) rfl ?_
  refine qm_C.go (cd := qm_P121) (lv := [(0, qm_R (some (0, 0, 0))), (1, qm_I (qm_i a1)), (2, qm_I (qm_i a2)), (3, qm_I (qm_i a3))]) rfl rfl ?_
  refine qm_G.s1 rfl (qm_x_iload rfl) ?_
  refine qm_G.s1 rfl (qm_x_pushI (-1) rfl) ?_
  refine qm_y_icmp_ne rfl ⟨by omega, by omega⟩ ⟨by decide, by decide⟩ (fun c1 => ?_) (fun c1 => ?_)
  · refine qm_G.sp (lv1 := [(0, qm_R (some (0, 0, 0))), (1, qm_I (qm_i a1)), (2, qm_I (qm_i a2)), (3, qm_I (qm_i a3))]) rfl rfl (qm_x_iload rfl) ?_
    refine qm_G.cs rfl rfl rfl ?_
    refine qm_C.go (cd := qm_P75) (lv := [(0, qm_I (qm_i a1))]) rfl rfl ?_
    refine qm_G.s1 rfl (qm_x_iload rfl) ?_
    refine qm_G.s1 rfl (qm_x_pushI (-8) rfl) ?_
    refine qm_G.s1 rfl (qm_x_pushI 8 rfl) ?_
    refine qm_G.cs rfl rfl rfl ?_
    refine qm_v_within10 ⟨by omega, by omega⟩ ⟨by decide, by decide⟩ ⟨by decide, by decide⟩ (fun c2 => ⟨_, rfl, ?_⟩) (fun c2 => ⟨_, rfl, ?_⟩)
    · refine qm_G.ret rfl rfl ⟨_, rfl, ?_⟩
      refine qm_G.s1 rfl (qm_x_if_eq_f ⟨by decide, by decide⟩ (by decide)) ?_
      refine qm_G.s1 rfl (qm_x_iload rfl) ?_
      refine qm_G.cs rfl rfl rfl ?_
      refine qm_C.go (cd := qm_P74) (lv := [(0, qm_I (qm_i a2))]) rfl rfl ?_
      refine qm_G.s1 rfl (qm_x_iload rfl) ?_
      refine qm_G.s1 rfl (qm_x_pushI 0 rfl) ?_
      refine qm_G.s1 rfl (qm_x_pushI 6 rfl) ?_
      refine qm_G.cs rfl rfl rfl ?_
      refine qm_v_within10 ⟨by omega, by omega⟩ ⟨by decide, by decide⟩ ⟨by decide, by decide⟩ (fun c3 => ⟨_, rfl, ?_⟩) (fun c3 => ⟨_, rfl, ?_⟩)
      · refine qm_G.ret rfl rfl ⟨_, rfl, ?_⟩
        refine qm_G.s1 rfl (qm_x_if_eq_f ⟨by decide, by decide⟩ (by decide)) ?_
        refine qm_G.s1 rfl (qm_x_iload rfl) ?_
        refine qm_G.cs rfl rfl rfl ?_
        refine qm_C.go (cd := qm_P74) (lv := [(0, qm_I (qm_i a3))]) rfl rfl ?_
        refine qm_G.s1 rfl (qm_x_iload rfl) ?_
        refine qm_G.s1 rfl (qm_x_pushI 0 rfl) ?_
        refine qm_G.s1 rfl (qm_x_pushI 6 rfl) ?_
        refine qm_G.cs rfl rfl rfl ?_
        refine qm_v_within10 ⟨by omega, by omega⟩ ⟨by decide, by decide⟩ ⟨by decide, by decide⟩ (fun c4 => ⟨_, rfl, ?_⟩) (fun c4 => ⟨_, rfl, ?_⟩)
        · refine qm_G.ret rfl rfl ⟨_, rfl, ?_⟩
          refine qm_G.s1 rfl (qm_x_if_ne_t ⟨by decide, by decide⟩ (by decide)) ?_
          refine qm_G.sp (lv1 := [(0, qm_R (some (0, 0, 0))), (1, qm_I (qm_i a1)), (2, qm_I (qm_i a2)), (3, qm_I (qm_i a3))]) rfl rfl (qm_x_aload rfl) ?_
          refine qm_G.s1 rfl (qm_x_getfR (q := (some (0, 1, 0))) (hS 0 rfl) (hR 0 0 1 rfl rfl)) ?_
          refine qm_G.s1 rfl (qm_x_getfR (q := (some (0, 11, 0))) (hS 1 rfl) (hR 1 2 11 rfl rfl)) ?_
          refine qm_G.s1 rfl (qm_x_iload rfl) ?_
          refine qm_G.s1 rfl (qm_x_iload rfl) ?_
          refine qm_G.s1 rfl (qm_x_iload rfl) ?_
          refine qm_G.cm rfl rfl (hS 11 rfl) rfl ?_
          refine qm_C.go (cd := qm_P40) (lv := [(0, qm_R (some (0, 11, 0))), (1, qm_I (qm_i a1)), (2, qm_I (qm_i a2)), (3, qm_I (qm_i a3))]) rfl rfl ?_
          refine qm_G.s1 rfl (qm_x_aload rfl) ?_
          have f62_12 : 0 ≤ J 62 0 12 ∧ J 62 0 12 ≤ 5 := hI.nt.rsc
          have f11_3 : J 11 0 3 = J 62 0 12 := hI.nt.sc
          refine qm_G.s1 rfl (qm_x_getfI (v := (J 11 0 3)) (hS 11 rfl) rfl) ?_
          refine qm_G.s1 rfl (qm_x_pushI 5 rfl) ?_
          refine qm_y_icmp_lt rfl ⟨by omega, by omega⟩ ⟨by decide, by decide⟩ (fun c5 => ?_) (fun c5 => ?_)
          · refine qm_G.sp (lv1 := [(0, qm_R (some (0, 11, 0))), (1, qm_I (qm_i a1)), (2, qm_I (qm_i a2)), (3, qm_I (qm_i a3))]) rfl rfl (qm_x_aload rfl) ?_
            refine qm_G.s1 rfl (qm_x_getfR (q := (some (0, 12, 0))) (hS 11 rfl) (hR 11 0 12 rfl rfl)) ?_
            refine qm_G.s1 rfl (qm_x_aload rfl) ?_
            refine qm_G.s1 rfl (qm_x_getfI (v := (J 11 0 3)) (hS 11 rfl) rfl) ?_
            refine qm_G.s1 rfl (qm_x_iload rfl) ?_
            refine qm_G.s1 rfl (qm_x_iast (qm_arS hS rfl rfl) rfl (by omega) (by omega) (by decide)) ?_
            refine qm_G.s1 rfl (qm_x_aload rfl) ?_
            refine qm_G.s1 rfl (qm_x_getfR (q := (some (0, 13, 0))) (hS 11 rfl) (hR 11 1 13 rfl rfl)) ?_
            refine qm_G.s1 rfl (qm_x_aload rfl) ?_
            refine qm_G.s1 rfl (qm_x_getfI (v := (J 11 0 3)) (hS 11 rfl) rfl) ?_
            refine qm_G.s1 rfl (qm_x_iload rfl) ?_
            refine qm_G.s1 rfl (qm_x_iast (qm_arS hS rfl rfl) rfl (by omega) (by omega) (by decide)) ?_
            refine qm_G.s1 rfl (qm_x_aload rfl) ?_
            refine qm_G.s1 rfl (qm_x_getfR (q := (some (0, 14, 0))) (hS 11 rfl) (hR 11 2 14 rfl rfl)) ?_
            refine qm_G.s1 rfl (qm_x_aload rfl) ?_
            refine qm_G.s1 rfl (qm_x_getfI (v := (J 11 0 3)) (hS 11 rfl) rfl) ?_
            refine qm_G.s1 rfl (qm_x_iload rfl) ?_
            refine qm_G.s1 rfl (qm_x_iast (qm_arS hS rfl rfl) rfl (by omega) (by omega) (by decide)) ?_
            refine qm_G.s1 rfl (qm_x_aload rfl) ?_
            refine qm_G.s1 rfl (qm_x_dupR) ?_
            refine qm_G.s1 rfl (qm_x_getfI (v := (J 11 0 3)) (hS 11 rfl) rfl) ?_
            refine qm_G.s1 rfl (qm_x_pushI 1 rfl) ?_
            refine qm_G.s1 rfl (qm_x_iadd) ?_
            refine qm_G.s1 rfl (qm_x_putfI (hS 11 rfl)) ?_
            refine qm_G.s1 rfl (qm_x_aload rfl) ?_
            refine qm_G.s1 rfl (qm_x_getfI (v := ((J 11 0 3) + 1)) (hS 11 rfl) rfl) ?_
            refine qm_G.ret rfl rfl ⟨_, rfl, ?_⟩
            refine qm_G.ret rfl rfl ⟨_, rfl, ?_⟩
            refine qm_G.s1 rfl (qm_x_aload rfl) ?_
            refine qm_G.s1 rfl (qm_x_aload rfl) ?_
            refine qm_G.s1 rfl (qm_x_iload rfl) ?_
            refine qm_G.s1 rfl (qm_x_pushI 1 rfl) ?_
            refine qm_G.s1 rfl (qm_x_iadd) ?_
            refine qm_G.s1 rfl (qm_x_iald2v (v := a1) (by omega) (by omega) hX e1) ?_
            refine qm_G.s1 rfl (qm_x_aload rfl) ?_
            refine qm_G.s1 rfl (qm_x_iload rfl) ?_
            refine qm_G.s1 rfl (qm_x_pushI 2 rfl) ?_
            refine qm_G.s1 rfl (qm_x_iadd) ?_
            refine qm_G.s1 rfl (qm_x_iald2v (v := a2) (by omega) (by omega) hX e2) ?_
            refine qm_G.s1 rfl (qm_x_aload rfl) ?_
            refine qm_G.s1 rfl (qm_x_iload rfl) ?_
            refine qm_G.s1 rfl (qm_x_pushI 3 rfl) ?_
            refine qm_G.s1 rfl (qm_x_iadd) ?_
            refine qm_G.s1 rfl (qm_x_iald2v (v := a3) (by omega) (by omega) hX e3) ?_
            refine qm_G.cm rfl rfl (hS 61 rfl) rfl ?_
            refine qm_C.go (cd := qm_P89) (lv := [(0, qm_R (some (0, 61, 0))), (1, qm_I (qm_i a1)), (2, qm_I (qm_i a2)), (3, qm_I (qm_i a3))]) rfl rfl ?_
            refine qm_G.s1 rfl (qm_x_iload rfl) ?_
            refine qm_G.s1 rfl (qm_x_pushI (-1) rfl) ?_
            refine qm_G.s1 rfl (qm_x_icmp_ne_t ⟨by omega, by omega⟩ ⟨by decide, by decide⟩ (by omega)) ?_
            refine qm_G.sp (lv1 := [(0, qm_R (some (0, 61, 0))), (1, qm_I (qm_i a1)), (2, qm_I (qm_i a2)), (3, qm_I (qm_i a3))]) rfl rfl (qm_x_iload rfl) ?_
            refine qm_G.s1 rfl (qm_x_pushI (-8) rfl) ?_
            refine qm_G.s1 rfl (qm_x_pushI 8 rfl) ?_
            refine qm_G.cs rfl rfl rfl ?_
            refine qm_v_within11_t ⟨by omega, by omega⟩ ⟨by decide, by decide⟩ ⟨by decide, by decide⟩ (by omega) ⟨_, rfl, ?_⟩
            refine qm_G.s1 rfl (qm_x_if_eq_f ⟨by decide, by decide⟩ (by decide)) ?_
            refine qm_G.s1 rfl (qm_x_iload rfl) ?_
            refine qm_G.s1 rfl (qm_x_pushI 0 rfl) ?_
            refine qm_G.s1 rfl (qm_x_pushI 6 rfl) ?_
            refine qm_G.cs rfl rfl rfl ?_
            refine qm_v_within11_t ⟨by omega, by omega⟩ ⟨by decide, by decide⟩ ⟨by decide, by decide⟩ (by omega) ⟨_, rfl, ?_⟩
            refine qm_G.s1 rfl (qm_x_if_eq_f ⟨by decide, by decide⟩ (by decide)) ?_
            refine qm_G.s1 rfl (qm_x_iload rfl) ?_
            refine qm_G.s1 rfl (qm_x_pushI 0 rfl) ?_
            refine qm_G.s1 rfl (qm_x_pushI 6 rfl) ?_
            refine qm_G.cs rfl rfl rfl ?_
            refine qm_v_within11_t ⟨by omega, by omega⟩ ⟨by decide, by decide⟩ ⟨by decide, by decide⟩ (by omega) ⟨_, rfl, ?_⟩
            refine qm_G.s1 rfl (qm_x_if_ne_t ⟨by decide, by decide⟩ (by decide)) ?_
            refine qm_G.sp (lv1 := [(0, qm_R (some (0, 61, 0))), (1, qm_I (qm_i a1)), (2, qm_I (qm_i a2)), (3, qm_I (qm_i a3))]) rfl rfl (qm_x_aload rfl) ?_
            refine qm_G.s1 rfl (qm_x_getfR (q := (some (0, 62, 0))) (hS 61 rfl) (hR 61 0 62 rfl rfl)) ?_
            refine qm_G.s1 rfl (qm_x_pushI 12 rfl) ?_
            refine qm_G.s1 rfl (qm_x_iald (v := (J 62 0 12)) (qm_arS hS rfl rfl) rfl (by decide) (by decide) (by decide) rfl) ?_
            refine qm_G.s1 rfl (qm_x_pushI 5 rfl) ?_
            refine qm_G.s1 rfl (qm_x_icmp_ne_t ⟨by omega, by omega⟩ ⟨by decide, by decide⟩ (by omega)) ?_
            refine qm_G.sp (lv1 := [(0, qm_R (some (0, 61, 0))), (1, qm_I (qm_i a1)), (2, qm_I (qm_i a2)), (3, qm_I (qm_i a3))]) rfl rfl (qm_x_pushI 96 rfl) ?_
            refine qm_G.s1 rfl (qm_x_pushI 3 rfl) ?_
            refine qm_G.s1 rfl (qm_x_aload rfl) ?_
            refine qm_G.s1 rfl (qm_x_getfR (q := (some (0, 62, 0))) (hS 61 rfl) (hR 61 0 62 rfl rfl)) ?_
            refine qm_G.s1 rfl (qm_x_pushI 12 rfl) ?_
            refine qm_G.s1 rfl (qm_x_iald (v := (J 62 0 12)) (qm_arS hS rfl rfl) rfl (by decide) (by decide) (by decide) rfl) ?_
            refine qm_G.s1 rfl (qm_x_imul) ?_
            refine qm_G.s1 rfl (qm_x_iadd) ?_
            refine qm_G.s1 rfl (qm_x_istore (lv' := [(4, qm_I (qm_i (96 + (3 * (J 62 0 12))))), (0, qm_R (some (0, 61, 0))), (1, qm_I (qm_i a1)), (2, qm_I (qm_i a2)), (3, qm_I (qm_i a3))]) rfl) ?_
            refine qm_G.s1 rfl (qm_x_aload rfl) ?_
            refine qm_G.s1 rfl (qm_x_getfR (q := (some (0, 62, 0))) (hS 61 rfl) (hR 61 0 62 rfl rfl)) ?_
            refine qm_G.s1 rfl (qm_x_iload rfl) ?_
            refine qm_G.s1 rfl (qm_x_iload rfl) ?_
            refine qm_G.s1 rfl (qm_x_iast (qm_arS hS rfl rfl) rfl (by omega) (by omega) (by decide)) ?_
            refine qm_G.s1 rfl (qm_x_aload rfl) ?_
            refine qm_G.s1 rfl (qm_x_getfR (q := (some (0, 62, 0))) (hS 61 rfl) (hR 61 0 62 rfl rfl)) ?_
            refine qm_G.s1 rfl (qm_x_iload rfl) ?_
            refine qm_G.s1 rfl (qm_x_pushI 1 rfl) ?_
            refine qm_G.s1 rfl (qm_x_iadd) ?_
            refine qm_G.s1 rfl (qm_x_iload rfl) ?_
            refine qm_G.s1 rfl (qm_x_iast (qm_arS hS rfl rfl) rfl (by omega) (by omega) (by decide)) ?_
            refine qm_G.s1 rfl (qm_x_aload rfl) ?_
            refine qm_G.s1 rfl (qm_x_getfR (q := (some (0, 62, 0))) (hS 61 rfl) (hR 61 0 62 rfl rfl)) ?_
            refine qm_G.s1 rfl (qm_x_iload rfl) ?_
            refine qm_G.s1 rfl (qm_x_pushI 2 rfl) ?_
            refine qm_G.s1 rfl (qm_x_iadd) ?_
            refine qm_G.s1 rfl (qm_x_iload rfl) ?_
            refine qm_G.s1 rfl (qm_x_iast (qm_arS hS rfl rfl) rfl (by omega) (by omega) (by decide)) ?_
            refine qm_G.s1 rfl (qm_x_aload rfl) ?_
            refine qm_G.s1 rfl (qm_x_getfR (q := (some (0, 62, 0))) (hS 61 rfl) (hR 61 0 62 rfl rfl)) ?_
            refine qm_G.s1 rfl (qm_x_pushI 12 rfl) ?_
            refine qm_G.s1 rfl (qm_x_dup2 rfl) ?_
            refine qm_G.s1 rfl (qm_x_iald (v := (J 62 0 12)) (qm_arS hS rfl rfl) rfl (by decide) (by decide) (by decide) (by unfold qm_set; rw [if_neg (by omega), if_neg (by omega), if_neg (by omega), if_neg (by omega), if_neg (by omega), if_neg (by omega), if_neg (by omega)] <;> rfl)) ?_
            refine qm_G.s1 rfl (qm_x_pushI 1 rfl) ?_
            refine qm_G.s1 rfl (qm_x_iadd) ?_
            refine qm_G.s1 rfl (qm_x_dup_x2 rfl) ?_
            refine qm_G.s1 rfl (qm_x_iast (qm_arS hS rfl rfl) rfl (by decide) (by decide) (by decide)) ?_
            refine qm_G.ret rfl rfl ⟨_, rfl, ?_⟩
            refine qm_G.s1 rfl (qm_x_icmp_eq_t ⟨by omega, by omega⟩ ⟨by omega, by omega⟩ (by omega)) ?_
            rw [show (Int.toNat (96 + (3 * (J 62 0 12)))) = 96 + 3 * (Int.toNat (J 11 0 3)) by omega, show (Int.toNat ((96 + (3 * (J 62 0 12))) + 1)) = 97 + 3 * (Int.toNat (J 11 0 3)) by omega, show (Int.toNat ((96 + (3 * (J 62 0 12))) + 2)) = 98 + 3 * (Int.toNat (J 11 0 3)) by omega]
            exact ih _ _ _ _ _ _ (qm_U_see (by omega) (by omega) (by omega) (by omega) (by omega) hI)
          · refine qm_G.s1 rfl (qm_x_pushI (-4) rfl) ?_
            refine qm_G.ret rfl rfl ⟨_, rfl, ?_⟩
            refine qm_G.ret rfl rfl ⟨_, rfl, ?_⟩
            refine qm_G.s1 rfl (qm_x_aload rfl) ?_
            refine qm_G.s1 rfl (qm_x_aload rfl) ?_
            refine qm_G.s1 rfl (qm_x_iload rfl) ?_
            refine qm_G.s1 rfl (qm_x_pushI 1 rfl) ?_
            refine qm_G.s1 rfl (qm_x_iadd) ?_
            refine qm_G.s1 rfl (qm_x_iald2v (v := a1) (by omega) (by omega) hX e1) ?_
            refine qm_G.s1 rfl (qm_x_aload rfl) ?_
            refine qm_G.s1 rfl (qm_x_iload rfl) ?_
            refine qm_G.s1 rfl (qm_x_pushI 2 rfl) ?_
            refine qm_G.s1 rfl (qm_x_iadd) ?_
            refine qm_G.s1 rfl (qm_x_iald2v (v := a2) (by omega) (by omega) hX e2) ?_
            refine qm_G.s1 rfl (qm_x_aload rfl) ?_
            refine qm_G.s1 rfl (qm_x_iload rfl) ?_
            refine qm_G.s1 rfl (qm_x_pushI 3 rfl) ?_
            refine qm_G.s1 rfl (qm_x_iadd) ?_
            refine qm_G.s1 rfl (qm_x_iald2v (v := a3) (by omega) (by omega) hX e3) ?_
            refine qm_G.cm rfl rfl (hS 61 rfl) rfl ?_
            refine qm_C.go (cd := qm_P89) (lv := [(0, qm_R (some (0, 61, 0))), (1, qm_I (qm_i a1)), (2, qm_I (qm_i a2)), (3, qm_I (qm_i a3))]) rfl rfl ?_
            refine qm_G.s1 rfl (qm_x_iload rfl) ?_
            refine qm_G.s1 rfl (qm_x_pushI (-1) rfl) ?_
            refine qm_G.s1 rfl (qm_x_icmp_ne_t ⟨by omega, by omega⟩ ⟨by decide, by decide⟩ (by omega)) ?_
            refine qm_G.sp (lv1 := [(0, qm_R (some (0, 61, 0))), (1, qm_I (qm_i a1)), (2, qm_I (qm_i a2)), (3, qm_I (qm_i a3))]) rfl rfl (qm_x_iload rfl) ?_
            refine qm_G.s1 rfl (qm_x_pushI (-8) rfl) ?_
            refine qm_G.s1 rfl (qm_x_pushI 8 rfl) ?_
            refine qm_G.cs rfl rfl rfl ?_
            refine qm_v_within11_t ⟨by omega, by omega⟩ ⟨by decide, by decide⟩ ⟨by decide, by decide⟩ (by omega) ⟨_, rfl, ?_⟩
            refine qm_G.s1 rfl (qm_x_if_eq_f ⟨by decide, by decide⟩ (by decide)) ?_
            refine qm_G.s1 rfl (qm_x_iload rfl) ?_
            refine qm_G.s1 rfl (qm_x_pushI 0 rfl) ?_
            refine qm_G.s1 rfl (qm_x_pushI 6 rfl) ?_
            refine qm_G.cs rfl rfl rfl ?_
            refine qm_v_within11_t ⟨by omega, by omega⟩ ⟨by decide, by decide⟩ ⟨by decide, by decide⟩ (by omega) ⟨_, rfl, ?_⟩
            refine qm_G.s1 rfl (qm_x_if_eq_f ⟨by decide, by decide⟩ (by decide)) ?_
            refine qm_G.s1 rfl (qm_x_iload rfl) ?_
            refine qm_G.s1 rfl (qm_x_pushI 0 rfl) ?_
            refine qm_G.s1 rfl (qm_x_pushI 6 rfl) ?_
            refine qm_G.cs rfl rfl rfl ?_
            refine qm_v_within11_t ⟨by omega, by omega⟩ ⟨by decide, by decide⟩ ⟨by decide, by decide⟩ (by omega) ⟨_, rfl, ?_⟩
            refine qm_G.s1 rfl (qm_x_if_ne_t ⟨by decide, by decide⟩ (by decide)) ?_
            refine qm_G.sp (lv1 := [(0, qm_R (some (0, 61, 0))), (1, qm_I (qm_i a1)), (2, qm_I (qm_i a2)), (3, qm_I (qm_i a3))]) rfl rfl (qm_x_aload rfl) ?_
            refine qm_G.s1 rfl (qm_x_getfR (q := (some (0, 62, 0))) (hS 61 rfl) (hR 61 0 62 rfl rfl)) ?_
            refine qm_G.s1 rfl (qm_x_pushI 12 rfl) ?_
            refine qm_G.s1 rfl (qm_x_iald (v := (J 62 0 12)) (qm_arS hS rfl rfl) rfl (by decide) (by decide) (by decide) rfl) ?_
            refine qm_G.s1 rfl (qm_x_pushI 5 rfl) ?_
            refine qm_G.s1 rfl (qm_x_icmp_ne_f ⟨by omega, by omega⟩ ⟨by decide, by decide⟩ (by omega)) ?_
            refine qm_G.s1 rfl (qm_x_pushI (-4) rfl) ?_
            refine qm_G.ret rfl rfl ⟨_, rfl, ?_⟩
            refine qm_G.s1 rfl (qm_x_icmp_eq_t ⟨by decide, by decide⟩ ⟨by decide, by decide⟩ (by decide)) ?_
            exact ih _ _ _ _ _ _ hI.next
        · refine qm_G.ret rfl rfl ⟨_, rfl, ?_⟩
          refine qm_G.s1 rfl (qm_x_if_ne_f ⟨by decide, by decide⟩ (by decide)) ?_
          refine qm_G.sp (lv1 := []) rfl rfl (qm_x_pushI (-2) rfl) ?_
          refine qm_G.ret rfl rfl ⟨_, rfl, ?_⟩
          refine qm_G.s1 rfl (qm_x_aload rfl) ?_
          refine qm_G.s1 rfl (qm_x_aload rfl) ?_
          refine qm_G.s1 rfl (qm_x_iload rfl) ?_
          refine qm_G.s1 rfl (qm_x_pushI 1 rfl) ?_
          refine qm_G.s1 rfl (qm_x_iadd) ?_
          refine qm_G.s1 rfl (qm_x_iald2v (v := a1) (by omega) (by omega) hX e1) ?_
          refine qm_G.s1 rfl (qm_x_aload rfl) ?_
          refine qm_G.s1 rfl (qm_x_iload rfl) ?_
          refine qm_G.s1 rfl (qm_x_pushI 2 rfl) ?_
          refine qm_G.s1 rfl (qm_x_iadd) ?_
          refine qm_G.s1 rfl (qm_x_iald2v (v := a2) (by omega) (by omega) hX e2) ?_
          refine qm_G.s1 rfl (qm_x_aload rfl) ?_
          refine qm_G.s1 rfl (qm_x_iload rfl) ?_
          refine qm_G.s1 rfl (qm_x_pushI 3 rfl) ?_
          refine qm_G.s1 rfl (qm_x_iadd) ?_
          refine qm_G.s1 rfl (qm_x_iald2v (v := a3) (by omega) (by omega) hX e3) ?_
          refine qm_G.cm rfl rfl (hS 61 rfl) rfl ?_
          refine qm_C.go (cd := qm_P89) (lv := [(0, qm_R (some (0, 61, 0))), (1, qm_I (qm_i a1)), (2, qm_I (qm_i a2)), (3, qm_I (qm_i a3))]) rfl rfl ?_
          refine qm_G.s1 rfl (qm_x_iload rfl) ?_
          refine qm_G.s1 rfl (qm_x_pushI (-1) rfl) ?_
          refine qm_G.s1 rfl (qm_x_icmp_ne_t ⟨by omega, by omega⟩ ⟨by decide, by decide⟩ (by omega)) ?_
          refine qm_G.sp (lv1 := [(0, qm_R (some (0, 61, 0))), (1, qm_I (qm_i a1)), (2, qm_I (qm_i a2)), (3, qm_I (qm_i a3))]) rfl rfl (qm_x_iload rfl) ?_
          refine qm_G.s1 rfl (qm_x_pushI (-8) rfl) ?_
          refine qm_G.s1 rfl (qm_x_pushI 8 rfl) ?_
          refine qm_G.cs rfl rfl rfl ?_
          refine qm_v_within11_t ⟨by omega, by omega⟩ ⟨by decide, by decide⟩ ⟨by decide, by decide⟩ (by omega) ⟨_, rfl, ?_⟩
          refine qm_G.s1 rfl (qm_x_if_eq_f ⟨by decide, by decide⟩ (by decide)) ?_
          refine qm_G.s1 rfl (qm_x_iload rfl) ?_
          refine qm_G.s1 rfl (qm_x_pushI 0 rfl) ?_
          refine qm_G.s1 rfl (qm_x_pushI 6 rfl) ?_
          refine qm_G.cs rfl rfl rfl ?_
          refine qm_v_within11_t ⟨by omega, by omega⟩ ⟨by decide, by decide⟩ ⟨by decide, by decide⟩ (by omega) ⟨_, rfl, ?_⟩
          refine qm_G.s1 rfl (qm_x_if_eq_f ⟨by decide, by decide⟩ (by decide)) ?_
          refine qm_G.s1 rfl (qm_x_iload rfl) ?_
          refine qm_G.s1 rfl (qm_x_pushI 0 rfl) ?_
          refine qm_G.s1 rfl (qm_x_pushI 6 rfl) ?_
          refine qm_G.cs rfl rfl rfl ?_
          refine qm_v_within11_f ⟨by omega, by omega⟩ ⟨by decide, by decide⟩ ⟨by decide, by decide⟩ (by omega) ⟨_, rfl, ?_⟩
          refine qm_G.s1 rfl (qm_x_if_ne_f ⟨by decide, by decide⟩ (by decide)) ?_
          refine qm_G.sp (lv1 := []) rfl rfl (qm_x_pushI (-2) rfl) ?_
          refine qm_G.ret rfl rfl ⟨_, rfl, ?_⟩
          refine qm_G.s1 rfl (qm_x_icmp_eq_t ⟨by decide, by decide⟩ ⟨by decide, by decide⟩ (by decide)) ?_
          exact ih _ _ _ _ _ _ hI.next
      · refine qm_G.ret rfl rfl ⟨_, rfl, ?_⟩
        refine qm_G.s1 rfl (qm_x_if_eq_t ⟨by decide, by decide⟩ (by decide)) ?_
        refine qm_G.sp (lv1 := []) rfl rfl (qm_x_pushI (-2) rfl) ?_
        refine qm_G.ret rfl rfl ⟨_, rfl, ?_⟩
        refine qm_G.s1 rfl (qm_x_aload rfl) ?_
        refine qm_G.s1 rfl (qm_x_aload rfl) ?_
        refine qm_G.s1 rfl (qm_x_iload rfl) ?_
        refine qm_G.s1 rfl (qm_x_pushI 1 rfl) ?_
        refine qm_G.s1 rfl (qm_x_iadd) ?_
        refine qm_G.s1 rfl (qm_x_iald2v (v := a1) (by omega) (by omega) hX e1) ?_
        refine qm_G.s1 rfl (qm_x_aload rfl) ?_
        refine qm_G.s1 rfl (qm_x_iload rfl) ?_
        refine qm_G.s1 rfl (qm_x_pushI 2 rfl) ?_
        refine qm_G.s1 rfl (qm_x_iadd) ?_
        refine qm_G.s1 rfl (qm_x_iald2v (v := a2) (by omega) (by omega) hX e2) ?_
        refine qm_G.s1 rfl (qm_x_aload rfl) ?_
        refine qm_G.s1 rfl (qm_x_iload rfl) ?_
        refine qm_G.s1 rfl (qm_x_pushI 3 rfl) ?_
        refine qm_G.s1 rfl (qm_x_iadd) ?_
        refine qm_G.s1 rfl (qm_x_iald2v (v := a3) (by omega) (by omega) hX e3) ?_
        refine qm_G.cm rfl rfl (hS 61 rfl) rfl ?_
        refine qm_C.go (cd := qm_P89) (lv := [(0, qm_R (some (0, 61, 0))), (1, qm_I (qm_i a1)), (2, qm_I (qm_i a2)), (3, qm_I (qm_i a3))]) rfl rfl ?_
        refine qm_G.s1 rfl (qm_x_iload rfl) ?_
        refine qm_G.s1 rfl (qm_x_pushI (-1) rfl) ?_
        refine qm_G.s1 rfl (qm_x_icmp_ne_t ⟨by omega, by omega⟩ ⟨by decide, by decide⟩ (by omega)) ?_
        refine qm_G.sp (lv1 := [(0, qm_R (some (0, 61, 0))), (1, qm_I (qm_i a1)), (2, qm_I (qm_i a2)), (3, qm_I (qm_i a3))]) rfl rfl (qm_x_iload rfl) ?_
        refine qm_G.s1 rfl (qm_x_pushI (-8) rfl) ?_
        refine qm_G.s1 rfl (qm_x_pushI 8 rfl) ?_
        refine qm_G.cs rfl rfl rfl ?_
        refine qm_v_within11_t ⟨by omega, by omega⟩ ⟨by decide, by decide⟩ ⟨by decide, by decide⟩ (by omega) ⟨_, rfl, ?_⟩
        refine qm_G.s1 rfl (qm_x_if_eq_f ⟨by decide, by decide⟩ (by decide)) ?_
        refine qm_G.s1 rfl (qm_x_iload rfl) ?_
        refine qm_G.s1 rfl (qm_x_pushI 0 rfl) ?_
        refine qm_G.s1 rfl (qm_x_pushI 6 rfl) ?_
        refine qm_G.cs rfl rfl rfl ?_
        refine qm_v_within11_f ⟨by omega, by omega⟩ ⟨by decide, by decide⟩ ⟨by decide, by decide⟩ (by omega) ⟨_, rfl, ?_⟩
        refine qm_G.s1 rfl (qm_x_if_eq_t ⟨by decide, by decide⟩ (by decide)) ?_
        refine qm_G.sp (lv1 := []) rfl rfl (qm_x_pushI (-2) rfl) ?_
        refine qm_G.ret rfl rfl ⟨_, rfl, ?_⟩
        refine qm_G.s1 rfl (qm_x_icmp_eq_t ⟨by decide, by decide⟩ ⟨by decide, by decide⟩ (by decide)) ?_
        exact ih _ _ _ _ _ _ hI.next
    · refine qm_G.ret rfl rfl ⟨_, rfl, ?_⟩
      refine qm_G.s1 rfl (qm_x_if_eq_t ⟨by decide, by decide⟩ (by decide)) ?_
      refine qm_G.sp (lv1 := []) rfl rfl (qm_x_pushI (-2) rfl) ?_
      refine qm_G.ret rfl rfl ⟨_, rfl, ?_⟩
      refine qm_G.s1 rfl (qm_x_aload rfl) ?_
      refine qm_G.s1 rfl (qm_x_aload rfl) ?_
      refine qm_G.s1 rfl (qm_x_iload rfl) ?_
      refine qm_G.s1 rfl (qm_x_pushI 1 rfl) ?_
      refine qm_G.s1 rfl (qm_x_iadd) ?_
      refine qm_G.s1 rfl (qm_x_iald2v (v := a1) (by omega) (by omega) hX e1) ?_
      refine qm_G.s1 rfl (qm_x_aload rfl) ?_
      refine qm_G.s1 rfl (qm_x_iload rfl) ?_
      refine qm_G.s1 rfl (qm_x_pushI 2 rfl) ?_
      refine qm_G.s1 rfl (qm_x_iadd) ?_
      refine qm_G.s1 rfl (qm_x_iald2v (v := a2) (by omega) (by omega) hX e2) ?_
      refine qm_G.s1 rfl (qm_x_aload rfl) ?_
      refine qm_G.s1 rfl (qm_x_iload rfl) ?_
      refine qm_G.s1 rfl (qm_x_pushI 3 rfl) ?_
      refine qm_G.s1 rfl (qm_x_iadd) ?_
      refine qm_G.s1 rfl (qm_x_iald2v (v := a3) (by omega) (by omega) hX e3) ?_
      refine qm_G.cm rfl rfl (hS 61 rfl) rfl ?_
      refine qm_C.go (cd := qm_P89) (lv := [(0, qm_R (some (0, 61, 0))), (1, qm_I (qm_i a1)), (2, qm_I (qm_i a2)), (3, qm_I (qm_i a3))]) rfl rfl ?_
      refine qm_G.s1 rfl (qm_x_iload rfl) ?_
      refine qm_G.s1 rfl (qm_x_pushI (-1) rfl) ?_
      refine qm_G.s1 rfl (qm_x_icmp_ne_t ⟨by omega, by omega⟩ ⟨by decide, by decide⟩ (by omega)) ?_
      refine qm_G.sp (lv1 := [(0, qm_R (some (0, 61, 0))), (1, qm_I (qm_i a1)), (2, qm_I (qm_i a2)), (3, qm_I (qm_i a3))]) rfl rfl (qm_x_iload rfl) ?_
      refine qm_G.s1 rfl (qm_x_pushI (-8) rfl) ?_
      refine qm_G.s1 rfl (qm_x_pushI 8 rfl) ?_
      refine qm_G.cs rfl rfl rfl ?_
      refine qm_v_within11_f ⟨by omega, by omega⟩ ⟨by decide, by decide⟩ ⟨by decide, by decide⟩ (by omega) ⟨_, rfl, ?_⟩
      refine qm_G.s1 rfl (qm_x_if_eq_t ⟨by decide, by decide⟩ (by decide)) ?_
      refine qm_G.sp (lv1 := []) rfl rfl (qm_x_pushI (-2) rfl) ?_
      refine qm_G.ret rfl rfl ⟨_, rfl, ?_⟩
      refine qm_G.s1 rfl (qm_x_icmp_eq_t ⟨by decide, by decide⟩ ⟨by decide, by decide⟩ (by decide)) ?_
      exact ih _ _ _ _ _ _ hI.next
  · refine qm_G.s1 rfl (qm_x_aload rfl) ?_
    refine qm_G.s1 rfl (qm_x_getfR (q := (some (0, 1, 0))) (hS 0 rfl) (hR 0 0 1 rfl rfl)) ?_
    refine qm_G.s1 rfl (qm_x_getfR (q := (some (0, 11, 0))) (hS 1 rfl) (hR 1 2 11 rfl rfl)) ?_
    refine qm_G.s1 rfl (qm_x_pushI 0 rfl) ?_
    refine qm_G.s1 rfl (qm_x_putfI (hS 11 rfl)) ?_
    refine qm_G.s1 rfl (qm_x_pushI 0 rfl) ?_
    refine qm_G.ret rfl rfl ⟨_, rfl, ?_⟩
    refine qm_G.s1 rfl (qm_x_aload rfl) ?_
    refine qm_G.s1 rfl (qm_x_aload rfl) ?_
    refine qm_G.s1 rfl (qm_x_iload rfl) ?_
    refine qm_G.s1 rfl (qm_x_pushI 1 rfl) ?_
    refine qm_G.s1 rfl (qm_x_iadd) ?_
    refine qm_G.s1 rfl (qm_x_iald2v (v := a1) (by omega) (by omega) hX e1) ?_
    refine qm_G.s1 rfl (qm_x_aload rfl) ?_
    refine qm_G.s1 rfl (qm_x_iload rfl) ?_
    refine qm_G.s1 rfl (qm_x_pushI 2 rfl) ?_
    refine qm_G.s1 rfl (qm_x_iadd) ?_
    refine qm_G.s1 rfl (qm_x_iald2v (v := a2) (by omega) (by omega) hX e2) ?_
    refine qm_G.s1 rfl (qm_x_aload rfl) ?_
    refine qm_G.s1 rfl (qm_x_iload rfl) ?_
    refine qm_G.s1 rfl (qm_x_pushI 3 rfl) ?_
    refine qm_G.s1 rfl (qm_x_iadd) ?_
    refine qm_G.s1 rfl (qm_x_iald2v (v := a3) (by omega) (by omega) hX e3) ?_
    refine qm_G.cm rfl rfl (hS 61 rfl) rfl ?_
    refine qm_C.go (cd := qm_P89) (lv := [(0, qm_R (some (0, 61, 0))), (1, qm_I (qm_i a1)), (2, qm_I (qm_i a2)), (3, qm_I (qm_i a3))]) rfl rfl ?_
    refine qm_G.s1 rfl (qm_x_iload rfl) ?_
    refine qm_G.s1 rfl (qm_x_pushI (-1) rfl) ?_
    refine qm_G.s1 rfl (qm_x_icmp_ne_f ⟨by omega, by omega⟩ ⟨by decide, by decide⟩ (by omega)) ?_
    refine qm_G.s1 rfl (qm_x_aload rfl) ?_
    refine qm_G.s1 rfl (qm_x_getfR (q := (some (0, 62, 0))) (hS 61 rfl) (hR 61 0 62 rfl rfl)) ?_
    refine qm_G.s1 rfl (qm_x_pushI 12 rfl) ?_
    refine qm_G.s1 rfl (qm_x_pushI 0 rfl) ?_
    refine qm_G.s1 rfl (qm_x_iast (qm_arS hS rfl rfl) rfl (by decide) (by decide) (by decide)) ?_
    refine qm_G.s1 rfl (qm_x_pushI 0 rfl) ?_
    refine qm_G.ret rfl rfl ⟨_, rfl, ?_⟩
    refine qm_G.s1 rfl (qm_x_icmp_eq_t ⟨by decide, by decide⟩ ⟨by decide, by decide⟩ (by decide)) ?_
    exact ih _ _ _ _ _ _ (qm_U_see0 hI)
