/-! THE LAW, case 3 -/
theorem qm_case3 {S : List qm_Sh} {J K : qm_J} {L : qm_Ct Int64} {D : qm_Ct UInt64} {R : qm_Ct (Option qm_Rf)} {X : Nat × (Nat → Int32)} {k : Nat} {z : Int} {Q : Option qm_V → qm_Hp → Prop} {a1 : Int} {a2 : Int} {a3 : Int} (hI : qm_Inv S J K L D R k) (hX : X.1 ≤ 3072) (h0 : 0 ≤ z) (h6 : z + 6 ≤ X.1) (e1 : (X.2 (Int.toNat (z + 1))).toInt = a1) (e2 : (X.2 (Int.toNat (z + 2))).toInt = a2) (e3 : (X.2 (Int.toNat (z + 3))).toInt = a3) (ih : ∀ (S : List qm_Sh) (J K : qm_J) (L : qm_Ct Int64) (D : qm_Ct UInt64) (R : qm_Ct (Option qm_Rf)), qm_Inv S J K L D R (k + 1) → qm_G qm_P qm_P222 1445 [(0, qm_R (some (2, 0, 0))), (1, qm_R (some (0, 0, 0))), (2, qm_R (some (0, 61, 0))), (3, qm_I (qm_i z))] [] (qm_H S J K L D R X) Q) : qm_G qm_P qm_P222 296 [(0, qm_R (some (2, 0, 0))), (1, qm_R (some (0, 0, 0))), (2, qm_R (some (0, 61, 0))), (3, qm_I (qm_i z))] [] (qm_H S J K L D R X) Q := by
  have hS := hI.sd
  have hR := hI.rd
  have s1 : qm_sm a1 := e1 ▸ qm_i_sml _
  have s2 : qm_sm a2 := e2 ▸ qm_i_sml _
  have s3 : qm_sm a3 := e3 ▸ qm_i_sml _
  refine qm_G.sp (lv1 := [(0, qm_R (some (2, 0, 0))), (1, qm_R (some (0, 0, 0))), (2, qm_R (some (0, 61, 0))), (3, qm_I (qm_i z))]) rfl rfl (qm_x_aload rfl) ?_
  refine qm_G.s1 rfl (qm_x_aload rfl) ?_
  refine qm_G.s1 rfl (qm_x_iload rfl) ?_
  refine qm_G.s1 rfl (qm_x_pushI 1 rfl) ?_
  refine qm_G.s1 rfl (qm_x_iadd) ?_
  refine qm_G.s1 rfl (qm_x_iald2v (v := a1) (by omega) (by omega) hX e1) ?_
  refine qm_G.s1 rfl (qm_x_aload rfl) ?_
  refine qm_G.s1 rfl (qm_x_iload rfl) ?_
  refine qm_G.s1 rfl (qm_x_pushI 2 rfl) ?_
  refine qm_G.s1 rfl (qm_x_iadd) ?_
  refine qm_G.s1 rfl (qm_x_iald2v (v := a2) (by omega) (by omega) hX e2) ?_
  refine qm_G.s1 rfl (qm_x_aload rfl) ?_
  refine qm_G.s1 rfl (qm_x_iload rfl) ?_
  refine qm_G.s1 rfl (qm_x_pushI 3 rfl) ?_
  refine qm_G.s1 rfl (qm_x_iadd) ?_
  refine qm_G.s1 rfl (qm_x_iald2v (v := a3) (by omega) (by omega) hX e3) ?_
  refine qm_G.cm rfl rfl (hS 0 rfl) rfl ?_
  refine qm_C.go (cd := qm_P165) (lv := [(0, qm_R (some (0, 0, 0))), (1, qm_I (qm_i a1)), (2, qm_I (qm_i a2)), (3, qm_I (qm_i a3))]) rfl rfl ?_
  refine qm_G.s1 rfl (qm_x_iload rfl) ?_
  refine qm_G.s1 rfl (qm_x_pushI 0 rfl) ?_
  refine qm_G.s1 rfl (qm_x_pushI 3 rfl) ?_
  refine qm_G.cs rfl rfl rfl ?_
  refine qm_v_within10 ⟨by omega, by omega⟩ ⟨by decide, by decide⟩ ⟨by decide, by decide⟩ (fun c1 => ⟨_, rfl, ?_⟩) (fun c1 => ⟨_, rfl, ?_⟩)
  · refine qm_G.s1 rfl (qm_x_if_ne_t ⟨by decide, by decide⟩ (by decide)) ?_
    refine qm_G.sp (lv1 := [(0, qm_R (some (0, 0, 0))), (1, qm_I (qm_i a1)), (2, qm_I (qm_i a2)), (3, qm_I (qm_i a3))]) rfl rfl (qm_x_iload rfl) ?_
    refine qm_G.cs rfl rfl rfl ?_
    refine qm_C.go (cd := qm_P74) (lv := [(0, qm_I (qm_i a2))]) rfl rfl ?_
    refine qm_G.s1 rfl (qm_x_iload rfl) ?_
    refine qm_G.s1 rfl (qm_x_pushI 0 rfl) ?_
    refine qm_G.s1 rfl (qm_x_pushI 6 rfl) ?_
    refine qm_G.cs rfl rfl rfl ?_
    refine qm_v_within10 ⟨by omega, by omega⟩ ⟨by decide, by decide⟩ ⟨by decide, by decide⟩ (fun c2 => ⟨_, rfl, ?_⟩) (fun c2 => ⟨_, rfl, ?_⟩)
    · refine qm_G.ret rfl rfl ⟨_, rfl, ?_⟩
      refine qm_G.s1 rfl (qm_x_if_eq_f ⟨by decide, by decide⟩ (by decide)) ?_
      refine qm_G.s1 rfl (qm_x_iload rfl) ?_
      refine qm_G.cs rfl rfl rfl ?_
      refine qm_C.go (cd := qm_P74) (lv := [(0, qm_I (qm_i a3))]) rfl rfl ?_
      refine qm_G.s1 rfl (qm_x_iload rfl) ?_
      refine qm_G.s1 rfl (qm_x_pushI 0 rfl) ?_
      refine qm_G.s1 rfl (qm_x_pushI 6 rfl) ?_
      refine qm_G.cs rfl rfl rfl ?_
      refine qm_v_within10 ⟨by omega, by omega⟩ ⟨by decide, by decide⟩ ⟨by decide, by decide⟩ (fun c3 => ⟨_, rfl, ?_⟩) (fun c3 => ⟨_, rfl, ?_⟩)
      · refine qm_G.ret rfl rfl ⟨_, rfl, ?_⟩
        refine qm_G.s1 rfl (qm_x_if_ne_t ⟨by decide, by decide⟩ (by decide)) ?_
        refine qm_G.sp (lv1 := [(0, qm_R (some (0, 0, 0))), (1, qm_I (qm_i a1)), (2, qm_I (qm_i a2)), (3, qm_I (qm_i a3))]) rfl rfl (qm_x_aload rfl) ?_
        refine qm_G.s1 rfl (qm_x_getfR (q := (some (0, 1, 0))) (hS 0 rfl) (hR 0 0 1 rfl rfl)) ?_
        refine qm_G.s1 rfl (qm_x_getfR (q := (some (0, 2, 0))) (hS 1 rfl) (hR 1 0 2 rfl rfl)) ?_
        refine qm_G.s1 rfl (qm_x_iload rfl) ?_
        refine qm_G.s1 rfl (qm_x_iload rfl) ?_
        refine qm_G.s1 rfl (qm_x_iload rfl) ?_
        refine qm_G.cm rfl rfl (hS 2 rfl) rfl ?_
        refine qm_C.go (cd := qm_P144) (lv := [(0, qm_R (some (0, 2, 0))), (1, qm_I (qm_i a1)), (2, qm_I (qm_i a2)), (3, qm_I (qm_i a3))]) rfl rfl ?_
        refine qm_G.s1 rfl (qm_x_aload rfl) ?_
        have f62_7 : 0 ≤ J 62 0 7 ∧ J 62 0 7 ≤ 8 := hI.mk.rrc
        have f2_3 : J 2 0 3 = J 62 0 7 := hI.mk.rc
        refine qm_G.s1 rfl (qm_x_getfI (v := (J 2 0 3)) (hS 2 rfl) rfl) ?_
        refine qm_G.s1 rfl (qm_x_pushI 8 rfl) ?_
        refine qm_y_icmp_lt rfl ⟨by omega, by omega⟩ ⟨by decide, by decide⟩ (fun c4 => ?_) (fun c4 => ?_)
        · refine qm_G.sp (lv1 := [(0, qm_R (some (0, 2, 0))), (1, qm_I (qm_i a1)), (2, qm_I (qm_i a2)), (3, qm_I (qm_i a3))]) rfl rfl (qm_x_aload rfl) ?_
          refine qm_G.s1 rfl (qm_x_getfR (q := (some (0, 7, 0))) (hS 2 rfl) (hR 2 2 7 rfl rfl)) ?_
          refine qm_G.s1 rfl (qm_x_aload rfl) ?_
          refine qm_G.s1 rfl (qm_x_getfI (v := (J 2 0 3)) (hS 2 rfl) rfl) ?_
          refine qm_y_new rfl hS hR (fun S9 J9 K9 L9 D9 R9 N9 w9 => ?_)
          have h78 := w9.h78
          have hS9 := w9.hS
          have hR9 := w9.hR
          refine qm_G.s1 rfl (qm_x_dupR) ?_
          refine qm_G.s1 rfl (qm_x_iload rfl) ?_
          refine qm_G.s1 rfl (qm_x_iload rfl) ?_
          refine qm_G.s1 rfl (qm_x_iload rfl) ?_
          refine qm_G.cmv rfl rfl w9.hn rfl ?_
          refine qm_C.go (cd := qm_P61) (lv := [(0, qm_R (some (0, N9, 0))), (1, qm_I (qm_i a1)), (2, qm_I (qm_i a2)), (3, qm_I (qm_i a3))]) rfl rfl ?_
          refine qm_G.s1 rfl (qm_x_aload rfl) ?_
          refine qm_G.s1 rfl (qm_x_obj rfl) ?_
          refine qm_G.s1 rfl (qm_x_aload rfl) ?_
          refine qm_G.s1 rfl (qm_x_iload rfl) ?_
          refine qm_G.s1 rfl (qm_x_putfI w9.hn) ?_
          refine qm_G.s1 rfl (qm_x_aload rfl) ?_
          refine qm_G.s1 rfl (qm_x_iload rfl) ?_
          refine qm_G.s1 rfl (qm_x_putfI w9.hn) ?_
          refine qm_G.s1 rfl (qm_x_aload rfl) ?_
          refine qm_G.s1 rfl (qm_x_iload rfl) ?_
          refine qm_G.s1 rfl (qm_x_putfI w9.hn) ?_
          refine qm_G.retv rfl ⟨rfl, ?_⟩
          refine qm_G.s1 rfl (qm_x_aastr (hS9 7 rfl) w9.hn rfl (by omega) (by omega)) ?_
          refine qm_G.s1 rfl (qm_x_aload rfl) ?_
          refine qm_G.s1 rfl (qm_x_dupR) ?_
          refine qm_G.s1 rfl (qm_x_getfI (v := (J 2 0 3)) (hS9 2 rfl) (Eq.trans (by unfold qm_set; rw [if_neg (by omega), if_neg (by omega), if_neg (by omega)] <;> rfl) (w9.kJ 2 0 3 (by omega)))) ?_
          refine qm_G.s1 rfl (qm_x_pushI 1 rfl) ?_
          refine qm_G.s1 rfl (qm_x_iadd) ?_
          refine qm_G.s1 rfl (qm_x_putfI (hS9 2 rfl)) ?_
          refine qm_G.s1 rfl (qm_x_aload rfl) ?_
          refine qm_G.s1 rfl (qm_x_getfI (v := ((J 2 0 3) + 1)) (hS9 2 rfl) rfl) ?_
          refine qm_G.s1 rfl (qm_x_pushI 1 rfl) ?_
          refine qm_G.s1 rfl (qm_x_isub) ?_
          refine qm_G.ret rfl rfl ⟨_, rfl, ?_⟩
          refine qm_G.ret rfl rfl ⟨_, rfl, ?_⟩
          refine qm_G.s1 rfl (qm_x_aload rfl) ?_
          refine qm_G.s1 rfl (qm_x_aload rfl) ?_
          refine qm_G.s1 rfl (qm_x_iload rfl) ?_
          refine qm_G.s1 rfl (qm_x_pushI 1 rfl) ?_
          refine qm_G.s1 rfl (qm_x_iadd) ?_
          refine qm_G.s1 rfl (qm_x_iald2v (v := a1) (by omega) (by omega) hX e1) ?_
          refine qm_G.s1 rfl (qm_x_aload rfl) ?_
          refine qm_G.s1 rfl (qm_x_iload rfl) ?_
          refine qm_G.s1 rfl (qm_x_pushI 2 rfl) ?_
          refine qm_G.s1 rfl (qm_x_iadd) ?_
          refine qm_G.s1 rfl (qm_x_iald2v (v := a2) (by omega) (by omega) hX e2) ?_
          refine qm_G.s1 rfl (qm_x_aload rfl) ?_
          refine qm_G.s1 rfl (qm_x_iload rfl) ?_
          refine qm_G.s1 rfl (qm_x_pushI 3 rfl) ?_
          refine qm_G.s1 rfl (qm_x_iadd) ?_
          refine qm_G.s1 rfl (qm_x_iald2v (v := a3) (by omega) (by omega) hX e3) ?_
          refine qm_G.cm rfl rfl (hS9 61 rfl) rfl ?_
          refine qm_C.go (cd := qm_P87) (lv := [(0, qm_R (some (0, 61, 0))), (1, qm_I (qm_i a1)), (2, qm_I (qm_i a2)), (3, qm_I (qm_i a3))]) rfl rfl ?_
          refine qm_G.s1 rfl (qm_x_iload rfl) ?_
          refine qm_G.s1 rfl (qm_x_pushI 0 rfl) ?_
          refine qm_G.s1 rfl (qm_x_pushI 3 rfl) ?_
          refine qm_G.cs rfl rfl rfl ?_
          refine qm_v_within11_t ⟨by omega, by omega⟩ ⟨by decide, by decide⟩ ⟨by decide, by decide⟩ (by omega) ⟨_, rfl, ?_⟩
          refine qm_G.s1 rfl (qm_x_if_ne_t ⟨by decide, by decide⟩ (by decide)) ?_
          refine qm_G.sp (lv1 := [(0, qm_R (some (0, 61, 0))), (1, qm_I (qm_i a1)), (2, qm_I (qm_i a2)), (3, qm_I (qm_i a3))]) rfl rfl (qm_x_iload rfl) ?_
          refine qm_G.s1 rfl (qm_x_pushI 0 rfl) ?_
          refine qm_G.s1 rfl (qm_x_pushI 6 rfl) ?_
          refine qm_G.cs rfl rfl rfl ?_
          refine qm_v_within11_t ⟨by omega, by omega⟩ ⟨by decide, by decide⟩ ⟨by decide, by decide⟩ (by omega) ⟨_, rfl, ?_⟩
          refine qm_G.s1 rfl (qm_x_if_eq_f ⟨by decide, by decide⟩ (by decide)) ?_
          refine qm_G.s1 rfl (qm_x_iload rfl) ?_
          refine qm_G.s1 rfl (qm_x_pushI 0 rfl) ?_
          refine qm_G.s1 rfl (qm_x_pushI 6 rfl) ?_
          refine qm_G.cs rfl rfl rfl ?_
          refine qm_v_within11_t ⟨by omega, by omega⟩ ⟨by decide, by decide⟩ ⟨by decide, by decide⟩ (by omega) ⟨_, rfl, ?_⟩
          refine qm_G.s1 rfl (qm_x_if_ne_t ⟨by decide, by decide⟩ (by decide)) ?_
          refine qm_G.sp (lv1 := [(0, qm_R (some (0, 61, 0))), (1, qm_I (qm_i a1)), (2, qm_I (qm_i a2)), (3, qm_I (qm_i a3))]) rfl rfl (qm_x_aload rfl) ?_
          refine qm_G.s1 rfl (qm_x_getfR (q := (some (0, 62, 0))) (hS9 61 rfl) (hR9 61 0 62 rfl rfl)) ?_
          refine qm_G.s1 rfl (qm_x_pushI 7 rfl) ?_
          refine qm_G.s1 rfl (qm_x_iald (v := (J 62 0 7)) (qm_arS hS9 rfl rfl) rfl (by decide) (by decide) (by decide) (Eq.trans (by unfold qm_set; rw [if_neg (by omega), if_neg (by omega), if_neg (by omega), if_neg (by omega)] <;> rfl) (w9.kJ 62 0 7 (by omega)))) ?_
          refine qm_G.s1 rfl (qm_x_pushI 8 rfl) ?_
          refine qm_G.s1 rfl (qm_x_icmp_ne_t ⟨by omega, by omega⟩ ⟨by decide, by decide⟩ (by omega)) ?_
          refine qm_G.sp (lv1 := [(0, qm_R (some (0, 61, 0))), (1, qm_I (qm_i a1)), (2, qm_I (qm_i a2)), (3, qm_I (qm_i a3))]) rfl rfl (qm_x_aload rfl) ?_
          refine qm_G.s1 rfl (qm_x_getfR (q := (some (0, 62, 0))) (hS9 61 rfl) (hR9 61 0 62 rfl rfl)) ?_
          refine qm_G.s1 rfl (qm_x_pushI 7 rfl) ?_
          refine qm_G.s1 rfl (qm_x_dup2 rfl) ?_
          refine qm_G.s1 rfl (qm_x_iald (v := (J 62 0 7)) (qm_arS hS9 rfl rfl) rfl (by decide) (by decide) (by decide) (Eq.trans (by unfold qm_set; rw [if_neg (by omega), if_neg (by omega), if_neg (by omega), if_neg (by omega)] <;> rfl) (w9.kJ 62 0 7 (by omega)))) ?_
          refine qm_G.s1 rfl (qm_x_dup_x2 rfl) ?_
          refine qm_G.s1 rfl (qm_x_pushI 1 rfl) ?_
          refine qm_G.s1 rfl (qm_x_iadd) ?_
          refine qm_G.s1 rfl (qm_x_iast (qm_arS hS9 rfl rfl) rfl (by decide) (by decide) (by decide)) ?_
          refine qm_G.s1 rfl (qm_x_istore (lv' := [(4, qm_I (qm_i (J 62 0 7))), (0, qm_R (some (0, 61, 0))), (1, qm_I (qm_i a1)), (2, qm_I (qm_i a2)), (3, qm_I (qm_i a3))]) rfl) ?_
          refine qm_G.s1 rfl (qm_x_aload rfl) ?_
          refine qm_G.s1 rfl (qm_x_getfR (q := (some (0, 62, 0))) (hS9 61 rfl) (hR9 61 0 62 rfl rfl)) ?_
          refine qm_G.s1 rfl (qm_x_pushI 26 rfl) ?_
          refine qm_G.s1 rfl (qm_x_pushI 3 rfl) ?_
          refine qm_G.s1 rfl (qm_x_iload rfl) ?_
          refine qm_G.s1 rfl (qm_x_imul) ?_
          refine qm_G.s1 rfl (qm_x_iadd) ?_
          refine qm_G.s1 rfl (qm_x_iload rfl) ?_
          refine qm_G.s1 rfl (qm_x_iast (qm_arS hS9 rfl rfl) rfl (by omega) (by omega) (by decide)) ?_
          refine qm_G.s1 rfl (qm_x_aload rfl) ?_
          refine qm_G.s1 rfl (qm_x_getfR (q := (some (0, 62, 0))) (hS9 61 rfl) (hR9 61 0 62 rfl rfl)) ?_
          refine qm_G.s1 rfl (qm_x_pushI 26 rfl) ?_
          refine qm_G.s1 rfl (qm_x_pushI 3 rfl) ?_
          refine qm_G.s1 rfl (qm_x_iload rfl) ?_
          refine qm_G.s1 rfl (qm_x_imul) ?_
          refine qm_G.s1 rfl (qm_x_iadd) ?_
          refine qm_G.s1 rfl (qm_x_pushI 1 rfl) ?_
          refine qm_G.s1 rfl (qm_x_iadd) ?_
          refine qm_G.s1 rfl (qm_x_iload rfl) ?_
          refine qm_G.s1 rfl (qm_x_iast (qm_arS hS9 rfl rfl) rfl (by omega) (by omega) (by decide)) ?_
          refine qm_G.s1 rfl (qm_x_aload rfl) ?_
          refine qm_G.s1 rfl (qm_x_getfR (q := (some (0, 62, 0))) (hS9 61 rfl) (hR9 61 0 62 rfl rfl)) ?_
          refine qm_G.s1 rfl (qm_x_pushI 26 rfl) ?_
          refine qm_G.s1 rfl (qm_x_pushI 3 rfl) ?_
          refine qm_G.s1 rfl (qm_x_iload rfl) ?_
          refine qm_G.s1 rfl (qm_x_imul) ?_
          refine qm_G.s1 rfl (qm_x_iadd) ?_
          refine qm_G.s1 rfl (qm_x_pushI 2 rfl) ?_
          refine qm_G.s1 rfl (qm_x_iadd) ?_
          refine qm_G.s1 rfl (qm_x_iload rfl) ?_
          refine qm_G.s1 rfl (qm_x_iast (qm_arS hS9 rfl rfl) rfl (by omega) (by omega) (by decide)) ?_
          refine qm_G.s1 rfl (qm_x_iload rfl) ?_
          refine qm_G.ret rfl rfl ⟨_, rfl, ?_⟩
          refine qm_G.s1 rfl (qm_x_icmp_eq_t ⟨by omega, by omega⟩ ⟨by omega, by omega⟩ (by omega)) ?_
          rw [show (Int.toNat (26 + (3 * (J 62 0 7)))) = 26 + 3 * (Int.toNat (J 2 0 3)) by omega]
          rw [show (Int.toNat ((26 + (3 * (J 62 0 7))) + 1)) = 27 + 3 * (Int.toNat (J 2 0 3)) by omega]
          rw [show (Int.toNat ((26 + (3 * (J 62 0 7))) + 2)) = 28 + 3 * (Int.toNat (J 2 0 3)) by omega]
          rw [show (Int.toNat (J 2 0 3)) = Int.toNat (J 2 0 3) by omega]
          exact ih _ _ _ _ _ _ (qm_U_rival (n := Int.toNat (J 2 0 3)) hI w9 (by omega) (by omega) (by omega) (by omega) (by omega))
        · refine qm_G.s1 rfl (qm_x_pushI (-4) rfl) ?_
          refine qm_G.ret rfl rfl ⟨_, rfl, ?_⟩
          refine qm_G.ret rfl rfl ⟨_, rfl, ?_⟩
          refine qm_G.s1 rfl (qm_x_aload rfl) ?_
          refine qm_G.s1 rfl (qm_x_aload rfl) ?_
          refine qm_G.s1 rfl (qm_x_iload rfl) ?_
          refine qm_G.s1 rfl (qm_x_pushI 1 rfl) ?_
          refine qm_G.s1 rfl (qm_x_iadd) ?_
          refine qm_G.s1 rfl (qm_x_iald2v (v := a1) (by omega) (by omega) hX e1) ?_
          refine qm_G.s1 rfl (qm_x_aload rfl) ?_
          refine qm_G.s1 rfl (qm_x_iload rfl) ?_
          refine qm_G.s1 rfl (qm_x_pushI 2 rfl) ?_
          refine qm_G.s1 rfl (qm_x_iadd) ?_
          refine qm_G.s1 rfl (qm_x_iald2v (v := a2) (by omega) (by omega) hX e2) ?_
          refine qm_G.s1 rfl (qm_x_aload rfl) ?_
          refine qm_G.s1 rfl (qm_x_iload rfl) ?_
          refine qm_G.s1 rfl (qm_x_pushI 3 rfl) ?_
          refine qm_G.s1 rfl (qm_x_iadd) ?_
          refine qm_G.s1 rfl (qm_x_iald2v (v := a3) (by omega) (by omega) hX e3) ?_
          refine qm_G.cm rfl rfl (hS 61 rfl) rfl ?_
          refine qm_C.go (cd := qm_P87) (lv := [(0, qm_R (some (0, 61, 0))), (1, qm_I (qm_i a1)), (2, qm_I (qm_i a2)), (3, qm_I (qm_i a3))]) rfl rfl ?_
          refine qm_G.s1 rfl (qm_x_iload rfl) ?_
          refine qm_G.s1 rfl (qm_x_pushI 0 rfl) ?_
          refine qm_G.s1 rfl (qm_x_pushI 3 rfl) ?_
          refine qm_G.cs rfl rfl rfl ?_
          refine qm_v_within11_t ⟨by omega, by omega⟩ ⟨by decide, by decide⟩ ⟨by decide, by decide⟩ (by omega) ⟨_, rfl, ?_⟩
          refine qm_G.s1 rfl (qm_x_if_ne_t ⟨by decide, by decide⟩ (by decide)) ?_
          refine qm_G.sp (lv1 := [(0, qm_R (some (0, 61, 0))), (1, qm_I (qm_i a1)), (2, qm_I (qm_i a2)), (3, qm_I (qm_i a3))]) rfl rfl (qm_x_iload rfl) ?_
          refine qm_G.s1 rfl (qm_x_pushI 0 rfl) ?_
          refine qm_G.s1 rfl (qm_x_pushI 6 rfl) ?_
          refine qm_G.cs rfl rfl rfl ?_
          refine qm_v_within11_t ⟨by omega, by omega⟩ ⟨by decide, by decide⟩ ⟨by decide, by decide⟩ (by omega) ⟨_, rfl, ?_⟩
          refine qm_G.s1 rfl (qm_x_if_eq_f ⟨by decide, by decide⟩ (by decide)) ?_
          refine qm_G.s1 rfl (qm_x_iload rfl) ?_
          refine qm_G.s1 rfl (qm_x_pushI 0 rfl) ?_
          refine qm_G.s1 rfl (qm_x_pushI 6 rfl) ?_
          refine qm_G.cs rfl rfl rfl ?_
          refine qm_v_within11_t ⟨by omega, by omega⟩ ⟨by decide, by decide⟩ ⟨by decide, by decide⟩ (by omega) ⟨_, rfl, ?_⟩
          refine qm_G.s1 rfl (qm_x_if_ne_t ⟨by decide, by decide⟩ (by decide)) ?_
          refine qm_G.sp (lv1 := [(0, qm_R (some (0, 61, 0))), (1, qm_I (qm_i a1)), (2, qm_I (qm_i a2)), (3, qm_I (qm_i a3))]) rfl rfl (qm_x_aload rfl) ?_
          refine qm_G.s1 rfl (qm_x_getfR (q := (some (0, 62, 0))) (hS 61 rfl) (hR 61 0 62 rfl rfl)) ?_
          refine qm_G.s1 rfl (qm_x_pushI 7 rfl) ?_
          refine qm_G.s1 rfl (qm_x_iald (v := (J 62 0 7)) (qm_arS hS rfl rfl) rfl (by decide) (by decide) (by decide) rfl) ?_
          refine qm_G.s1 rfl (qm_x_pushI 8 rfl) ?_
          refine qm_G.s1 rfl (qm_x_icmp_ne_f ⟨by omega, by omega⟩ ⟨by decide, by decide⟩ (by omega)) ?_
          refine qm_G.s1 rfl (qm_x_pushI (-4) rfl) ?_
          refine qm_G.ret rfl rfl ⟨_, rfl, ?_⟩
          refine qm_G.s1 rfl (qm_x_icmp_eq_t ⟨by decide, by decide⟩ ⟨by decide, by decide⟩ (by decide)) ?_
          exact ih _ _ _ _ _ _ hI.next
      · refine qm_G.ret rfl rfl ⟨_, rfl, ?_⟩
        refine qm_G.s1 rfl (qm_x_if_ne_f ⟨by decide, by decide⟩ (by decide)) ?_
        refine qm_G.sp (lv1 := []) rfl rfl (qm_x_pushI (-2) rfl) ?_
        refine qm_G.ret rfl rfl ⟨_, rfl, ?_⟩
        refine qm_G.s1 rfl (qm_x_aload rfl) ?_
        refine qm_G.s1 rfl (qm_x_aload rfl) ?_
        refine qm_G.s1 rfl (qm_x_iload rfl) ?_
        refine qm_G.s1 rfl (qm_x_pushI 1 rfl) ?_
        refine qm_G.s1 rfl (qm_x_iadd) ?_
        refine qm_G.s1 rfl (qm_x_iald2v (v := a1) (by omega) (by omega) hX e1) ?_
        refine qm_G.s1 rfl (qm_x_aload rfl) ?_
        refine qm_G.s1 rfl (qm_x_iload rfl) ?_
        refine qm_G.s1 rfl (qm_x_pushI 2 rfl) ?_
        refine qm_G.s1 rfl (qm_x_iadd) ?_
        refine qm_G.s1 rfl (qm_x_iald2v (v := a2) (by omega) (by omega) hX e2) ?_
        refine qm_G.s1 rfl (qm_x_aload rfl) ?_
        refine qm_G.s1 rfl (qm_x_iload rfl) ?_
        refine qm_G.s1 rfl (qm_x_pushI 3 rfl) ?_
        refine qm_G.s1 rfl (qm_x_iadd) ?_
        refine qm_G.s1 rfl (qm_x_iald2v (v := a3) (by omega) (by omega) hX e3) ?_
        refine qm_G.cm rfl rfl (hS 61 rfl) rfl ?_
        refine qm_C.go (cd := qm_P87) (lv := [(0, qm_R (some (0, 61, 0))), (1, qm_I (qm_i a1)), (2, qm_I (qm_i a2)), (3, qm_I (qm_i a3))]) rfl rfl ?_
        refine qm_G.s1 rfl (qm_x_iload rfl) ?_
        refine qm_G.s1 rfl (qm_x_pushI 0 rfl) ?_
        refine qm_G.s1 rfl (qm_x_pushI 3 rfl) ?_
        refine qm_G.cs rfl rfl rfl ?_
        refine qm_v_within11_t ⟨by omega, by omega⟩ ⟨by decide, by decide⟩ ⟨by decide, by decide⟩ (by omega) ⟨_, rfl, ?_⟩
        refine qm_G.s1 rfl (qm_x_if_ne_t ⟨by decide, by decide⟩ (by decide)) ?_
        refine qm_G.sp (lv1 := [(0, qm_R (some (0, 61, 0))), (1, qm_I (qm_i a1)), (2, qm_I (qm_i a2)), (3, qm_I (qm_i a3))]) rfl rfl (qm_x_iload rfl) ?_
        refine qm_G.s1 rfl (qm_x_pushI 0 rfl) ?_
        refine qm_G.s1 rfl (qm_x_pushI 6 rfl) ?_
        refine qm_G.cs rfl rfl rfl ?_
        refine qm_v_within11_t ⟨by omega, by omega⟩ ⟨by decide, by decide⟩ ⟨by decide, by decide⟩ (by omega) ⟨_, rfl, ?_⟩
        refine qm_G.s1 rfl (qm_x_if_eq_f ⟨by decide, by decide⟩ (by decide)) ?_
        refine qm_G.s1 rfl (qm_x_iload rfl) ?_
        refine qm_G.s1 rfl (qm_x_pushI 0 rfl) ?_
        refine qm_G.s1 rfl (qm_x_pushI 6 rfl) ?_
        refine qm_G.cs rfl rfl rfl ?_
        refine qm_v_within11_f ⟨by omega, by omega⟩ ⟨by decide, by decide⟩ ⟨by decide, by decide⟩ (by omega) ⟨_, rfl, ?_⟩
        refine qm_G.s1 rfl (qm_x_if_ne_f ⟨by decide, by decide⟩ (by decide)) ?_
        refine qm_G.sp (lv1 := []) rfl rfl (qm_x_pushI (-2) rfl) ?_
        refine qm_G.ret rfl rfl ⟨_, rfl, ?_⟩
        refine qm_G.s1 rfl (qm_x_icmp_eq_t ⟨by decide, by decide⟩ ⟨by decide, by decide⟩ (by decide)) ?_
        exact ih _ _ _ _ _ _ hI.next
    · refine qm_G.ret rfl rfl ⟨_, rfl, ?_⟩
      refine qm_G.s1 rfl (qm_x_if_eq_t ⟨by decide, by decide⟩ (by decide)) ?_
      refine qm_G.sp (lv1 := []) rfl rfl (qm_x_pushI (-2) rfl) ?_
      refine qm_G.ret rfl rfl ⟨_, rfl, ?_⟩
      refine qm_G.s1 rfl (qm_x_aload rfl) ?_
      refine qm_G.s1 rfl (qm_x_aload rfl) ?_
      refine qm_G.s1 rfl (qm_x_iload rfl) ?_
      refine qm_G.s1 rfl (qm_x_pushI 1 rfl) ?_
      refine qm_G.s1 rfl (qm_x_iadd) ?_
      refine qm_G.s1 rfl (qm_x_iald2v (v := a1) (by omega) (by omega) hX e1) ?_
      refine qm_G.s1 rfl (qm_x_aload rfl) ?_
      refine qm_G.s1 rfl (qm_x_iload rfl) ?_
      refine qm_G.s1 rfl (qm_x_pushI 2 rfl) ?_
      refine qm_G.s1 rfl (qm_x_iadd) ?_
      refine qm_G.s1 rfl (qm_x_iald2v (v := a2) (by omega) (by omega) hX e2) ?_
      refine qm_G.s1 rfl (qm_x_aload rfl) ?_
      refine qm_G.s1 rfl (qm_x_iload rfl) ?_
      refine qm_G.s1 rfl (qm_x_pushI 3 rfl) ?_
      refine qm_G.s1 rfl (qm_x_iadd) ?_
      refine qm_G.s1 rfl (qm_x_iald2v (v := a3) (by omega) (by omega) hX e3) ?_
      refine qm_G.cm rfl rfl (hS 61 rfl) rfl ?_
      refine qm_C.go (cd := qm_P87) (lv := [(0, qm_R (some (0, 61, 0))), (1, qm_I (qm_i a1)), (2, qm_I (qm_i a2)), (3, qm_I (qm_i a3))]) rfl rfl ?_
      refine qm_G.s1 rfl (qm_x_iload rfl) ?_
      refine qm_G.s1 rfl (qm_x_pushI 0 rfl) ?_
      refine qm_G.s1 rfl (qm_x_pushI 3 rfl) ?_
      refine qm_G.cs rfl rfl rfl ?_
      refine qm_v_within11_t ⟨by omega, by omega⟩ ⟨by decide, by decide⟩ ⟨by decide, by decide⟩ (by omega) ⟨_, rfl, ?_⟩
      refine qm_G.s1 rfl (qm_x_if_ne_t ⟨by decide, by decide⟩ (by decide)) ?_
      refine qm_G.sp (lv1 := [(0, qm_R (some (0, 61, 0))), (1, qm_I (qm_i a1)), (2, qm_I (qm_i a2)), (3, qm_I (qm_i a3))]) rfl rfl (qm_x_iload rfl) ?_
      refine qm_G.s1 rfl (qm_x_pushI 0 rfl) ?_
      refine qm_G.s1 rfl (qm_x_pushI 6 rfl) ?_
      refine qm_G.cs rfl rfl rfl ?_
      refine qm_v_within11_f ⟨by omega, by omega⟩ ⟨by decide, by decide⟩ ⟨by decide, by decide⟩ (by omega) ⟨_, rfl, ?_⟩
      refine qm_G.s1 rfl (qm_x_if_eq_t ⟨by decide, by decide⟩ (by decide)) ?_
      refine qm_G.sp (lv1 := []) rfl rfl (qm_x_pushI (-2) rfl) ?_
      refine qm_G.ret rfl rfl ⟨_, rfl, ?_⟩
      refine qm_G.s1 rfl (qm_x_icmp_eq_t ⟨by decide, by decide⟩ ⟨by decide, by decide⟩ (by decide)) ?_
      exact ih _ _ _ _ _ _ hI.next
  · refine qm_G.s1 rfl (qm_x_if_ne_f ⟨by decide, by decide⟩ (by decide)) ?_
    refine qm_G.s1 rfl (qm_x_pushI (-1) rfl) ?_
    refine qm_G.ret rfl rfl ⟨_, rfl, ?_⟩
    refine qm_G.s1 rfl (qm_x_aload rfl) ?_
    refine qm_G.s1 rfl (qm_x_aload rfl) ?_
    refine qm_G.s1 rfl (qm_x_iload rfl) ?_
    refine qm_G.s1 rfl (qm_x_pushI 1 rfl) ?_
    refine qm_G.s1 rfl (qm_x_iadd) ?_
    refine qm_G.s1 rfl (qm_x_iald2v (v := a1) (by omega) (by omega) hX e1) ?_
    refine qm_G.s1 rfl (qm_x_aload rfl) ?_
    refine qm_G.s1 rfl (qm_x_iload rfl) ?_
    refine qm_G.s1 rfl (qm_x_pushI 2 rfl) ?_
    refine qm_G.s1 rfl (qm_x_iadd) ?_
    refine qm_G.s1 rfl (qm_x_iald2v (v := a2) (by omega) (by omega) hX e2) ?_
    refine qm_G.s1 rfl (qm_x_aload rfl) ?_
    refine qm_G.s1 rfl (qm_x_iload rfl) ?_
    refine qm_G.s1 rfl (qm_x_pushI 3 rfl) ?_
    refine qm_G.s1 rfl (qm_x_iadd) ?_
    refine qm_G.s1 rfl (qm_x_iald2v (v := a3) (by omega) (by omega) hX e3) ?_
    refine qm_G.cm rfl rfl (hS 61 rfl) rfl ?_
    refine qm_C.go (cd := qm_P87) (lv := [(0, qm_R (some (0, 61, 0))), (1, qm_I (qm_i a1)), (2, qm_I (qm_i a2)), (3, qm_I (qm_i a3))]) rfl rfl ?_
    refine qm_G.s1 rfl (qm_x_iload rfl) ?_
    refine qm_G.s1 rfl (qm_x_pushI 0 rfl) ?_
    refine qm_G.s1 rfl (qm_x_pushI 3 rfl) ?_
    refine qm_G.cs rfl rfl rfl ?_
    refine qm_v_within11_f ⟨by omega, by omega⟩ ⟨by decide, by decide⟩ ⟨by decide, by decide⟩ (by omega) ⟨_, rfl, ?_⟩
    refine qm_G.s1 rfl (qm_x_if_ne_f ⟨by decide, by decide⟩ (by decide)) ?_
    refine qm_G.s1 rfl (qm_x_pushI (-1) rfl) ?_
    refine qm_G.ret rfl rfl ⟨_, rfl, ?_⟩
    refine qm_G.s1 rfl (qm_x_icmp_eq_t ⟨by decide, by decide⟩ ⟨by decide, by decide⟩ (by decide)) ?_
    exact ih _ _ _ _ _ _ hI.next
