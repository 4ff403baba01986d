/-! THE LAW, case 36 -/
theorem qm_case36 {S : List qm_Sh} {J K : qm_J} {L : qm_Ct Int64} {D : qm_Ct UInt64} {R : qm_Ct (Option qm_Rf)} {X : Nat × (Nat → Int32)} {k : Nat} {z : Int} {Q : Option qm_V → qm_Hp → Prop} {a1 : Int} {a2 : Int} {a3 : Int} {a4 : Int} {a5 : Int} (hI : qm_Inv S J K L D R k) (hX : X.1 ≤ 3072) (h0 : 0 ≤ z) (h6 : z + 6 ≤ X.1) (e1 : (X.2 (Int.toNat (z + 1))).toInt = a1) (e2 : (X.2 (Int.toNat (z + 2))).toInt = a2) (e3 : (X.2 (Int.toNat (z + 3))).toInt = a3) (e4 : (X.2 (Int.toNat (z + 4))).toInt = a4) (e5 : (X.2 (Int.toNat (z + 5))).toInt = a5) (ih : ∀ (S : List qm_Sh) (J K : qm_J) (L : qm_Ct Int64) (D : qm_Ct UInt64) (R : qm_Ct (Option qm_Rf)), qm_Inv S J K L D R (k + 1) → qm_G qm_P qm_P222 1445 [(0, qm_R (some (2, 0, 0))), (1, qm_R (some (0, 0, 0))), (2, qm_R (some (0, 61, 0))), (3, qm_I (qm_i z))] [] (qm_H S J K L D R X) Q) : qm_G qm_P qm_P222 1382 [(0, qm_R (some (2, 0, 0))), (1, qm_R (some (0, 0, 0))), (2, qm_R (some (0, 61, 0))), (3, qm_I (qm_i z))] [] (qm_H S J K L D R X) Q := by
  have hS := hI.sd
  have hR := hI.rd
  have hM := hI.mk
  have hN := hM.nk
  obtain ⟨W, hW⟩ : ∃ W : Nat → Int → qm_S3, W = qm_VB (qm_ch (J 62 0) 0 0) (qm_ch (J 62 0) 0 1) (J 62 0 1) (J 62 0 3) := ⟨_, rfl⟩
  have rW : ∀ t s, (0 ≤ (W t s).2.1 ∧ (W t s).2.1 ≤ 6) ∧ (0 ≤ (W t s).2.2 ∧ (W t s).2.2 ≤ 6) := fun t s => by rw [hW]; exact qm_VB_rng
  have s1 : qm_sm a1 := e1 ▸ qm_i_sml _
  have s2 : qm_sm a2 := e2 ▸ qm_i_sml _
  have s3 : qm_sm a3 := e3 ▸ qm_i_sml _
  have s4 : qm_sm a4 := e4 ▸ qm_i_sml _
  have s5 : qm_sm a5 := e5 ▸ qm_i_sml _
  refine qm_G.sp (lv1 := [(0, qm_R (some (2, 0, 0))), (1, qm_R (some (0, 0, 0))), (2, qm_R (some (0, 61, 0))), (3, qm_I (qm_i z))]) rfl rfl (qm_x_aload rfl) ?_
  refine qm_G.s1 rfl (qm_x_aload rfl) ?_
  refine qm_G.s1 rfl (qm_x_iload rfl) ?_
  refine qm_G.s1 rfl (qm_x_pushI 1 rfl) ?_
  refine qm_G.s1 rfl (qm_x_iadd) ?_
  refine qm_G.s1 rfl (qm_x_iald2v (v := a1) (by omega) (by omega) hX e1) ?_
  refine qm_G.s1 rfl (qm_x_aload rfl) ?_
  refine qm_G.s1 rfl (qm_x_iload rfl) ?_
  refine qm_G.s1 rfl (qm_x_pushI 2 rfl) ?_
  refine qm_G.s1 rfl (qm_x_iadd) ?_
  refine qm_G.s1 rfl (qm_x_iald2v (v := a2) (by omega) (by omega) hX e2) ?_
  refine qm_G.s1 rfl (qm_x_aload rfl) ?_
  refine qm_G.s1 rfl (qm_x_iload rfl) ?_
  refine qm_G.s1 rfl (qm_x_pushI 3 rfl) ?_
  refine qm_G.s1 rfl (qm_x_iadd) ?_
  refine qm_G.s1 rfl (qm_x_iald2v (v := a3) (by omega) (by omega) hX e3) ?_
  refine qm_G.s1 rfl (qm_x_aload rfl) ?_
  refine qm_G.s1 rfl (qm_x_iload rfl) ?_
  refine qm_G.s1 rfl (qm_x_pushI 4 rfl) ?_
  refine qm_G.s1 rfl (qm_x_iadd) ?_
  refine qm_G.s1 rfl (qm_x_iald2v (v := a4) (by omega) (by omega) hX e4) ?_
  refine qm_G.s1 rfl (qm_x_aload rfl) ?_
  refine qm_G.s1 rfl (qm_x_iload rfl) ?_
  refine qm_G.s1 rfl (qm_x_pushI 5 rfl) ?_
  refine qm_G.s1 rfl (qm_x_iadd) ?_
  refine qm_G.s1 rfl (qm_x_iald2v (v := a5) (by omega) (by omega) hX e5) ?_
  refine qm_G.cm rfl rfl (hS 0 rfl) rfl ?_
  refine qm_C.go (cd := qm_P147) (lv := [(0, qm_R (some (0, 0, 0))), (1, qm_I (qm_i a1)), (2, qm_I (qm_i a2)), (3, qm_I (qm_i a3)), (4, qm_I (qm_i a4)), (5, qm_I (qm_i a5))]) rfl rfl ?_
  refine qm_G.s1 rfl (qm_x_iload rfl) ?_
  refine qm_G.cs rfl rfl rfl ?_
  refine qm_C.go (cd := qm_P76) (lv := [(0, qm_I (qm_i a1))]) rfl rfl ?_
  refine qm_G.s1 rfl (qm_x_iload rfl) ?_
  refine qm_G.s1 rfl (qm_x_pushI 0 rfl) ?_
  refine qm_G.s1 rfl (qm_x_pushI 5 rfl) ?_
  refine qm_G.cs rfl rfl rfl ?_
  refine qm_v_within10 ⟨by omega, by omega⟩ ⟨by decide, by decide⟩ ⟨by decide, by decide⟩ (fun c1 => ⟨_, rfl, ?_⟩) (fun c1 => ⟨_, rfl, ?_⟩)
  · refine qm_G.ret rfl rfl ⟨_, rfl, ?_⟩
    refine qm_G.s1 rfl (qm_x_if_eq_f ⟨by decide, by decide⟩ (by decide)) ?_
    refine qm_G.s1 rfl (qm_x_iload rfl) ?_
    refine qm_G.cs rfl rfl rfl ?_
    refine qm_C.go (cd := qm_P76) (lv := [(0, qm_I (qm_i a3))]) rfl rfl ?_
    refine qm_G.s1 rfl (qm_x_iload rfl) ?_
    refine qm_G.s1 rfl (qm_x_pushI 0 rfl) ?_
    refine qm_G.s1 rfl (qm_x_pushI 5 rfl) ?_
    refine qm_G.cs rfl rfl rfl ?_
    refine qm_v_within10 ⟨by omega, by omega⟩ ⟨by decide, by decide⟩ ⟨by decide, by decide⟩ (fun c2 => ⟨_, rfl, ?_⟩) (fun c2 => ⟨_, rfl, ?_⟩)
    · refine qm_G.ret rfl rfl ⟨_, rfl, ?_⟩
      refine qm_G.s1 rfl (qm_x_if_ne_t ⟨by decide, by decide⟩ (by decide)) ?_
      refine qm_G.sp (lv1 := [(0, qm_R (some (0, 0, 0))), (1, qm_I (qm_i a1)), (2, qm_I (qm_i a2)), (3, qm_I (qm_i a3)), (4, qm_I (qm_i a4)), (5, qm_I (qm_i a5))]) rfl rfl (qm_x_aload rfl) ?_
      refine qm_G.s1 rfl (qm_x_getfR (q := (some (0, 46, 0))) (hS 0 rfl) (hR 0 5 46 rfl rfl)) ?_
      refine qm_G.s1 rfl (qm_x_iload rfl) ?_
      obtain ⟨q3, q3p, ⟨g4a, g4b⟩, g4r, g4s, g4t, g4u, g4v, g4w, g4x, g4y, g4z⟩ := hI.tap (a := a1) (by omega)
      refine qm_G.s1 rfl (qm_x_aaldr (q := (some (0, q3, 0))) (hS 46 rfl) rfl rfl (by omega) (by omega) g4r) ?_
      refine qm_G.s1 rfl (qm_x_astore (lv' := [(6, qm_R (some (0, q3, 0))), (0, qm_R (some (0, 0, 0))), (1, qm_I (qm_i a1)), (2, qm_I (qm_i a2)), (3, qm_I (qm_i a3)), (4, qm_I (qm_i a4)), (5, qm_I (qm_i a5))]) rfl) ?_
      refine qm_G.s1 rfl (qm_x_aload rfl) ?_
      refine qm_G.s1 rfl (qm_x_getfR (q := (some (0, 46, 0))) (hS 0 rfl) (hR 0 5 46 rfl rfl)) ?_
      refine qm_G.s1 rfl (qm_x_iload rfl) ?_
      obtain ⟨q5, q5p, ⟨g6a, g6b⟩, g6r, g6s, g6t, g6u, g6v, g6w, g6x, g6y, g6z⟩ := hI.tap (a := a3) (by omega)
      refine qm_G.s1 rfl (qm_x_aaldr (q := (some (0, q5, 0))) (hS 46 rfl) rfl rfl (by omega) (by omega) g6r) ?_
      refine qm_G.s1 rfl (qm_x_astore (lv' := [(7, qm_R (some (0, q5, 0))), (6, qm_R (some (0, q3, 0))), (0, qm_R (some (0, 0, 0))), (1, qm_I (qm_i a1)), (2, qm_I (qm_i a2)), (3, qm_I (qm_i a3)), (4, qm_I (qm_i a4)), (5, qm_I (qm_i a5))]) rfl) ?_
      refine qm_G.s1 rfl (qm_x_aload rfl) ?_
      refine qm_G.s1 rfl (qm_x_getfI (v := (J 73 0 (Int.toNat a1) - 1)) g4s g4v) ?_
      refine qm_G.s1 rfl (qm_x_pushI (-1) rfl) ?_
      refine qm_y_icmp_eq rfl ⟨by omega, by omega⟩ ⟨by decide, by decide⟩ (fun c7 => ?_) (fun c7 => ?_)
      · refine qm_G.sp (lv1 := []) rfl rfl (qm_x_pushI (-11) rfl) ?_
        refine qm_G.ret rfl rfl ⟨_, rfl, ?_⟩
        refine qm_G.s1 rfl (qm_x_aload rfl) ?_
        refine qm_G.s1 rfl (qm_x_aload rfl) ?_
        refine qm_G.s1 rfl (qm_x_iload rfl) ?_
        refine qm_G.s1 rfl (qm_x_pushI 1 rfl) ?_
        refine qm_G.s1 rfl (qm_x_iadd) ?_
        refine qm_G.s1 rfl (qm_x_iald2v (v := a1) (by omega) (by omega) hX e1) ?_
        refine qm_G.s1 rfl (qm_x_aload rfl) ?_
        refine qm_G.s1 rfl (qm_x_iload rfl) ?_
        refine qm_G.s1 rfl (qm_x_pushI 2 rfl) ?_
        refine qm_G.s1 rfl (qm_x_iadd) ?_
        refine qm_G.s1 rfl (qm_x_iald2v (v := a2) (by omega) (by omega) hX e2) ?_
        refine qm_G.s1 rfl (qm_x_aload rfl) ?_
        refine qm_G.s1 rfl (qm_x_iload rfl) ?_
        refine qm_G.s1 rfl (qm_x_pushI 3 rfl) ?_
        refine qm_G.s1 rfl (qm_x_iadd) ?_
        refine qm_G.s1 rfl (qm_x_iald2v (v := a3) (by omega) (by omega) hX e3) ?_
        refine qm_G.s1 rfl (qm_x_aload rfl) ?_
        refine qm_G.s1 rfl (qm_x_iload rfl) ?_
        refine qm_G.s1 rfl (qm_x_pushI 4 rfl) ?_
        refine qm_G.s1 rfl (qm_x_iadd) ?_
        refine qm_G.s1 rfl (qm_x_iald2v (v := a4) (by omega) (by omega) hX e4) ?_
        refine qm_G.s1 rfl (qm_x_aload rfl) ?_
        refine qm_G.s1 rfl (qm_x_iload rfl) ?_
        refine qm_G.s1 rfl (qm_x_pushI 5 rfl) ?_
        refine qm_G.s1 rfl (qm_x_iadd) ?_
        refine qm_G.s1 rfl (qm_x_iald2v (v := a5) (by omega) (by omega) hX e5) ?_
        refine qm_G.cm rfl rfl (hS 61 rfl) rfl ?_
        refine qm_C.go (cd := qm_P130) (lv := [(0, qm_R (some (0, 61, 0))), (1, qm_I (qm_i a1)), (2, qm_I (qm_i a2)), (3, qm_I (qm_i a3)), (4, qm_I (qm_i a4)), (5, qm_I (qm_i a5))]) rfl rfl ?_
        refine qm_G.s1 rfl (qm_x_iload rfl) ?_
        refine qm_G.cs rfl rfl rfl ?_
        refine qm_C.go (cd := qm_P86) (lv := [(0, qm_I (qm_i a1))]) rfl rfl ?_
        refine qm_G.s1 rfl (qm_x_iload rfl) ?_
        refine qm_G.s1 rfl (qm_x_pushI 0 rfl) ?_
        refine qm_G.s1 rfl (qm_x_pushI 5 rfl) ?_
        refine qm_G.cs rfl rfl rfl ?_
        refine qm_v_within11_t ⟨by omega, by omega⟩ ⟨by decide, by decide⟩ ⟨by decide, by decide⟩ (by omega) ⟨_, rfl, ?_⟩
        refine qm_G.ret rfl rfl ⟨_, rfl, ?_⟩
        refine qm_G.s1 rfl (qm_x_if_eq_f ⟨by decide, by decide⟩ (by decide)) ?_
        refine qm_G.s1 rfl (qm_x_iload rfl) ?_
        refine qm_G.cs rfl rfl rfl ?_
        refine qm_C.go (cd := qm_P86) (lv := [(0, qm_I (qm_i a3))]) rfl rfl ?_
        refine qm_G.s1 rfl (qm_x_iload rfl) ?_
        refine qm_G.s1 rfl (qm_x_pushI 0 rfl) ?_
        refine qm_G.s1 rfl (qm_x_pushI 5 rfl) ?_
        refine qm_G.cs rfl rfl rfl ?_
        refine qm_v_within11_t ⟨by omega, by omega⟩ ⟨by decide, by decide⟩ ⟨by decide, by decide⟩ (by omega) ⟨_, rfl, ?_⟩
        refine qm_G.ret rfl rfl ⟨_, rfl, ?_⟩
        refine qm_G.s1 rfl (qm_x_if_ne_t ⟨by decide, by decide⟩ (by decide)) ?_
        refine qm_G.sp (lv1 := [(0, qm_R (some (0, 61, 0))), (1, qm_I (qm_i a1)), (2, qm_I (qm_i a2)), (3, qm_I (qm_i a3)), (4, qm_I (qm_i a4)), (5, qm_I (qm_i a5))]) rfl rfl (qm_x_aload rfl) ?_
        refine qm_G.s1 rfl (qm_x_getfR (q := (some (0, 73, 0))) (hS 61 rfl) (hR 61 20 73 rfl rfl)) ?_
        refine qm_G.s1 rfl (qm_x_iload rfl) ?_
        refine qm_G.s1 rfl (qm_x_iald (v := (J 73 0 (Int.toNat a1))) (qm_arS hS rfl rfl) rfl (by omega) (by omega) (by decide) rfl) ?_
        refine qm_G.s1 rfl (qm_x_if_eq_t ⟨by omega, by omega⟩ (by omega)) ?_
        refine qm_G.sp (lv1 := []) rfl rfl (qm_x_pushI (-11) rfl) ?_
        refine qm_G.ret rfl rfl ⟨_, rfl, ?_⟩
        refine qm_G.s1 rfl (qm_x_icmp_eq_t ⟨by decide, by decide⟩ ⟨by decide, by decide⟩ (by decide)) ?_
        exact ih _ _ _ _ _ _ hI.next
      · refine qm_G.s1 rfl (qm_x_aload rfl) ?_
        refine qm_G.s1 rfl (qm_x_getfI (v := (J 73 0 (Int.toNat a3) - 1)) g6s g6v) ?_
        refine qm_G.s1 rfl (qm_x_pushI (-1) rfl) ?_
        refine qm_y_icmp_ne rfl ⟨by omega, by omega⟩ ⟨by decide, by decide⟩ (fun c10 => ?_) (fun c10 => ?_)
        · refine qm_G.sp (lv1 := [(2, qm_I (qm_i a2)), (4, qm_I (qm_i a4)), (5, qm_I (qm_i a5)), (6, qm_R (some (0, q3, 0))), (7, qm_R (some (0, q5, 0)))]) rfl rfl (qm_x_aload rfl) ?_
          refine qm_G.s1 rfl (qm_x_getfI (v := (J 73 0 (Int.toNat a1) - 1)) g4s g4v) ?_
          refine qm_G.s1 rfl (qm_x_aload rfl) ?_
          refine qm_G.s1 rfl (qm_x_getfI (v := (J 73 0 (Int.toNat a3) - 1)) g6s g6v) ?_
          refine qm_y_icmp_eq rfl ⟨by omega, by omega⟩ ⟨by omega, by omega⟩ (fun c11 => ?_) (fun c11 => ?_)
          · refine qm_G.sp (lv1 := [(2, qm_I (qm_i a2)), (4, qm_I (qm_i a4)), (5, qm_I (qm_i a5)), (6, qm_R (some (0, q3, 0))), (7, qm_R (some (0, q5, 0)))]) rfl rfl (qm_x_aload rfl) ?_
            refine qm_G.s1 rfl (qm_x_iload rfl) ?_
            refine qm_G.s1 rfl (qm_x_iload rfl) ?_
            refine qm_G.cm rfl rfl g4s rfl ?_
            refine qm_C.go (cd := qm_P95) (lv := [(0, qm_R (some (0, q3, 0))), (1, qm_I (qm_i a2)), (2, qm_I (qm_i a5))]) rfl rfl ?_
            refine qm_G.s1 rfl (qm_x_iload rfl) ?_
            refine qm_G.s1 rfl (qm_x_pushI 0 rfl) ?_
            refine qm_G.s1 rfl (qm_x_aload rfl) ?_
            refine qm_G.s1 rfl (qm_x_getfI (v := (J 74 0 (Int.toNat a1))) g4s g4x) ?_
            refine qm_G.cs rfl rfl rfl ?_
            refine qm_v_within10 ⟨by omega, by omega⟩ ⟨by decide, by decide⟩ ⟨by omega, by omega⟩ (fun c12 => ⟨_, rfl, ?_⟩) (fun c12 => ⟨_, rfl, ?_⟩)
            · refine qm_G.s1 rfl (qm_x_if_eq_f ⟨by decide, by decide⟩ (by decide)) ?_
              refine qm_G.s1 rfl (qm_x_iload rfl) ?_
              refine qm_G.s1 rfl (qm_x_pushI 0 rfl) ?_
              refine qm_G.s1 rfl (qm_x_aload rfl) ?_
              refine qm_G.s1 rfl (qm_x_getfI (v := (J 74 0 (Int.toNat a1))) g4s g4x) ?_
              refine qm_G.s1 rfl (qm_x_iload rfl) ?_
              refine qm_G.s1 rfl (qm_x_isub) ?_
              refine qm_G.cs rfl rfl rfl ?_
              refine qm_v_within10 ⟨by omega, by omega⟩ ⟨by decide, by decide⟩ ⟨by omega, by omega⟩ (fun c13 => ⟨_, rfl, ?_⟩) (fun c13 => ⟨_, rfl, ?_⟩)
              · refine qm_G.s1 rfl (qm_x_if_eq_f ⟨by decide, by decide⟩ (by decide)) ?_
                refine qm_G.s1 rfl (qm_x_pushI 1 rfl) ?_
                refine qm_G.s1 rfl (qm_x_goto) ?_
                refine qm_G.ret rfl rfl ⟨_, rfl, ?_⟩
                refine qm_G.s1 rfl (qm_x_if_eq_f ⟨by decide, by decide⟩ (by decide)) ?_
                refine qm_G.s1 rfl (qm_x_aload rfl) ?_
                refine qm_G.s1 rfl (qm_x_iload rfl) ?_
                refine qm_G.s1 rfl (qm_x_iload rfl) ?_
                refine qm_G.cm rfl rfl g6s rfl ?_
                refine qm_C.go (cd := qm_P95) (lv := [(0, qm_R (some (0, q5, 0))), (1, qm_I (qm_i a4)), (2, qm_I (qm_i a5))]) rfl rfl ?_
                refine qm_G.s1 rfl (qm_x_iload rfl) ?_
                refine qm_G.s1 rfl (qm_x_pushI 0 rfl) ?_
                refine qm_G.s1 rfl (qm_x_aload rfl) ?_
                refine qm_G.s1 rfl (qm_x_getfI (v := (J 74 0 (Int.toNat a3))) g6s g6x) ?_
                refine qm_G.cs rfl rfl rfl ?_
                refine qm_v_within10 ⟨by omega, by omega⟩ ⟨by decide, by decide⟩ ⟨by omega, by omega⟩ (fun c14 => ⟨_, rfl, ?_⟩) (fun c14 => ⟨_, rfl, ?_⟩)
                · refine qm_G.s1 rfl (qm_x_if_eq_f ⟨by decide, by decide⟩ (by decide)) ?_
                  refine qm_G.s1 rfl (qm_x_iload rfl) ?_
                  refine qm_G.s1 rfl (qm_x_pushI 0 rfl) ?_
                  refine qm_G.s1 rfl (qm_x_aload rfl) ?_
                  refine qm_G.s1 rfl (qm_x_getfI (v := (J 74 0 (Int.toNat a3))) g6s g6x) ?_
                  refine qm_G.s1 rfl (qm_x_iload rfl) ?_
                  refine qm_G.s1 rfl (qm_x_isub) ?_
                  refine qm_G.cs rfl rfl rfl ?_
                  refine qm_v_within10 ⟨by omega, by omega⟩ ⟨by decide, by decide⟩ ⟨by omega, by omega⟩ (fun c15 => ⟨_, rfl, ?_⟩) (fun c15 => ⟨_, rfl, ?_⟩)
                  · refine qm_G.s1 rfl (qm_x_if_eq_f ⟨by decide, by decide⟩ (by decide)) ?_
                    refine qm_G.s1 rfl (qm_x_pushI 1 rfl) ?_
                    refine qm_G.s1 rfl (qm_x_goto) ?_
                    refine qm_G.ret rfl rfl ⟨_, rfl, ?_⟩
                    refine qm_G.s1 rfl (qm_x_if_ne_t ⟨by decide, by decide⟩ (by decide)) ?_
                    refine qm_G.sp (lv1 := [(2, qm_I (qm_i a2)), (4, qm_I (qm_i a4)), (5, qm_I (qm_i a5)), (6, qm_R (some (0, q3, 0))), (7, qm_R (some (0, q5, 0)))]) rfl rfl (qm_x_aload rfl) ?_
                    refine qm_G.s1 rfl (qm_x_getfR (q := (some (0, q3p, 0))) g4s g4t) ?_
                    refine qm_G.s1 rfl (qm_x_iload rfl) ?_
                    refine qm_G.s1 rfl (qm_x_aload rfl) ?_
                    refine qm_G.s1 rfl (qm_x_getfR (q := (some (0, q5p, 0))) g6s g6t) ?_
                    refine qm_G.s1 rfl (qm_x_iload rfl) ?_
                    refine qm_G.s1 rfl (qm_x_iload rfl) ?_
                    refine qm_G.s1 rfl (qm_x_acopyL (qm_arD g4u) (qm_arD g6u) rfl (by omega) (by omega) (by omega) (by omega) (by omega) (by decide) (by decide)) ?_
                    obtain ⟨L2, hL2⟩ : ∃ f, f = qm_cpy L q3p 0 (Int.toNat a2) q5p 0 (Int.toNat a4) (Int.toNat a5) := ⟨_, rfl⟩
                    rw [← hL2]
                    refine qm_G.s1 rfl (qm_x_iload rfl) ?_
                    refine qm_G.ret rfl rfl ⟨_, rfl, ?_⟩
                    refine qm_G.s1 rfl (qm_x_aload rfl) ?_
                    refine qm_G.s1 rfl (qm_x_aload rfl) ?_
                    refine qm_G.s1 rfl (qm_x_iload rfl) ?_
                    refine qm_G.s1 rfl (qm_x_pushI 1 rfl) ?_
                    refine qm_G.s1 rfl (qm_x_iadd) ?_
                    refine qm_G.s1 rfl (qm_x_iald2v (v := a1) (by omega) (by omega) hX e1) ?_
                    refine qm_G.s1 rfl (qm_x_aload rfl) ?_
                    refine qm_G.s1 rfl (qm_x_iload rfl) ?_
                    refine qm_G.s1 rfl (qm_x_pushI 2 rfl) ?_
                    refine qm_G.s1 rfl (qm_x_iadd) ?_
                    refine qm_G.s1 rfl (qm_x_iald2v (v := a2) (by omega) (by omega) hX e2) ?_
                    refine qm_G.s1 rfl (qm_x_aload rfl) ?_
                    refine qm_G.s1 rfl (qm_x_iload rfl) ?_
                    refine qm_G.s1 rfl (qm_x_pushI 3 rfl) ?_
                    refine qm_G.s1 rfl (qm_x_iadd) ?_
                    refine qm_G.s1 rfl (qm_x_iald2v (v := a3) (by omega) (by omega) hX e3) ?_
                    refine qm_G.s1 rfl (qm_x_aload rfl) ?_
                    refine qm_G.s1 rfl (qm_x_iload rfl) ?_
                    refine qm_G.s1 rfl (qm_x_pushI 4 rfl) ?_
                    refine qm_G.s1 rfl (qm_x_iadd) ?_
                    refine qm_G.s1 rfl (qm_x_iald2v (v := a4) (by omega) (by omega) hX e4) ?_
                    refine qm_G.s1 rfl (qm_x_aload rfl) ?_
                    refine qm_G.s1 rfl (qm_x_iload rfl) ?_
                    refine qm_G.s1 rfl (qm_x_pushI 5 rfl) ?_
                    refine qm_G.s1 rfl (qm_x_iadd) ?_
                    refine qm_G.s1 rfl (qm_x_iald2v (v := a5) (by omega) (by omega) hX e5) ?_
                    refine qm_G.cm rfl rfl (hS 61 rfl) rfl ?_
                    refine qm_C.go (cd := qm_P130) (lv := [(0, qm_R (some (0, 61, 0))), (1, qm_I (qm_i a1)), (2, qm_I (qm_i a2)), (3, qm_I (qm_i a3)), (4, qm_I (qm_i a4)), (5, qm_I (qm_i a5))]) rfl rfl ?_
                    refine qm_G.s1 rfl (qm_x_iload rfl) ?_
                    refine qm_G.cs rfl rfl rfl ?_
                    refine qm_C.go (cd := qm_P86) (lv := [(0, qm_I (qm_i a1))]) rfl rfl ?_
                    refine qm_G.s1 rfl (qm_x_iload rfl) ?_
                    refine qm_G.s1 rfl (qm_x_pushI 0 rfl) ?_
                    refine qm_G.s1 rfl (qm_x_pushI 5 rfl) ?_
                    refine qm_G.cs rfl rfl rfl ?_
                    refine qm_v_within11_t ⟨by omega, by omega⟩ ⟨by decide, by decide⟩ ⟨by decide, by decide⟩ (by omega) ⟨_, rfl, ?_⟩
                    refine qm_G.ret rfl rfl ⟨_, rfl, ?_⟩
                    refine qm_G.s1 rfl (qm_x_if_eq_f ⟨by decide, by decide⟩ (by decide)) ?_
                    refine qm_G.s1 rfl (qm_x_iload rfl) ?_
                    refine qm_G.cs rfl rfl rfl ?_
                    refine qm_C.go (cd := qm_P86) (lv := [(0, qm_I (qm_i a3))]) rfl rfl ?_
                    refine qm_G.s1 rfl (qm_x_iload rfl) ?_
                    refine qm_G.s1 rfl (qm_x_pushI 0 rfl) ?_
                    refine qm_G.s1 rfl (qm_x_pushI 5 rfl) ?_
                    refine qm_G.cs rfl rfl rfl ?_
                    refine qm_v_within11_t ⟨by omega, by omega⟩ ⟨by decide, by decide⟩ ⟨by decide, by decide⟩ (by omega) ⟨_, rfl, ?_⟩
                    refine qm_G.ret rfl rfl ⟨_, rfl, ?_⟩
                    refine qm_G.s1 rfl (qm_x_if_ne_t ⟨by decide, by decide⟩ (by decide)) ?_
                    refine qm_G.sp (lv1 := [(0, qm_R (some (0, 61, 0))), (1, qm_I (qm_i a1)), (2, qm_I (qm_i a2)), (3, qm_I (qm_i a3)), (4, qm_I (qm_i a4)), (5, qm_I (qm_i a5))]) rfl rfl (qm_x_aload rfl) ?_
                    refine qm_G.s1 rfl (qm_x_getfR (q := (some (0, 73, 0))) (hS 61 rfl) (hR 61 20 73 rfl rfl)) ?_
                    refine qm_G.s1 rfl (qm_x_iload rfl) ?_
                    refine qm_G.s1 rfl (qm_x_iald (v := (J 73 0 (Int.toNat a1))) (qm_arS hS rfl rfl) rfl (by omega) (by omega) (by decide) rfl) ?_
                    refine qm_G.s1 rfl (qm_x_if_eq_f ⟨by omega, by omega⟩ (by omega)) ?_
                    refine qm_G.s1 rfl (qm_x_aload rfl) ?_
                    refine qm_G.s1 rfl (qm_x_getfR (q := (some (0, 73, 0))) (hS 61 rfl) (hR 61 20 73 rfl rfl)) ?_
                    refine qm_G.s1 rfl (qm_x_iload rfl) ?_
                    refine qm_G.s1 rfl (qm_x_iald (v := (J 73 0 (Int.toNat a3))) (qm_arS hS rfl rfl) rfl (by omega) (by omega) (by decide) rfl) ?_
                    refine qm_G.s1 rfl (qm_x_if_ne_t ⟨by omega, by omega⟩ (by omega)) ?_
                    refine qm_G.sp (lv1 := [(0, qm_R (some (0, 61, 0))), (1, qm_I (qm_i a1)), (2, qm_I (qm_i a2)), (3, qm_I (qm_i a3)), (4, qm_I (qm_i a4)), (5, qm_I (qm_i a5))]) rfl rfl (qm_x_aload rfl) ?_
                    refine qm_G.s1 rfl (qm_x_getfR (q := (some (0, 73, 0))) (hS 61 rfl) (hR 61 20 73 rfl rfl)) ?_
                    refine qm_G.s1 rfl (qm_x_iload rfl) ?_
                    refine qm_G.s1 rfl (qm_x_iald (v := (J 73 0 (Int.toNat a1))) (qm_arS hS rfl rfl) rfl (by omega) (by omega) (by decide) rfl) ?_
                    refine qm_G.s1 rfl (qm_x_aload rfl) ?_
                    refine qm_G.s1 rfl (qm_x_getfR (q := (some (0, 73, 0))) (hS 61 rfl) (hR 61 20 73 rfl rfl)) ?_
                    refine qm_G.s1 rfl (qm_x_iload rfl) ?_
                    refine qm_G.s1 rfl (qm_x_iald (v := (J 73 0 (Int.toNat a3))) (qm_arS hS rfl rfl) rfl (by omega) (by omega) (by decide) rfl) ?_
                    refine qm_G.s1 rfl (qm_x_icmp_eq_t ⟨by omega, by omega⟩ ⟨by omega, by omega⟩ (by omega)) ?_
                    refine qm_G.sp (lv1 := [(0, qm_R (some (0, 61, 0))), (1, qm_I (qm_i a1)), (2, qm_I (qm_i a2)), (3, qm_I (qm_i a3)), (4, qm_I (qm_i a4)), (5, qm_I (qm_i a5))]) rfl rfl (qm_x_iload rfl) ?_
                    refine qm_G.s1 rfl (qm_x_if_lt_f ⟨by omega, by omega⟩ (by omega)) ?_
                    refine qm_G.s1 rfl (qm_x_iload rfl) ?_
                    refine qm_G.s1 rfl (qm_x_if_lt_f ⟨by omega, by omega⟩ (by omega)) ?_
                    refine qm_G.s1 rfl (qm_x_iload rfl) ?_
                    refine qm_G.s1 rfl (qm_x_if_lt_f ⟨by omega, by omega⟩ (by omega)) ?_
                    refine qm_G.s1 rfl (qm_x_iload rfl) ?_
                    refine qm_G.s1 rfl (qm_x_i2l ⟨by omega, by omega⟩) ?_
                    refine qm_G.s1 rfl (qm_x_iload rfl) ?_
                    refine qm_G.s1 rfl (qm_x_i2l ⟨by omega, by omega⟩) ?_
                    refine qm_G.s1 rfl (qm_x_laddz) ?_
                    refine qm_G.s1 rfl (qm_x_aload rfl) ?_
                    refine qm_G.s1 rfl (qm_x_getfR (q := (some (0, 74, 0))) (hS 61 rfl) (hR 61 21 74 rfl rfl)) ?_
                    refine qm_G.s1 rfl (qm_x_iload rfl) ?_
                    refine qm_G.s1 rfl (qm_x_iald (v := (J 74 0 (Int.toNat a1))) (qm_arS hS rfl rfl) rfl (by omega) (by omega) (by decide) rfl) ?_
                    refine qm_G.s1 rfl (qm_x_i2l ⟨by omega, by omega⟩) ?_
                    refine qm_y_lcmp rfl ⟨by omega, by omega⟩ ⟨by omega, by omega⟩ (fun c18 => ?_) (fun c18 => ?_) (fun c18 => absurd c18 (by omega))
                    · refine qm_G.s1 rfl (qm_x_if_gt_f ⟨by decide, by decide⟩ (by decide)) ?_
                      refine qm_G.s1 rfl (qm_x_iload rfl) ?_
                      refine qm_G.s1 rfl (qm_x_i2l ⟨by omega, by omega⟩) ?_
                      refine qm_G.s1 rfl (qm_x_iload rfl) ?_
                      refine qm_G.s1 rfl (qm_x_i2l ⟨by omega, by omega⟩) ?_
                      refine qm_G.s1 rfl (qm_x_laddz) ?_
                      refine qm_G.s1 rfl (qm_x_aload rfl) ?_
                      refine qm_G.s1 rfl (qm_x_getfR (q := (some (0, 74, 0))) (hS 61 rfl) (hR 61 21 74 rfl rfl)) ?_
                      refine qm_G.s1 rfl (qm_x_iload rfl) ?_
                      refine qm_G.s1 rfl (qm_x_iald (v := (J 74 0 (Int.toNat a3))) (qm_arS hS rfl rfl) rfl (by omega) (by omega) (by decide) rfl) ?_
                      refine qm_G.s1 rfl (qm_x_i2l ⟨by omega, by omega⟩) ?_
                      refine qm_y_lcmp rfl ⟨by omega, by omega⟩ ⟨by omega, by omega⟩ (fun c19 => ?_) (fun c19 => ?_) (fun c19 => absurd c19 (by omega))
                      · refine qm_G.s1 rfl (qm_x_if_le_t ⟨by decide, by decide⟩ (by decide)) ?_
                        refine qm_G.sp (lv1 := [(0, qm_R (some (0, 61, 0))), (1, qm_I (qm_i a1)), (2, qm_I (qm_i a2)), (3, qm_I (qm_i a3)), (4, qm_I (qm_i a4)), (5, qm_I (qm_i a5))]) rfl rfl (qm_x_pushI 0 rfl) ?_
                        refine qm_G.s1 rfl (qm_x_istore (lv' := [(6, qm_I (qm_i 0)), (0, qm_R (some (0, 61, 0))), (1, qm_I (qm_i a1)), (2, qm_I (qm_i a2)), (3, qm_I (qm_i a3)), (4, qm_I (qm_i a4)), (5, qm_I (qm_i a5))]) rfl) ?_
                        refine qm_G.pk (lv1 := [(0, qm_R (some (0, 61, 0))), (1, qm_I (qm_i a1)), (2, qm_I (qm_i a2)), (3, qm_I (qm_i a3)), (4, qm_I (qm_i a4)), (5, qm_I (qm_i a5)), (6, qm_I (qm_i 0))]) rfl rfl rfl ?_
                        refine qm_m_sha (T := a1) (O := a3) (i := a2) (j := a4) (m := a5) hS hR (by omega) (by omega) (by omega) (by omega) (Int.toNat a5) 0 L2 (by omega) (by decide) (fun x hx => absurd hx (by omega)) (fun L3 el3 z3 => ?_)
                        refine qm_G.sp (lv1 := [(0, qm_R (some (0, 61, 0))), (3, qm_I (qm_i a3)), (4, qm_I (qm_i a4)), (5, qm_I (qm_i a5))]) rfl rfl (qm_x_pushI 0 rfl) ?_
                        refine qm_G.s1 rfl (qm_x_istore (lv' := [(6, qm_I (qm_i 0)), (0, qm_R (some (0, 61, 0))), (3, qm_I (qm_i a3)), (4, qm_I (qm_i a4)), (5, qm_I (qm_i a5))]) rfl) ?_
                        refine qm_G.pk (lv1 := [(0, qm_R (some (0, 61, 0))), (3, qm_I (qm_i a3)), (4, qm_I (qm_i a4)), (5, qm_I (qm_i a5)), (6, qm_I (qm_i 0))]) rfl rfl rfl ?_
                        refine qm_m_shb (O := a3) (j := a4) (m := a5) hS hR (by omega) (by omega) (by omega) (by omega) (Int.toNat a5) 0 L3 (by omega) (by decide) (fun L4 el4 z4 => ?_)
                        refine qm_G.sp (lv1 := [(5, qm_I (qm_i a5))]) rfl rfl (qm_x_iload rfl) ?_
                        refine qm_G.ret rfl rfl ⟨_, rfl, ?_⟩
                        refine qm_G.s1 rfl (qm_x_icmp_eq_t ⟨by omega, by omega⟩ ⟨by omega, by omega⟩ (by omega)) ?_
                        have e75 : ∀ x : Nat, L2 75 0 x = L 75 0 x := fun x => by rw [hL2]; exact qm_cp_ne (by omega)
                        have q75 : ∀ x : Nat, (x : Int) < a5 → L4 75 0 (Int.toNat (60 * a3 + a4) + x) = L 75 0 (Int.toNat (60 * a1 + a2) + x) := fun x hx => by rw [z4 x (by omega) hx, z3 x hx, el3 75 0 _ (by decide), e75]
                        refine ih _ _ _ _ _ _ (qm_U_itms hI (fun t x ht hx => ?_))
                        rw [el4 (50 + 2 * t) 0 x (by omega), el3 (50 + 2 * t) 0 x (by omega), hL2]
                        by_cases cx : t = Int.toNat a3 ∧ Int.toNat a4 ≤ x ∧ x < Int.toNat a4 + Int.toNat a5
                        · obtain ⟨c1, c2, c3⟩ := cx
                          rw [show 50 + 2 * t = q5p by omega, qm_cp_in c2 c3, show 60 * t + x = Int.toNat (60 * a3 + a4) + (x - Int.toNat a4) by omega, q75 _ (by omega), g4z _ (by omega)]
                          exact congrArg (L 75 0) (by omega)
                        · rw [qm_cp_ne (by omega), el4 75 0 _ (by omega), el3 75 0 _ (by decide), e75]
                          exact hI.itm t x ht hx
                      · refine qm_G.s1 rfl (qm_x_if_le_t ⟨by decide, by decide⟩ (by decide)) ?_
                        refine qm_G.sp (lv1 := [(0, qm_R (some (0, 61, 0))), (1, qm_I (qm_i a1)), (2, qm_I (qm_i a2)), (3, qm_I (qm_i a3)), (4, qm_I (qm_i a4)), (5, qm_I (qm_i a5))]) rfl rfl (qm_x_pushI 0 rfl) ?_
                        refine qm_G.s1 rfl (qm_x_istore (lv' := [(6, qm_I (qm_i 0)), (0, qm_R (some (0, 61, 0))), (1, qm_I (qm_i a1)), (2, qm_I (qm_i a2)), (3, qm_I (qm_i a3)), (4, qm_I (qm_i a4)), (5, qm_I (qm_i a5))]) rfl) ?_
                        refine qm_G.pk (lv1 := [(0, qm_R (some (0, 61, 0))), (1, qm_I (qm_i a1)), (2, qm_I (qm_i a2)), (3, qm_I (qm_i a3)), (4, qm_I (qm_i a4)), (5, qm_I (qm_i a5)), (6, qm_I (qm_i 0))]) rfl rfl rfl ?_
                        refine qm_m_sha (T := a1) (O := a3) (i := a2) (j := a4) (m := a5) hS hR (by omega) (by omega) (by omega) (by omega) (Int.toNat a5) 0 L2 (by omega) (by decide) (fun x hx => absurd hx (by omega)) (fun L3 el3 z3 => ?_)
                        refine qm_G.sp (lv1 := [(0, qm_R (some (0, 61, 0))), (3, qm_I (qm_i a3)), (4, qm_I (qm_i a4)), (5, qm_I (qm_i a5))]) rfl rfl (qm_x_pushI 0 rfl) ?_
                        refine qm_G.s1 rfl (qm_x_istore (lv' := [(6, qm_I (qm_i 0)), (0, qm_R (some (0, 61, 0))), (3, qm_I (qm_i a3)), (4, qm_I (qm_i a4)), (5, qm_I (qm_i a5))]) rfl) ?_
                        refine qm_G.pk (lv1 := [(0, qm_R (some (0, 61, 0))), (3, qm_I (qm_i a3)), (4, qm_I (qm_i a4)), (5, qm_I (qm_i a5)), (6, qm_I (qm_i 0))]) rfl rfl rfl ?_
                        refine qm_m_shb (O := a3) (j := a4) (m := a5) hS hR (by omega) (by omega) (by omega) (by omega) (Int.toNat a5) 0 L3 (by omega) (by decide) (fun L4 el4 z4 => ?_)
                        refine qm_G.sp (lv1 := [(5, qm_I (qm_i a5))]) rfl rfl (qm_x_iload rfl) ?_
                        refine qm_G.ret rfl rfl ⟨_, rfl, ?_⟩
                        refine qm_G.s1 rfl (qm_x_icmp_eq_t ⟨by omega, by omega⟩ ⟨by omega, by omega⟩ (by omega)) ?_
                        have e75 : ∀ x : Nat, L2 75 0 x = L 75 0 x := fun x => by rw [hL2]; exact qm_cp_ne (by omega)
                        have q75 : ∀ x : Nat, (x : Int) < a5 → L4 75 0 (Int.toNat (60 * a3 + a4) + x) = L 75 0 (Int.toNat (60 * a1 + a2) + x) := fun x hx => by rw [z4 x (by omega) hx, z3 x hx, el3 75 0 _ (by decide), e75]
                        refine ih _ _ _ _ _ _ (qm_U_itms hI (fun t x ht hx => ?_))
                        rw [el4 (50 + 2 * t) 0 x (by omega), el3 (50 + 2 * t) 0 x (by omega), hL2]
                        by_cases cx : t = Int.toNat a3 ∧ Int.toNat a4 ≤ x ∧ x < Int.toNat a4 + Int.toNat a5
                        · obtain ⟨c1, c2, c3⟩ := cx
                          rw [show 50 + 2 * t = q5p by omega, qm_cp_in c2 c3, show 60 * t + x = Int.toNat (60 * a3 + a4) + (x - Int.toNat a4) by omega, q75 _ (by omega), g4z _ (by omega)]
                          exact congrArg (L 75 0) (by omega)
                        · rw [qm_cp_ne (by omega), el4 75 0 _ (by omega), el3 75 0 _ (by decide), e75]
                          exact hI.itm t x ht hx
                    · refine qm_G.s1 rfl (qm_x_if_gt_f ⟨by decide, by decide⟩ (by decide)) ?_
                      refine qm_G.s1 rfl (qm_x_iload rfl) ?_
                      refine qm_G.s1 rfl (qm_x_i2l ⟨by omega, by omega⟩) ?_
                      refine qm_G.s1 rfl (qm_x_iload rfl) ?_
                      refine qm_G.s1 rfl (qm_x_i2l ⟨by omega, by omega⟩) ?_
                      refine qm_G.s1 rfl (qm_x_laddz) ?_
                      refine qm_G.s1 rfl (qm_x_aload rfl) ?_
                      refine qm_G.s1 rfl (qm_x_getfR (q := (some (0, 74, 0))) (hS 61 rfl) (hR 61 21 74 rfl rfl)) ?_
                      refine qm_G.s1 rfl (qm_x_iload rfl) ?_
                      refine qm_G.s1 rfl (qm_x_iald (v := (J 74 0 (Int.toNat a3))) (qm_arS hS rfl rfl) rfl (by omega) (by omega) (by decide) rfl) ?_
                      refine qm_G.s1 rfl (qm_x_i2l ⟨by omega, by omega⟩) ?_
                      refine qm_y_lcmp rfl ⟨by omega, by omega⟩ ⟨by omega, by omega⟩ (fun c20 => ?_) (fun c20 => ?_) (fun c20 => absurd c20 (by omega))
                      · refine qm_G.s1 rfl (qm_x_if_le_t ⟨by decide, by decide⟩ (by decide)) ?_
                        refine qm_G.sp (lv1 := [(0, qm_R (some (0, 61, 0))), (1, qm_I (qm_i a1)), (2, qm_I (qm_i a2)), (3, qm_I (qm_i a3)), (4, qm_I (qm_i a4)), (5, qm_I (qm_i a5))]) rfl rfl (qm_x_pushI 0 rfl) ?_
                        refine qm_G.s1 rfl (qm_x_istore (lv' := [(6, qm_I (qm_i 0)), (0, qm_R (some (0, 61, 0))), (1, qm_I (qm_i a1)), (2, qm_I (qm_i a2)), (3, qm_I (qm_i a3)), (4, qm_I (qm_i a4)), (5, qm_I (qm_i a5))]) rfl) ?_
                        refine qm_G.pk (lv1 := [(0, qm_R (some (0, 61, 0))), (1, qm_I (qm_i a1)), (2, qm_I (qm_i a2)), (3, qm_I (qm_i a3)), (4, qm_I (qm_i a4)), (5, qm_I (qm_i a5)), (6, qm_I (qm_i 0))]) rfl rfl rfl ?_
                        refine qm_m_sha (T := a1) (O := a3) (i := a2) (j := a4) (m := a5) hS hR (by omega) (by omega) (by omega) (by omega) (Int.toNat a5) 0 L2 (by omega) (by decide) (fun x hx => absurd hx (by omega)) (fun L3 el3 z3 => ?_)
                        refine qm_G.sp (lv1 := [(0, qm_R (some (0, 61, 0))), (3, qm_I (qm_i a3)), (4, qm_I (qm_i a4)), (5, qm_I (qm_i a5))]) rfl rfl (qm_x_pushI 0 rfl) ?_
                        refine qm_G.s1 rfl (qm_x_istore (lv' := [(6, qm_I (qm_i 0)), (0, qm_R (some (0, 61, 0))), (3, qm_I (qm_i a3)), (4, qm_I (qm_i a4)), (5, qm_I (qm_i a5))]) rfl) ?_
                        refine qm_G.pk (lv1 := [(0, qm_R (some (0, 61, 0))), (3, qm_I (qm_i a3)), (4, qm_I (qm_i a4)), (5, qm_I (qm_i a5)), (6, qm_I (qm_i 0))]) rfl rfl rfl ?_
                        refine qm_m_shb (O := a3) (j := a4) (m := a5) hS hR (by omega) (by omega) (by omega) (by omega) (Int.toNat a5) 0 L3 (by omega) (by decide) (fun L4 el4 z4 => ?_)
                        refine qm_G.sp (lv1 := [(5, qm_I (qm_i a5))]) rfl rfl (qm_x_iload rfl) ?_
                        refine qm_G.ret rfl rfl ⟨_, rfl, ?_⟩
                        refine qm_G.s1 rfl (qm_x_icmp_eq_t ⟨by omega, by omega⟩ ⟨by omega, by omega⟩ (by omega)) ?_
                        have e75 : ∀ x : Nat, L2 75 0 x = L 75 0 x := fun x => by rw [hL2]; exact qm_cp_ne (by omega)
                        have q75 : ∀ x : Nat, (x : Int) < a5 → L4 75 0 (Int.toNat (60 * a3 + a4) + x) = L 75 0 (Int.toNat (60 * a1 + a2) + x) := fun x hx => by rw [z4 x (by omega) hx, z3 x hx, el3 75 0 _ (by decide), e75]
                        refine ih _ _ _ _ _ _ (qm_U_itms hI (fun t x ht hx => ?_))
                        rw [el4 (50 + 2 * t) 0 x (by omega), el3 (50 + 2 * t) 0 x (by omega), hL2]
                        by_cases cx : t = Int.toNat a3 ∧ Int.toNat a4 ≤ x ∧ x < Int.toNat a4 + Int.toNat a5
                        · obtain ⟨c1, c2, c3⟩ := cx
                          rw [show 50 + 2 * t = q5p by omega, qm_cp_in c2 c3, show 60 * t + x = Int.toNat (60 * a3 + a4) + (x - Int.toNat a4) by omega, q75 _ (by omega), g4z _ (by omega)]
                          exact congrArg (L 75 0) (by omega)
                        · rw [qm_cp_ne (by omega), el4 75 0 _ (by omega), el3 75 0 _ (by decide), e75]
                          exact hI.itm t x ht hx
                      · refine qm_G.s1 rfl (qm_x_if_le_t ⟨by decide, by decide⟩ (by decide)) ?_
                        refine qm_G.sp (lv1 := [(0, qm_R (some (0, 61, 0))), (1, qm_I (qm_i a1)), (2, qm_I (qm_i a2)), (3, qm_I (qm_i a3)), (4, qm_I (qm_i a4)), (5, qm_I (qm_i a5))]) rfl rfl (qm_x_pushI 0 rfl) ?_
                        refine qm_G.s1 rfl (qm_x_istore (lv' := [(6, qm_I (qm_i 0)), (0, qm_R (some (0, 61, 0))), (1, qm_I (qm_i a1)), (2, qm_I (qm_i a2)), (3, qm_I (qm_i a3)), (4, qm_I (qm_i a4)), (5, qm_I (qm_i a5))]) rfl) ?_
                        refine qm_G.pk (lv1 := [(0, qm_R (some (0, 61, 0))), (1, qm_I (qm_i a1)), (2, qm_I (qm_i a2)), (3, qm_I (qm_i a3)), (4, qm_I (qm_i a4)), (5, qm_I (qm_i a5)), (6, qm_I (qm_i 0))]) rfl rfl rfl ?_
                        refine qm_m_sha (T := a1) (O := a3) (i := a2) (j := a4) (m := a5) hS hR (by omega) (by omega) (by omega) (by omega) (Int.toNat a5) 0 L2 (by omega) (by decide) (fun x hx => absurd hx (by omega)) (fun L3 el3 z3 => ?_)
                        refine qm_G.sp (lv1 := [(0, qm_R (some (0, 61, 0))), (3, qm_I (qm_i a3)), (4, qm_I (qm_i a4)), (5, qm_I (qm_i a5))]) rfl rfl (qm_x_pushI 0 rfl) ?_
                        refine qm_G.s1 rfl (qm_x_istore (lv' := [(6, qm_I (qm_i 0)), (0, qm_R (some (0, 61, 0))), (3, qm_I (qm_i a3)), (4, qm_I (qm_i a4)), (5, qm_I (qm_i a5))]) rfl) ?_
                        refine qm_G.pk (lv1 := [(0, qm_R (some (0, 61, 0))), (3, qm_I (qm_i a3)), (4, qm_I (qm_i a4)), (5, qm_I (qm_i a5)), (6, qm_I (qm_i 0))]) rfl rfl rfl ?_
                        refine qm_m_shb (O := a3) (j := a4) (m := a5) hS hR (by omega) (by omega) (by omega) (by omega) (Int.toNat a5) 0 L3 (by omega) (by decide) (fun L4 el4 z4 => ?_)
                        refine qm_G.sp (lv1 := [(5, qm_I (qm_i a5))]) rfl rfl (qm_x_iload rfl) ?_
                        refine qm_G.ret rfl rfl ⟨_, rfl, ?_⟩
                        refine qm_G.s1 rfl (qm_x_icmp_eq_t ⟨by omega, by omega⟩ ⟨by omega, by omega⟩ (by omega)) ?_
                        have e75 : ∀ x : Nat, L2 75 0 x = L 75 0 x := fun x => by rw [hL2]; exact qm_cp_ne (by omega)
                        have q75 : ∀ x : Nat, (x : Int) < a5 → L4 75 0 (Int.toNat (60 * a3 + a4) + x) = L 75 0 (Int.toNat (60 * a1 + a2) + x) := fun x hx => by rw [z4 x (by omega) hx, z3 x hx, el3 75 0 _ (by decide), e75]
                        refine ih _ _ _ _ _ _ (qm_U_itms hI (fun t x ht hx => ?_))
                        rw [el4 (50 + 2 * t) 0 x (by omega), el3 (50 + 2 * t) 0 x (by omega), hL2]
                        by_cases cx : t = Int.toNat a3 ∧ Int.toNat a4 ≤ x ∧ x < Int.toNat a4 + Int.toNat a5
                        · obtain ⟨c1, c2, c3⟩ := cx
                          rw [show 50 + 2 * t = q5p by omega, qm_cp_in c2 c3, show 60 * t + x = Int.toNat (60 * a3 + a4) + (x - Int.toNat a4) by omega, q75 _ (by omega), g4z _ (by omega)]
                          exact congrArg (L 75 0) (by omega)
                        · rw [qm_cp_ne (by omega), el4 75 0 _ (by omega), el3 75 0 _ (by decide), e75]
                          exact hI.itm t x ht hx
                  · refine qm_G.s1 rfl (qm_x_if_eq_t ⟨by decide, by decide⟩ (by decide)) ?_
                    refine qm_G.sp (lv1 := []) rfl rfl (qm_x_pushI 0 rfl) ?_
                    refine qm_G.ret rfl rfl ⟨_, rfl, ?_⟩
                    refine qm_G.s1 rfl (qm_x_if_ne_f ⟨by decide, by decide⟩ (by decide)) ?_
                    refine qm_G.sp (lv1 := []) rfl rfl (qm_x_pushI (-13) rfl) ?_
                    refine qm_G.ret rfl rfl ⟨_, rfl, ?_⟩
                    refine qm_G.s1 rfl (qm_x_aload rfl) ?_
                    refine qm_G.s1 rfl (qm_x_aload rfl) ?_
                    refine qm_G.s1 rfl (qm_x_iload rfl) ?_
                    refine qm_G.s1 rfl (qm_x_pushI 1 rfl) ?_
                    refine qm_G.s1 rfl (qm_x_iadd) ?_
                    refine qm_G.s1 rfl (qm_x_iald2v (v := a1) (by omega) (by omega) hX e1) ?_
                    refine qm_G.s1 rfl (qm_x_aload rfl) ?_
                    refine qm_G.s1 rfl (qm_x_iload rfl) ?_
                    refine qm_G.s1 rfl (qm_x_pushI 2 rfl) ?_
                    refine qm_G.s1 rfl (qm_x_iadd) ?_
                    refine qm_G.s1 rfl (qm_x_iald2v (v := a2) (by omega) (by omega) hX e2) ?_
                    refine qm_G.s1 rfl (qm_x_aload rfl) ?_
                    refine qm_G.s1 rfl (qm_x_iload rfl) ?_
                    refine qm_G.s1 rfl (qm_x_pushI 3 rfl) ?_
                    refine qm_G.s1 rfl (qm_x_iadd) ?_
                    refine qm_G.s1 rfl (qm_x_iald2v (v := a3) (by omega) (by omega) hX e3) ?_
                    refine qm_G.s1 rfl (qm_x_aload rfl) ?_
                    refine qm_G.s1 rfl (qm_x_iload rfl) ?_
                    refine qm_G.s1 rfl (qm_x_pushI 4 rfl) ?_
                    refine qm_G.s1 rfl (qm_x_iadd) ?_
                    refine qm_G.s1 rfl (qm_x_iald2v (v := a4) (by omega) (by omega) hX e4) ?_
                    refine qm_G.s1 rfl (qm_x_aload rfl) ?_
                    refine qm_G.s1 rfl (qm_x_iload rfl) ?_
                    refine qm_G.s1 rfl (qm_x_pushI 5 rfl) ?_
                    refine qm_G.s1 rfl (qm_x_iadd) ?_
                    refine qm_G.s1 rfl (qm_x_iald2v (v := a5) (by omega) (by omega) hX e5) ?_
                    refine qm_G.cm rfl rfl (hS 61 rfl) rfl ?_
                    refine qm_C.go (cd := qm_P130) (lv := [(0, qm_R (some (0, 61, 0))), (1, qm_I (qm_i a1)), (2, qm_I (qm_i a2)), (3, qm_I (qm_i a3)), (4, qm_I (qm_i a4)), (5, qm_I (qm_i a5))]) rfl rfl ?_
                    refine qm_G.s1 rfl (qm_x_iload rfl) ?_
                    refine qm_G.cs rfl rfl rfl ?_
                    refine qm_C.go (cd := qm_P86) (lv := [(0, qm_I (qm_i a1))]) rfl rfl ?_
                    refine qm_G.s1 rfl (qm_x_iload rfl) ?_
                    refine qm_G.s1 rfl (qm_x_pushI 0 rfl) ?_
                    refine qm_G.s1 rfl (qm_x_pushI 5 rfl) ?_
                    refine qm_G.cs rfl rfl rfl ?_
                    refine qm_v_within11_t ⟨by omega, by omega⟩ ⟨by decide, by decide⟩ ⟨by decide, by decide⟩ (by omega) ⟨_, rfl, ?_⟩
                    refine qm_G.ret rfl rfl ⟨_, rfl, ?_⟩
                    refine qm_G.s1 rfl (qm_x_if_eq_f ⟨by decide, by decide⟩ (by decide)) ?_
                    refine qm_G.s1 rfl (qm_x_iload rfl) ?_
                    refine qm_G.cs rfl rfl rfl ?_
                    refine qm_C.go (cd := qm_P86) (lv := [(0, qm_I (qm_i a3))]) rfl rfl ?_
                    refine qm_G.s1 rfl (qm_x_iload rfl) ?_
                    refine qm_G.s1 rfl (qm_x_pushI 0 rfl) ?_
                    refine qm_G.s1 rfl (qm_x_pushI 5 rfl) ?_
                    refine qm_G.cs rfl rfl rfl ?_
                    refine qm_v_within11_t ⟨by omega, by omega⟩ ⟨by decide, by decide⟩ ⟨by decide, by decide⟩ (by omega) ⟨_, rfl, ?_⟩
                    refine qm_G.ret rfl rfl ⟨_, rfl, ?_⟩
                    refine qm_G.s1 rfl (qm_x_if_ne_t ⟨by decide, by decide⟩ (by decide)) ?_
                    refine qm_G.sp (lv1 := [(0, qm_R (some (0, 61, 0))), (1, qm_I (qm_i a1)), (2, qm_I (qm_i a2)), (3, qm_I (qm_i a3)), (4, qm_I (qm_i a4)), (5, qm_I (qm_i a5))]) rfl rfl (qm_x_aload rfl) ?_
                    refine qm_G.s1 rfl (qm_x_getfR (q := (some (0, 73, 0))) (hS 61 rfl) (hR 61 20 73 rfl rfl)) ?_
                    refine qm_G.s1 rfl (qm_x_iload rfl) ?_
                    refine qm_G.s1 rfl (qm_x_iald (v := (J 73 0 (Int.toNat a1))) (qm_arS hS rfl rfl) rfl (by omega) (by omega) (by decide) rfl) ?_
                    refine qm_G.s1 rfl (qm_x_if_eq_f ⟨by omega, by omega⟩ (by omega)) ?_
                    refine qm_G.s1 rfl (qm_x_aload rfl) ?_
                    refine qm_G.s1 rfl (qm_x_getfR (q := (some (0, 73, 0))) (hS 61 rfl) (hR 61 20 73 rfl rfl)) ?_
                    refine qm_G.s1 rfl (qm_x_iload rfl) ?_
                    refine qm_G.s1 rfl (qm_x_iald (v := (J 73 0 (Int.toNat a3))) (qm_arS hS rfl rfl) rfl (by omega) (by omega) (by decide) rfl) ?_
                    refine qm_G.s1 rfl (qm_x_if_ne_t ⟨by omega, by omega⟩ (by omega)) ?_
                    refine qm_G.sp (lv1 := [(0, qm_R (some (0, 61, 0))), (1, qm_I (qm_i a1)), (2, qm_I (qm_i a2)), (3, qm_I (qm_i a3)), (4, qm_I (qm_i a4)), (5, qm_I (qm_i a5))]) rfl rfl (qm_x_aload rfl) ?_
                    refine qm_G.s1 rfl (qm_x_getfR (q := (some (0, 73, 0))) (hS 61 rfl) (hR 61 20 73 rfl rfl)) ?_
                    refine qm_G.s1 rfl (qm_x_iload rfl) ?_
                    refine qm_G.s1 rfl (qm_x_iald (v := (J 73 0 (Int.toNat a1))) (qm_arS hS rfl rfl) rfl (by omega) (by omega) (by decide) rfl) ?_
                    refine qm_G.s1 rfl (qm_x_aload rfl) ?_
                    refine qm_G.s1 rfl (qm_x_getfR (q := (some (0, 73, 0))) (hS 61 rfl) (hR 61 20 73 rfl rfl)) ?_
                    refine qm_G.s1 rfl (qm_x_iload rfl) ?_
                    refine qm_G.s1 rfl (qm_x_iald (v := (J 73 0 (Int.toNat a3))) (qm_arS hS rfl rfl) rfl (by omega) (by omega) (by decide) rfl) ?_
                    refine qm_G.s1 rfl (qm_x_icmp_eq_t ⟨by omega, by omega⟩ ⟨by omega, by omega⟩ (by omega)) ?_
                    refine qm_G.sp (lv1 := [(0, qm_R (some (0, 61, 0))), (1, qm_I (qm_i a1)), (2, qm_I (qm_i a2)), (3, qm_I (qm_i a3)), (4, qm_I (qm_i a4)), (5, qm_I (qm_i a5))]) rfl rfl (qm_x_iload rfl) ?_
                    refine qm_G.s1 rfl (qm_x_if_lt_f ⟨by omega, by omega⟩ (by omega)) ?_
                    refine qm_G.s1 rfl (qm_x_iload rfl) ?_
                    refine qm_G.s1 rfl (qm_x_if_lt_f ⟨by omega, by omega⟩ (by omega)) ?_
                    refine qm_G.s1 rfl (qm_x_iload rfl) ?_
                    refine qm_y_if_lt rfl ⟨by omega, by omega⟩ (fun c23 => ?_) (fun c23 => ?_)
                    · refine qm_G.sp (lv1 := []) rfl rfl (qm_x_pushI (-13) rfl) ?_
                      refine qm_G.ret rfl rfl ⟨_, rfl, ?_⟩
                      refine qm_G.s1 rfl (qm_x_icmp_eq_t ⟨by decide, by decide⟩ ⟨by decide, by decide⟩ (by decide)) ?_
                      exact ih _ _ _ _ _ _ hI.next
                    · refine qm_G.s1 rfl (qm_x_iload rfl) ?_
                      refine qm_G.s1 rfl (qm_x_i2l ⟨by omega, by omega⟩) ?_
                      refine qm_G.s1 rfl (qm_x_iload rfl) ?_
                      refine qm_G.s1 rfl (qm_x_i2l ⟨by omega, by omega⟩) ?_
                      refine qm_G.s1 rfl (qm_x_laddz) ?_
                      refine qm_G.s1 rfl (qm_x_aload rfl) ?_
                      refine qm_G.s1 rfl (qm_x_getfR (q := (some (0, 74, 0))) (hS 61 rfl) (hR 61 21 74 rfl rfl)) ?_
                      refine qm_G.s1 rfl (qm_x_iload rfl) ?_
                      refine qm_G.s1 rfl (qm_x_iald (v := (J 74 0 (Int.toNat a1))) (qm_arS hS rfl rfl) rfl (by omega) (by omega) (by decide) rfl) ?_
                      refine qm_G.s1 rfl (qm_x_i2l ⟨by omega, by omega⟩) ?_
                      refine qm_y_lcmp rfl ⟨by omega, by omega⟩ ⟨by omega, by omega⟩ (fun c24 => ?_) (fun c24 => ?_) (fun c24 => absurd c24 (by omega))
                      · refine qm_G.s1 rfl (qm_x_if_gt_f ⟨by decide, by decide⟩ (by decide)) ?_
                        refine qm_G.s1 rfl (qm_x_iload rfl) ?_
                        refine qm_G.s1 rfl (qm_x_i2l ⟨by omega, by omega⟩) ?_
                        refine qm_G.s1 rfl (qm_x_iload rfl) ?_
                        refine qm_G.s1 rfl (qm_x_i2l ⟨by omega, by omega⟩) ?_
                        refine qm_G.s1 rfl (qm_x_laddz) ?_
                        refine qm_G.s1 rfl (qm_x_aload rfl) ?_
                        refine qm_G.s1 rfl (qm_x_getfR (q := (some (0, 74, 0))) (hS 61 rfl) (hR 61 21 74 rfl rfl)) ?_
                        refine qm_G.s1 rfl (qm_x_iload rfl) ?_
                        refine qm_G.s1 rfl (qm_x_iald (v := (J 74 0 (Int.toNat a3))) (qm_arS hS rfl rfl) rfl (by omega) (by omega) (by decide) rfl) ?_
                        refine qm_G.s1 rfl (qm_x_i2l ⟨by omega, by omega⟩) ?_
                        refine qm_G.s1 rfl (qm_x_lcmpz_gt ⟨by omega, by omega⟩ ⟨by omega, by omega⟩ (by omega)) ?_
                        refine qm_G.s1 rfl (qm_x_if_le_f ⟨by decide, by decide⟩ (by decide)) ?_
                        refine qm_G.sp (lv1 := []) rfl rfl (qm_x_pushI (-13) rfl) ?_
                        refine qm_G.ret rfl rfl ⟨_, rfl, ?_⟩
                        refine qm_G.s1 rfl (qm_x_icmp_eq_t ⟨by decide, by decide⟩ ⟨by decide, by decide⟩ (by decide)) ?_
                        exact ih _ _ _ _ _ _ hI.next
                      · refine qm_G.s1 rfl (qm_x_if_gt_f ⟨by decide, by decide⟩ (by decide)) ?_
                        refine qm_G.s1 rfl (qm_x_iload rfl) ?_
                        refine qm_G.s1 rfl (qm_x_i2l ⟨by omega, by omega⟩) ?_
                        refine qm_G.s1 rfl (qm_x_iload rfl) ?_
                        refine qm_G.s1 rfl (qm_x_i2l ⟨by omega, by omega⟩) ?_
                        refine qm_G.s1 rfl (qm_x_laddz) ?_
                        refine qm_G.s1 rfl (qm_x_aload rfl) ?_
                        refine qm_G.s1 rfl (qm_x_getfR (q := (some (0, 74, 0))) (hS 61 rfl) (hR 61 21 74 rfl rfl)) ?_
                        refine qm_G.s1 rfl (qm_x_iload rfl) ?_
                        refine qm_G.s1 rfl (qm_x_iald (v := (J 74 0 (Int.toNat a3))) (qm_arS hS rfl rfl) rfl (by omega) (by omega) (by decide) rfl) ?_
                        refine qm_G.s1 rfl (qm_x_i2l ⟨by omega, by omega⟩) ?_
                        refine qm_G.s1 rfl (qm_x_lcmpz_gt ⟨by omega, by omega⟩ ⟨by omega, by omega⟩ (by omega)) ?_
                        refine qm_G.s1 rfl (qm_x_if_le_f ⟨by decide, by decide⟩ (by decide)) ?_
                        refine qm_G.sp (lv1 := []) rfl rfl (qm_x_pushI (-13) rfl) ?_
                        refine qm_G.ret rfl rfl ⟨_, rfl, ?_⟩
                        refine qm_G.s1 rfl (qm_x_icmp_eq_t ⟨by decide, by decide⟩ ⟨by decide, by decide⟩ (by decide)) ?_
                        exact ih _ _ _ _ _ _ hI.next
                · refine qm_G.s1 rfl (qm_x_if_eq_t ⟨by decide, by decide⟩ (by decide)) ?_
                  refine qm_G.sp (lv1 := []) rfl rfl (qm_x_pushI 0 rfl) ?_
                  refine qm_G.ret rfl rfl ⟨_, rfl, ?_⟩
                  refine qm_G.s1 rfl (qm_x_if_ne_f ⟨by decide, by decide⟩ (by decide)) ?_
                  refine qm_G.sp (lv1 := []) rfl rfl (qm_x_pushI (-13) rfl) ?_
                  refine qm_G.ret rfl rfl ⟨_, rfl, ?_⟩
                  refine qm_G.s1 rfl (qm_x_aload rfl) ?_
                  refine qm_G.s1 rfl (qm_x_aload rfl) ?_
                  refine qm_G.s1 rfl (qm_x_iload rfl) ?_
                  refine qm_G.s1 rfl (qm_x_pushI 1 rfl) ?_
                  refine qm_G.s1 rfl (qm_x_iadd) ?_
                  refine qm_G.s1 rfl (qm_x_iald2v (v := a1) (by omega) (by omega) hX e1) ?_
                  refine qm_G.s1 rfl (qm_x_aload rfl) ?_
                  refine qm_G.s1 rfl (qm_x_iload rfl) ?_
                  refine qm_G.s1 rfl (qm_x_pushI 2 rfl) ?_
                  refine qm_G.s1 rfl (qm_x_iadd) ?_
                  refine qm_G.s1 rfl (qm_x_iald2v (v := a2) (by omega) (by omega) hX e2) ?_
                  refine qm_G.s1 rfl (qm_x_aload rfl) ?_
                  refine qm_G.s1 rfl (qm_x_iload rfl) ?_
                  refine qm_G.s1 rfl (qm_x_pushI 3 rfl) ?_
                  refine qm_G.s1 rfl (qm_x_iadd) ?_
                  refine qm_G.s1 rfl (qm_x_iald2v (v := a3) (by omega) (by omega) hX e3) ?_
                  refine qm_G.s1 rfl (qm_x_aload rfl) ?_
                  refine qm_G.s1 rfl (qm_x_iload rfl) ?_
                  refine qm_G.s1 rfl (qm_x_pushI 4 rfl) ?_
                  refine qm_G.s1 rfl (qm_x_iadd) ?_
                  refine qm_G.s1 rfl (qm_x_iald2v (v := a4) (by omega) (by omega) hX e4) ?_
                  refine qm_G.s1 rfl (qm_x_aload rfl) ?_
                  refine qm_G.s1 rfl (qm_x_iload rfl) ?_
                  refine qm_G.s1 rfl (qm_x_pushI 5 rfl) ?_
                  refine qm_G.s1 rfl (qm_x_iadd) ?_
                  refine qm_G.s1 rfl (qm_x_iald2v (v := a5) (by omega) (by omega) hX e5) ?_
                  refine qm_G.cm rfl rfl (hS 61 rfl) rfl ?_
                  refine qm_C.go (cd := qm_P130) (lv := [(0, qm_R (some (0, 61, 0))), (1, qm_I (qm_i a1)), (2, qm_I (qm_i a2)), (3, qm_I (qm_i a3)), (4, qm_I (qm_i a4)), (5, qm_I (qm_i a5))]) rfl rfl ?_
                  refine qm_G.s1 rfl (qm_x_iload rfl) ?_
                  refine qm_G.cs rfl rfl rfl ?_
                  refine qm_C.go (cd := qm_P86) (lv := [(0, qm_I (qm_i a1))]) rfl rfl ?_
                  refine qm_G.s1 rfl (qm_x_iload rfl) ?_
                  refine qm_G.s1 rfl (qm_x_pushI 0 rfl) ?_
                  refine qm_G.s1 rfl (qm_x_pushI 5 rfl) ?_
                  refine qm_G.cs rfl rfl rfl ?_
                  refine qm_v_within11_t ⟨by omega, by omega⟩ ⟨by decide, by decide⟩ ⟨by decide, by decide⟩ (by omega) ⟨_, rfl, ?_⟩
                  refine qm_G.ret rfl rfl ⟨_, rfl, ?_⟩
                  refine qm_G.s1 rfl (qm_x_if_eq_f ⟨by decide, by decide⟩ (by decide)) ?_
                  refine qm_G.s1 rfl (qm_x_iload rfl) ?_
                  refine qm_G.cs rfl rfl rfl ?_
                  refine qm_C.go (cd := qm_P86) (lv := [(0, qm_I (qm_i a3))]) rfl rfl ?_
                  refine qm_G.s1 rfl (qm_x_iload rfl) ?_
                  refine qm_G.s1 rfl (qm_x_pushI 0 rfl) ?_
                  refine qm_G.s1 rfl (qm_x_pushI 5 rfl) ?_
                  refine qm_G.cs rfl rfl rfl ?_
                  refine qm_v_within11_t ⟨by omega, by omega⟩ ⟨by decide, by decide⟩ ⟨by decide, by decide⟩ (by omega) ⟨_, rfl, ?_⟩
                  refine qm_G.ret rfl rfl ⟨_, rfl, ?_⟩
                  refine qm_G.s1 rfl (qm_x_if_ne_t ⟨by decide, by decide⟩ (by decide)) ?_
                  refine qm_G.sp (lv1 := [(0, qm_R (some (0, 61, 0))), (1, qm_I (qm_i a1)), (2, qm_I (qm_i a2)), (3, qm_I (qm_i a3)), (4, qm_I (qm_i a4)), (5, qm_I (qm_i a5))]) rfl rfl (qm_x_aload rfl) ?_
                  refine qm_G.s1 rfl (qm_x_getfR (q := (some (0, 73, 0))) (hS 61 rfl) (hR 61 20 73 rfl rfl)) ?_
                  refine qm_G.s1 rfl (qm_x_iload rfl) ?_
                  refine qm_G.s1 rfl (qm_x_iald (v := (J 73 0 (Int.toNat a1))) (qm_arS hS rfl rfl) rfl (by omega) (by omega) (by decide) rfl) ?_
                  refine qm_G.s1 rfl (qm_x_if_eq_f ⟨by omega, by omega⟩ (by omega)) ?_
                  refine qm_G.s1 rfl (qm_x_aload rfl) ?_
                  refine qm_G.s1 rfl (qm_x_getfR (q := (some (0, 73, 0))) (hS 61 rfl) (hR 61 20 73 rfl rfl)) ?_
                  refine qm_G.s1 rfl (qm_x_iload rfl) ?_
                  refine qm_G.s1 rfl (qm_x_iald (v := (J 73 0 (Int.toNat a3))) (qm_arS hS rfl rfl) rfl (by omega) (by omega) (by decide) rfl) ?_
                  refine qm_G.s1 rfl (qm_x_if_ne_t ⟨by omega, by omega⟩ (by omega)) ?_
                  refine qm_G.sp (lv1 := [(0, qm_R (some (0, 61, 0))), (1, qm_I (qm_i a1)), (2, qm_I (qm_i a2)), (3, qm_I (qm_i a3)), (4, qm_I (qm_i a4)), (5, qm_I (qm_i a5))]) rfl rfl (qm_x_aload rfl) ?_
                  refine qm_G.s1 rfl (qm_x_getfR (q := (some (0, 73, 0))) (hS 61 rfl) (hR 61 20 73 rfl rfl)) ?_
                  refine qm_G.s1 rfl (qm_x_iload rfl) ?_
                  refine qm_G.s1 rfl (qm_x_iald (v := (J 73 0 (Int.toNat a1))) (qm_arS hS rfl rfl) rfl (by omega) (by omega) (by decide) rfl) ?_
                  refine qm_G.s1 rfl (qm_x_aload rfl) ?_
                  refine qm_G.s1 rfl (qm_x_getfR (q := (some (0, 73, 0))) (hS 61 rfl) (hR 61 20 73 rfl rfl)) ?_
                  refine qm_G.s1 rfl (qm_x_iload rfl) ?_
                  refine qm_G.s1 rfl (qm_x_iald (v := (J 73 0 (Int.toNat a3))) (qm_arS hS rfl rfl) rfl (by omega) (by omega) (by decide) rfl) ?_
                  refine qm_G.s1 rfl (qm_x_icmp_eq_t ⟨by omega, by omega⟩ ⟨by omega, by omega⟩ (by omega)) ?_
                  refine qm_G.sp (lv1 := [(0, qm_R (some (0, 61, 0))), (1, qm_I (qm_i a1)), (2, qm_I (qm_i a2)), (3, qm_I (qm_i a3)), (4, qm_I (qm_i a4)), (5, qm_I (qm_i a5))]) rfl rfl (qm_x_iload rfl) ?_
                  refine qm_G.s1 rfl (qm_x_if_lt_f ⟨by omega, by omega⟩ (by omega)) ?_
                  refine qm_G.s1 rfl (qm_x_iload rfl) ?_
                  refine qm_G.s1 rfl (qm_x_if_lt_f ⟨by omega, by omega⟩ (by omega)) ?_
                  refine qm_G.s1 rfl (qm_x_iload rfl) ?_
                  refine qm_y_if_lt rfl ⟨by omega, by omega⟩ (fun c27 => ?_) (fun c27 => ?_)
                  · refine qm_G.sp (lv1 := []) rfl rfl (qm_x_pushI (-13) rfl) ?_
                    refine qm_G.ret rfl rfl ⟨_, rfl, ?_⟩
                    refine qm_G.s1 rfl (qm_x_icmp_eq_t ⟨by decide, by decide⟩ ⟨by decide, by decide⟩ (by decide)) ?_
                    exact ih _ _ _ _ _ _ hI.next
                  · refine qm_G.s1 rfl (qm_x_iload rfl) ?_
                    refine qm_G.s1 rfl (qm_x_i2l ⟨by omega, by omega⟩) ?_
                    refine qm_G.s1 rfl (qm_x_iload rfl) ?_
                    refine qm_G.s1 rfl (qm_x_i2l ⟨by omega, by omega⟩) ?_
                    refine qm_G.s1 rfl (qm_x_laddz) ?_
                    refine qm_G.s1 rfl (qm_x_aload rfl) ?_
                    refine qm_G.s1 rfl (qm_x_getfR (q := (some (0, 74, 0))) (hS 61 rfl) (hR 61 21 74 rfl rfl)) ?_
                    refine qm_G.s1 rfl (qm_x_iload rfl) ?_
                    refine qm_G.s1 rfl (qm_x_iald (v := (J 74 0 (Int.toNat a1))) (qm_arS hS rfl rfl) rfl (by omega) (by omega) (by decide) rfl) ?_
                    refine qm_G.s1 rfl (qm_x_i2l ⟨by omega, by omega⟩) ?_
                    refine qm_y_lcmp rfl ⟨by omega, by omega⟩ ⟨by omega, by omega⟩ (fun c28 => ?_) (fun c28 => ?_) (fun c28 => absurd c28 (by omega))
                    · refine qm_G.s1 rfl (qm_x_if_gt_f ⟨by decide, by decide⟩ (by decide)) ?_
                      refine qm_G.s1 rfl (qm_x_iload rfl) ?_
                      refine qm_G.s1 rfl (qm_x_i2l ⟨by omega, by omega⟩) ?_
                      refine qm_G.s1 rfl (qm_x_iload rfl) ?_
                      refine qm_G.s1 rfl (qm_x_i2l ⟨by omega, by omega⟩) ?_
                      refine qm_G.s1 rfl (qm_x_laddz) ?_
                      refine qm_G.s1 rfl (qm_x_aload rfl) ?_
                      refine qm_G.s1 rfl (qm_x_getfR (q := (some (0, 74, 0))) (hS 61 rfl) (hR 61 21 74 rfl rfl)) ?_
                      refine qm_G.s1 rfl (qm_x_iload rfl) ?_
                      refine qm_G.s1 rfl (qm_x_iald (v := (J 74 0 (Int.toNat a3))) (qm_arS hS rfl rfl) rfl (by omega) (by omega) (by decide) rfl) ?_
                      refine qm_G.s1 rfl (qm_x_i2l ⟨by omega, by omega⟩) ?_
                      refine qm_G.s1 rfl (qm_x_lcmpz_gt ⟨by omega, by omega⟩ ⟨by omega, by omega⟩ (by omega)) ?_
                      refine qm_G.s1 rfl (qm_x_if_le_f ⟨by decide, by decide⟩ (by decide)) ?_
                      refine qm_G.sp (lv1 := []) rfl rfl (qm_x_pushI (-13) rfl) ?_
                      refine qm_G.ret rfl rfl ⟨_, rfl, ?_⟩
                      refine qm_G.s1 rfl (qm_x_icmp_eq_t ⟨by decide, by decide⟩ ⟨by decide, by decide⟩ (by decide)) ?_
                      exact ih _ _ _ _ _ _ hI.next
                    · refine qm_G.s1 rfl (qm_x_if_gt_f ⟨by decide, by decide⟩ (by decide)) ?_
                      refine qm_G.s1 rfl (qm_x_iload rfl) ?_
                      refine qm_G.s1 rfl (qm_x_i2l ⟨by omega, by omega⟩) ?_
                      refine qm_G.s1 rfl (qm_x_iload rfl) ?_
                      refine qm_G.s1 rfl (qm_x_i2l ⟨by omega, by omega⟩) ?_
                      refine qm_G.s1 rfl (qm_x_laddz) ?_
                      refine qm_G.s1 rfl (qm_x_aload rfl) ?_
                      refine qm_G.s1 rfl (qm_x_getfR (q := (some (0, 74, 0))) (hS 61 rfl) (hR 61 21 74 rfl rfl)) ?_
                      refine qm_G.s1 rfl (qm_x_iload rfl) ?_
                      refine qm_G.s1 rfl (qm_x_iald (v := (J 74 0 (Int.toNat a3))) (qm_arS hS rfl rfl) rfl (by omega) (by omega) (by decide) rfl) ?_
                      refine qm_G.s1 rfl (qm_x_i2l ⟨by omega, by omega⟩) ?_
                      refine qm_G.s1 rfl (qm_x_lcmpz_gt ⟨by omega, by omega⟩ ⟨by omega, by omega⟩ (by omega)) ?_
                      refine qm_G.s1 rfl (qm_x_if_le_f ⟨by decide, by decide⟩ (by decide)) ?_
                      refine qm_G.sp (lv1 := []) rfl rfl (qm_x_pushI (-13) rfl) ?_
                      refine qm_G.ret rfl rfl ⟨_, rfl, ?_⟩
                      refine qm_G.s1 rfl (qm_x_icmp_eq_t ⟨by decide, by decide⟩ ⟨by decide, by decide⟩ (by decide)) ?_
                      exact ih _ _ _ _ _ _ hI.next
              · refine qm_G.s1 rfl (qm_x_if_eq_t ⟨by decide, by decide⟩ (by decide)) ?_
                refine qm_G.sp (lv1 := []) rfl rfl (qm_x_pushI 0 rfl) ?_
                refine qm_G.ret rfl rfl ⟨_, rfl, ?_⟩
                refine qm_G.s1 rfl (qm_x_if_eq_t ⟨by decide, by decide⟩ (by decide)) ?_
                refine qm_G.sp (lv1 := []) rfl rfl (qm_x_pushI (-13) rfl) ?_
                refine qm_G.ret rfl rfl ⟨_, rfl, ?_⟩
                refine qm_G.s1 rfl (qm_x_aload rfl) ?_
                refine qm_G.s1 rfl (qm_x_aload rfl) ?_
                refine qm_G.s1 rfl (qm_x_iload rfl) ?_
                refine qm_G.s1 rfl (qm_x_pushI 1 rfl) ?_
                refine qm_G.s1 rfl (qm_x_iadd) ?_
                refine qm_G.s1 rfl (qm_x_iald2v (v := a1) (by omega) (by omega) hX e1) ?_
                refine qm_G.s1 rfl (qm_x_aload rfl) ?_
                refine qm_G.s1 rfl (qm_x_iload rfl) ?_
                refine qm_G.s1 rfl (qm_x_pushI 2 rfl) ?_
                refine qm_G.s1 rfl (qm_x_iadd) ?_
                refine qm_G.s1 rfl (qm_x_iald2v (v := a2) (by omega) (by omega) hX e2) ?_
                refine qm_G.s1 rfl (qm_x_aload rfl) ?_
                refine qm_G.s1 rfl (qm_x_iload rfl) ?_
                refine qm_G.s1 rfl (qm_x_pushI 3 rfl) ?_
                refine qm_G.s1 rfl (qm_x_iadd) ?_
                refine qm_G.s1 rfl (qm_x_iald2v (v := a3) (by omega) (by omega) hX e3) ?_
                refine qm_G.s1 rfl (qm_x_aload rfl) ?_
                refine qm_G.s1 rfl (qm_x_iload rfl) ?_
                refine qm_G.s1 rfl (qm_x_pushI 4 rfl) ?_
                refine qm_G.s1 rfl (qm_x_iadd) ?_
                refine qm_G.s1 rfl (qm_x_iald2v (v := a4) (by omega) (by omega) hX e4) ?_
                refine qm_G.s1 rfl (qm_x_aload rfl) ?_
                refine qm_G.s1 rfl (qm_x_iload rfl) ?_
                refine qm_G.s1 rfl (qm_x_pushI 5 rfl) ?_
                refine qm_G.s1 rfl (qm_x_iadd) ?_
                refine qm_G.s1 rfl (qm_x_iald2v (v := a5) (by omega) (by omega) hX e5) ?_
                refine qm_G.cm rfl rfl (hS 61 rfl) rfl ?_
                refine qm_C.go (cd := qm_P130) (lv := [(0, qm_R (some (0, 61, 0))), (1, qm_I (qm_i a1)), (2, qm_I (qm_i a2)), (3, qm_I (qm_i a3)), (4, qm_I (qm_i a4)), (5, qm_I (qm_i a5))]) rfl rfl ?_
                refine qm_G.s1 rfl (qm_x_iload rfl) ?_
                refine qm_G.cs rfl rfl rfl ?_
                refine qm_C.go (cd := qm_P86) (lv := [(0, qm_I (qm_i a1))]) rfl rfl ?_
                refine qm_G.s1 rfl (qm_x_iload rfl) ?_
                refine qm_G.s1 rfl (qm_x_pushI 0 rfl) ?_
                refine qm_G.s1 rfl (qm_x_pushI 5 rfl) ?_
                refine qm_G.cs rfl rfl rfl ?_
                refine qm_v_within11_t ⟨by omega, by omega⟩ ⟨by decide, by decide⟩ ⟨by decide, by decide⟩ (by omega) ⟨_, rfl, ?_⟩
                refine qm_G.ret rfl rfl ⟨_, rfl, ?_⟩
                refine qm_G.s1 rfl (qm_x_if_eq_f ⟨by decide, by decide⟩ (by decide)) ?_
                refine qm_G.s1 rfl (qm_x_iload rfl) ?_
                refine qm_G.cs rfl rfl rfl ?_
                refine qm_C.go (cd := qm_P86) (lv := [(0, qm_I (qm_i a3))]) rfl rfl ?_
                refine qm_G.s1 rfl (qm_x_iload rfl) ?_
                refine qm_G.s1 rfl (qm_x_pushI 0 rfl) ?_
                refine qm_G.s1 rfl (qm_x_pushI 5 rfl) ?_
                refine qm_G.cs rfl rfl rfl ?_
                refine qm_v_within11_t ⟨by omega, by omega⟩ ⟨by decide, by decide⟩ ⟨by decide, by decide⟩ (by omega) ⟨_, rfl, ?_⟩
                refine qm_G.ret rfl rfl ⟨_, rfl, ?_⟩
                refine qm_G.s1 rfl (qm_x_if_ne_t ⟨by decide, by decide⟩ (by decide)) ?_
                refine qm_G.sp (lv1 := [(0, qm_R (some (0, 61, 0))), (1, qm_I (qm_i a1)), (2, qm_I (qm_i a2)), (3, qm_I (qm_i a3)), (4, qm_I (qm_i a4)), (5, qm_I (qm_i a5))]) rfl rfl (qm_x_aload rfl) ?_
                refine qm_G.s1 rfl (qm_x_getfR (q := (some (0, 73, 0))) (hS 61 rfl) (hR 61 20 73 rfl rfl)) ?_
                refine qm_G.s1 rfl (qm_x_iload rfl) ?_
                refine qm_G.s1 rfl (qm_x_iald (v := (J 73 0 (Int.toNat a1))) (qm_arS hS rfl rfl) rfl (by omega) (by omega) (by decide) rfl) ?_
                refine qm_G.s1 rfl (qm_x_if_eq_f ⟨by omega, by omega⟩ (by omega)) ?_
                refine qm_G.s1 rfl (qm_x_aload rfl) ?_
                refine qm_G.s1 rfl (qm_x_getfR (q := (some (0, 73, 0))) (hS 61 rfl) (hR 61 20 73 rfl rfl)) ?_
                refine qm_G.s1 rfl (qm_x_iload rfl) ?_
                refine qm_G.s1 rfl (qm_x_iald (v := (J 73 0 (Int.toNat a3))) (qm_arS hS rfl rfl) rfl (by omega) (by omega) (by decide) rfl) ?_
                refine qm_G.s1 rfl (qm_x_if_ne_t ⟨by omega, by omega⟩ (by omega)) ?_
                refine qm_G.sp (lv1 := [(0, qm_R (some (0, 61, 0))), (1, qm_I (qm_i a1)), (2, qm_I (qm_i a2)), (3, qm_I (qm_i a3)), (4, qm_I (qm_i a4)), (5, qm_I (qm_i a5))]) rfl rfl (qm_x_aload rfl) ?_
                refine qm_G.s1 rfl (qm_x_getfR (q := (some (0, 73, 0))) (hS 61 rfl) (hR 61 20 73 rfl rfl)) ?_
                refine qm_G.s1 rfl (qm_x_iload rfl) ?_
                refine qm_G.s1 rfl (qm_x_iald (v := (J 73 0 (Int.toNat a1))) (qm_arS hS rfl rfl) rfl (by omega) (by omega) (by decide) rfl) ?_
                refine qm_G.s1 rfl (qm_x_aload rfl) ?_
                refine qm_G.s1 rfl (qm_x_getfR (q := (some (0, 73, 0))) (hS 61 rfl) (hR 61 20 73 rfl rfl)) ?_
                refine qm_G.s1 rfl (qm_x_iload rfl) ?_
                refine qm_G.s1 rfl (qm_x_iald (v := (J 73 0 (Int.toNat a3))) (qm_arS hS rfl rfl) rfl (by omega) (by omega) (by decide) rfl) ?_
                refine qm_G.s1 rfl (qm_x_icmp_eq_t ⟨by omega, by omega⟩ ⟨by omega, by omega⟩ (by omega)) ?_
                refine qm_G.sp (lv1 := [(0, qm_R (some (0, 61, 0))), (1, qm_I (qm_i a1)), (2, qm_I (qm_i a2)), (3, qm_I (qm_i a3)), (4, qm_I (qm_i a4)), (5, qm_I (qm_i a5))]) rfl rfl (qm_x_iload rfl) ?_
                refine qm_G.s1 rfl (qm_x_if_lt_f ⟨by omega, by omega⟩ (by omega)) ?_
                refine qm_G.s1 rfl (qm_x_iload rfl) ?_
                refine qm_y_if_lt rfl ⟨by omega, by omega⟩ (fun c31 => ?_) (fun c31 => ?_)
                · refine qm_G.sp (lv1 := []) rfl rfl (qm_x_pushI (-13) rfl) ?_
                  refine qm_G.ret rfl rfl ⟨_, rfl, ?_⟩
                  refine qm_G.s1 rfl (qm_x_icmp_eq_t ⟨by decide, by decide⟩ ⟨by decide, by decide⟩ (by decide)) ?_
                  exact ih _ _ _ _ _ _ hI.next
                · refine qm_G.s1 rfl (qm_x_iload rfl) ?_
                  refine qm_y_if_lt rfl ⟨by omega, by omega⟩ (fun c32 => ?_) (fun c32 => ?_)
                  · refine qm_G.sp (lv1 := []) rfl rfl (qm_x_pushI (-13) rfl) ?_
                    refine qm_G.ret rfl rfl ⟨_, rfl, ?_⟩
                    refine qm_G.s1 rfl (qm_x_icmp_eq_t ⟨by decide, by decide⟩ ⟨by decide, by decide⟩ (by decide)) ?_
                    exact ih _ _ _ _ _ _ hI.next
                  · refine qm_G.s1 rfl (qm_x_iload rfl) ?_
                    refine qm_G.s1 rfl (qm_x_i2l ⟨by omega, by omega⟩) ?_
                    refine qm_G.s1 rfl (qm_x_iload rfl) ?_
                    refine qm_G.s1 rfl (qm_x_i2l ⟨by omega, by omega⟩) ?_
                    refine qm_G.s1 rfl (qm_x_laddz) ?_
                    refine qm_G.s1 rfl (qm_x_aload rfl) ?_
                    refine qm_G.s1 rfl (qm_x_getfR (q := (some (0, 74, 0))) (hS 61 rfl) (hR 61 21 74 rfl rfl)) ?_
                    refine qm_G.s1 rfl (qm_x_iload rfl) ?_
                    refine qm_G.s1 rfl (qm_x_iald (v := (J 74 0 (Int.toNat a1))) (qm_arS hS rfl rfl) rfl (by omega) (by omega) (by decide) rfl) ?_
                    refine qm_G.s1 rfl (qm_x_i2l ⟨by omega, by omega⟩) ?_
                    refine qm_G.s1 rfl (qm_x_lcmpz_gt ⟨by omega, by omega⟩ ⟨by omega, by omega⟩ (by omega)) ?_
                    refine qm_G.s1 rfl (qm_x_if_gt_t ⟨by decide, by decide⟩ (by decide)) ?_
                    refine qm_G.sp (lv1 := []) rfl rfl (qm_x_pushI (-13) rfl) ?_
                    refine qm_G.ret rfl rfl ⟨_, rfl, ?_⟩
                    refine qm_G.s1 rfl (qm_x_icmp_eq_t ⟨by decide, by decide⟩ ⟨by decide, by decide⟩ (by decide)) ?_
                    exact ih _ _ _ _ _ _ hI.next
            · refine qm_G.s1 rfl (qm_x_if_eq_t ⟨by decide, by decide⟩ (by decide)) ?_
              refine qm_G.sp (lv1 := []) rfl rfl (qm_x_pushI 0 rfl) ?_
              refine qm_G.ret rfl rfl ⟨_, rfl, ?_⟩
              refine qm_G.s1 rfl (qm_x_if_eq_t ⟨by decide, by decide⟩ (by decide)) ?_
              refine qm_G.sp (lv1 := []) rfl rfl (qm_x_pushI (-13) rfl) ?_
              refine qm_G.ret rfl rfl ⟨_, rfl, ?_⟩
              refine qm_G.s1 rfl (qm_x_aload rfl) ?_
              refine qm_G.s1 rfl (qm_x_aload rfl) ?_
              refine qm_G.s1 rfl (qm_x_iload rfl) ?_
              refine qm_G.s1 rfl (qm_x_pushI 1 rfl) ?_
              refine qm_G.s1 rfl (qm_x_iadd) ?_
              refine qm_G.s1 rfl (qm_x_iald2v (v := a1) (by omega) (by omega) hX e1) ?_
              refine qm_G.s1 rfl (qm_x_aload rfl) ?_
              refine qm_G.s1 rfl (qm_x_iload rfl) ?_
              refine qm_G.s1 rfl (qm_x_pushI 2 rfl) ?_
              refine qm_G.s1 rfl (qm_x_iadd) ?_
              refine qm_G.s1 rfl (qm_x_iald2v (v := a2) (by omega) (by omega) hX e2) ?_
              refine qm_G.s1 rfl (qm_x_aload rfl) ?_
              refine qm_G.s1 rfl (qm_x_iload rfl) ?_
              refine qm_G.s1 rfl (qm_x_pushI 3 rfl) ?_
              refine qm_G.s1 rfl (qm_x_iadd) ?_
              refine qm_G.s1 rfl (qm_x_iald2v (v := a3) (by omega) (by omega) hX e3) ?_
              refine qm_G.s1 rfl (qm_x_aload rfl) ?_
              refine qm_G.s1 rfl (qm_x_iload rfl) ?_
              refine qm_G.s1 rfl (qm_x_pushI 4 rfl) ?_
              refine qm_G.s1 rfl (qm_x_iadd) ?_
              refine qm_G.s1 rfl (qm_x_iald2v (v := a4) (by omega) (by omega) hX e4) ?_
              refine qm_G.s1 rfl (qm_x_aload rfl) ?_
              refine qm_G.s1 rfl (qm_x_iload rfl) ?_
              refine qm_G.s1 rfl (qm_x_pushI 5 rfl) ?_
              refine qm_G.s1 rfl (qm_x_iadd) ?_
              refine qm_G.s1 rfl (qm_x_iald2v (v := a5) (by omega) (by omega) hX e5) ?_
              refine qm_G.cm rfl rfl (hS 61 rfl) rfl ?_
              refine qm_C.go (cd := qm_P130) (lv := [(0, qm_R (some (0, 61, 0))), (1, qm_I (qm_i a1)), (2, qm_I (qm_i a2)), (3, qm_I (qm_i a3)), (4, qm_I (qm_i a4)), (5, qm_I (qm_i a5))]) rfl rfl ?_
              refine qm_G.s1 rfl (qm_x_iload rfl) ?_
              refine qm_G.cs rfl rfl rfl ?_
              refine qm_C.go (cd := qm_P86) (lv := [(0, qm_I (qm_i a1))]) rfl rfl ?_
              refine qm_G.s1 rfl (qm_x_iload rfl) ?_
              refine qm_G.s1 rfl (qm_x_pushI 0 rfl) ?_
              refine qm_G.s1 rfl (qm_x_pushI 5 rfl) ?_
              refine qm_G.cs rfl rfl rfl ?_
              refine qm_v_within11_t ⟨by omega, by omega⟩ ⟨by decide, by decide⟩ ⟨by decide, by decide⟩ (by omega) ⟨_, rfl, ?_⟩
              refine qm_G.ret rfl rfl ⟨_, rfl, ?_⟩
              refine qm_G.s1 rfl (qm_x_if_eq_f ⟨by decide, by decide⟩ (by decide)) ?_
              refine qm_G.s1 rfl (qm_x_iload rfl) ?_
              refine qm_G.cs rfl rfl rfl ?_
              refine qm_C.go (cd := qm_P86) (lv := [(0, qm_I (qm_i a3))]) rfl rfl ?_
              refine qm_G.s1 rfl (qm_x_iload rfl) ?_
              refine qm_G.s1 rfl (qm_x_pushI 0 rfl) ?_
              refine qm_G.s1 rfl (qm_x_pushI 5 rfl) ?_
              refine qm_G.cs rfl rfl rfl ?_
              refine qm_v_within11_t ⟨by omega, by omega⟩ ⟨by decide, by decide⟩ ⟨by decide, by decide⟩ (by omega) ⟨_, rfl, ?_⟩
              refine qm_G.ret rfl rfl ⟨_, rfl, ?_⟩
              refine qm_G.s1 rfl (qm_x_if_ne_t ⟨by decide, by decide⟩ (by decide)) ?_
              refine qm_G.sp (lv1 := [(0, qm_R (some (0, 61, 0))), (1, qm_I (qm_i a1)), (2, qm_I (qm_i a2)), (3, qm_I (qm_i a3)), (4, qm_I (qm_i a4)), (5, qm_I (qm_i a5))]) rfl rfl (qm_x_aload rfl) ?_
              refine qm_G.s1 rfl (qm_x_getfR (q := (some (0, 73, 0))) (hS 61 rfl) (hR 61 20 73 rfl rfl)) ?_
              refine qm_G.s1 rfl (qm_x_iload rfl) ?_
              refine qm_G.s1 rfl (qm_x_iald (v := (J 73 0 (Int.toNat a1))) (qm_arS hS rfl rfl) rfl (by omega) (by omega) (by decide) rfl) ?_
              refine qm_G.s1 rfl (qm_x_if_eq_f ⟨by omega, by omega⟩ (by omega)) ?_
              refine qm_G.s1 rfl (qm_x_aload rfl) ?_
              refine qm_G.s1 rfl (qm_x_getfR (q := (some (0, 73, 0))) (hS 61 rfl) (hR 61 20 73 rfl rfl)) ?_
              refine qm_G.s1 rfl (qm_x_iload rfl) ?_
              refine qm_G.s1 rfl (qm_x_iald (v := (J 73 0 (Int.toNat a3))) (qm_arS hS rfl rfl) rfl (by omega) (by omega) (by decide) rfl) ?_
              refine qm_G.s1 rfl (qm_x_if_ne_t ⟨by omega, by omega⟩ (by omega)) ?_
              refine qm_G.sp (lv1 := [(0, qm_R (some (0, 61, 0))), (1, qm_I (qm_i a1)), (2, qm_I (qm_i a2)), (3, qm_I (qm_i a3)), (4, qm_I (qm_i a4)), (5, qm_I (qm_i a5))]) rfl rfl (qm_x_aload rfl) ?_
              refine qm_G.s1 rfl (qm_x_getfR (q := (some (0, 73, 0))) (hS 61 rfl) (hR 61 20 73 rfl rfl)) ?_
              refine qm_G.s1 rfl (qm_x_iload rfl) ?_
              refine qm_G.s1 rfl (qm_x_iald (v := (J 73 0 (Int.toNat a1))) (qm_arS hS rfl rfl) rfl (by omega) (by omega) (by decide) rfl) ?_
              refine qm_G.s1 rfl (qm_x_aload rfl) ?_
              refine qm_G.s1 rfl (qm_x_getfR (q := (some (0, 73, 0))) (hS 61 rfl) (hR 61 20 73 rfl rfl)) ?_
              refine qm_G.s1 rfl (qm_x_iload rfl) ?_
              refine qm_G.s1 rfl (qm_x_iald (v := (J 73 0 (Int.toNat a3))) (qm_arS hS rfl rfl) rfl (by omega) (by omega) (by decide) rfl) ?_
              refine qm_G.s1 rfl (qm_x_icmp_eq_t ⟨by omega, by omega⟩ ⟨by omega, by omega⟩ (by omega)) ?_
              refine qm_G.sp (lv1 := [(0, qm_R (some (0, 61, 0))), (1, qm_I (qm_i a1)), (2, qm_I (qm_i a2)), (3, qm_I (qm_i a3)), (4, qm_I (qm_i a4)), (5, qm_I (qm_i a5))]) rfl rfl (qm_x_iload rfl) ?_
              refine qm_y_if_lt rfl ⟨by omega, by omega⟩ (fun c35 => ?_) (fun c35 => ?_)
              · refine qm_G.sp (lv1 := []) rfl rfl (qm_x_pushI (-13) rfl) ?_
                refine qm_G.ret rfl rfl ⟨_, rfl, ?_⟩
                refine qm_G.s1 rfl (qm_x_icmp_eq_t ⟨by decide, by decide⟩ ⟨by decide, by decide⟩ (by decide)) ?_
                exact ih _ _ _ _ _ _ hI.next
              · refine qm_G.s1 rfl (qm_x_iload rfl) ?_
                refine qm_y_if_lt rfl ⟨by omega, by omega⟩ (fun c36 => ?_) (fun c36 => ?_)
                · refine qm_G.sp (lv1 := []) rfl rfl (qm_x_pushI (-13) rfl) ?_
                  refine qm_G.ret rfl rfl ⟨_, rfl, ?_⟩
                  refine qm_G.s1 rfl (qm_x_icmp_eq_t ⟨by decide, by decide⟩ ⟨by decide, by decide⟩ (by decide)) ?_
                  exact ih _ _ _ _ _ _ hI.next
                · refine qm_G.s1 rfl (qm_x_iload rfl) ?_
                  refine qm_y_if_lt rfl ⟨by omega, by omega⟩ (fun c37 => ?_) (fun c37 => ?_)
                  · refine qm_G.sp (lv1 := []) rfl rfl (qm_x_pushI (-13) rfl) ?_
                    refine qm_G.ret rfl rfl ⟨_, rfl, ?_⟩
                    refine qm_G.s1 rfl (qm_x_icmp_eq_t ⟨by decide, by decide⟩ ⟨by decide, by decide⟩ (by decide)) ?_
                    exact ih _ _ _ _ _ _ hI.next
                  · refine qm_G.s1 rfl (qm_x_iload rfl) ?_
                    refine qm_G.s1 rfl (qm_x_i2l ⟨by omega, by omega⟩) ?_
                    refine qm_G.s1 rfl (qm_x_iload rfl) ?_
                    refine qm_G.s1 rfl (qm_x_i2l ⟨by omega, by omega⟩) ?_
                    refine qm_G.s1 rfl (qm_x_laddz) ?_
                    refine qm_G.s1 rfl (qm_x_aload rfl) ?_
                    refine qm_G.s1 rfl (qm_x_getfR (q := (some (0, 74, 0))) (hS 61 rfl) (hR 61 21 74 rfl rfl)) ?_
                    refine qm_G.s1 rfl (qm_x_iload rfl) ?_
                    refine qm_G.s1 rfl (qm_x_iald (v := (J 74 0 (Int.toNat a1))) (qm_arS hS rfl rfl) rfl (by omega) (by omega) (by decide) rfl) ?_
                    refine qm_G.s1 rfl (qm_x_i2l ⟨by omega, by omega⟩) ?_
                    refine qm_G.s1 rfl (qm_x_lcmpz_gt ⟨by omega, by omega⟩ ⟨by omega, by omega⟩ (by omega)) ?_
                    refine qm_G.s1 rfl (qm_x_if_gt_t ⟨by decide, by decide⟩ (by decide)) ?_
                    refine qm_G.sp (lv1 := []) rfl rfl (qm_x_pushI (-13) rfl) ?_
                    refine qm_G.ret rfl rfl ⟨_, rfl, ?_⟩
                    refine qm_G.s1 rfl (qm_x_icmp_eq_t ⟨by decide, by decide⟩ ⟨by decide, by decide⟩ (by decide)) ?_
                    exact ih _ _ _ _ _ _ hI.next
          · refine qm_G.s1 rfl (qm_x_pushI (-12) rfl) ?_
            refine qm_G.ret rfl rfl ⟨_, rfl, ?_⟩
            refine qm_G.s1 rfl (qm_x_aload rfl) ?_
            refine qm_G.s1 rfl (qm_x_aload rfl) ?_
            refine qm_G.s1 rfl (qm_x_iload rfl) ?_
            refine qm_G.s1 rfl (qm_x_pushI 1 rfl) ?_
            refine qm_G.s1 rfl (qm_x_iadd) ?_
            refine qm_G.s1 rfl (qm_x_iald2v (v := a1) (by omega) (by omega) hX e1) ?_
            refine qm_G.s1 rfl (qm_x_aload rfl) ?_
            refine qm_G.s1 rfl (qm_x_iload rfl) ?_
            refine qm_G.s1 rfl (qm_x_pushI 2 rfl) ?_
            refine qm_G.s1 rfl (qm_x_iadd) ?_
            refine qm_G.s1 rfl (qm_x_iald2v (v := a2) (by omega) (by omega) hX e2) ?_
            refine qm_G.s1 rfl (qm_x_aload rfl) ?_
            refine qm_G.s1 rfl (qm_x_iload rfl) ?_
            refine qm_G.s1 rfl (qm_x_pushI 3 rfl) ?_
            refine qm_G.s1 rfl (qm_x_iadd) ?_
            refine qm_G.s1 rfl (qm_x_iald2v (v := a3) (by omega) (by omega) hX e3) ?_
            refine qm_G.s1 rfl (qm_x_aload rfl) ?_
            refine qm_G.s1 rfl (qm_x_iload rfl) ?_
            refine qm_G.s1 rfl (qm_x_pushI 4 rfl) ?_
            refine qm_G.s1 rfl (qm_x_iadd) ?_
            refine qm_G.s1 rfl (qm_x_iald2v (v := a4) (by omega) (by omega) hX e4) ?_
            refine qm_G.s1 rfl (qm_x_aload rfl) ?_
            refine qm_G.s1 rfl (qm_x_iload rfl) ?_
            refine qm_G.s1 rfl (qm_x_pushI 5 rfl) ?_
            refine qm_G.s1 rfl (qm_x_iadd) ?_
            refine qm_G.s1 rfl (qm_x_iald2v (v := a5) (by omega) (by omega) hX e5) ?_
            refine qm_G.cm rfl rfl (hS 61 rfl) rfl ?_
            refine qm_C.go (cd := qm_P130) (lv := [(0, qm_R (some (0, 61, 0))), (1, qm_I (qm_i a1)), (2, qm_I (qm_i a2)), (3, qm_I (qm_i a3)), (4, qm_I (qm_i a4)), (5, qm_I (qm_i a5))]) rfl rfl ?_
            refine qm_G.s1 rfl (qm_x_iload rfl) ?_
            refine qm_G.cs rfl rfl rfl ?_
            refine qm_C.go (cd := qm_P86) (lv := [(0, qm_I (qm_i a1))]) rfl rfl ?_
            refine qm_G.s1 rfl (qm_x_iload rfl) ?_
            refine qm_G.s1 rfl (qm_x_pushI 0 rfl) ?_
            refine qm_G.s1 rfl (qm_x_pushI 5 rfl) ?_
            refine qm_G.cs rfl rfl rfl ?_
            refine qm_v_within11_t ⟨by omega, by omega⟩ ⟨by decide, by decide⟩ ⟨by decide, by decide⟩ (by omega) ⟨_, rfl, ?_⟩
            refine qm_G.ret rfl rfl ⟨_, rfl, ?_⟩
            refine qm_G.s1 rfl (qm_x_if_eq_f ⟨by decide, by decide⟩ (by decide)) ?_
            refine qm_G.s1 rfl (qm_x_iload rfl) ?_
            refine qm_G.cs rfl rfl rfl ?_
            refine qm_C.go (cd := qm_P86) (lv := [(0, qm_I (qm_i a3))]) rfl rfl ?_
            refine qm_G.s1 rfl (qm_x_iload rfl) ?_
            refine qm_G.s1 rfl (qm_x_pushI 0 rfl) ?_
            refine qm_G.s1 rfl (qm_x_pushI 5 rfl) ?_
            refine qm_G.cs rfl rfl rfl ?_
            refine qm_v_within11_t ⟨by omega, by omega⟩ ⟨by decide, by decide⟩ ⟨by decide, by decide⟩ (by omega) ⟨_, rfl, ?_⟩
            refine qm_G.ret rfl rfl ⟨_, rfl, ?_⟩
            refine qm_G.s1 rfl (qm_x_if_ne_t ⟨by decide, by decide⟩ (by decide)) ?_
            refine qm_G.sp (lv1 := [(0, qm_R (some (0, 61, 0))), (1, qm_I (qm_i a1)), (2, qm_I (qm_i a2)), (3, qm_I (qm_i a3)), (4, qm_I (qm_i a4)), (5, qm_I (qm_i a5))]) rfl rfl (qm_x_aload rfl) ?_
            refine qm_G.s1 rfl (qm_x_getfR (q := (some (0, 73, 0))) (hS 61 rfl) (hR 61 20 73 rfl rfl)) ?_
            refine qm_G.s1 rfl (qm_x_iload rfl) ?_
            refine qm_G.s1 rfl (qm_x_iald (v := (J 73 0 (Int.toNat a1))) (qm_arS hS rfl rfl) rfl (by omega) (by omega) (by decide) rfl) ?_
            refine qm_G.s1 rfl (qm_x_if_eq_f ⟨by omega, by omega⟩ (by omega)) ?_
            refine qm_G.s1 rfl (qm_x_aload rfl) ?_
            refine qm_G.s1 rfl (qm_x_getfR (q := (some (0, 73, 0))) (hS 61 rfl) (hR 61 20 73 rfl rfl)) ?_
            refine qm_G.s1 rfl (qm_x_iload rfl) ?_
            refine qm_G.s1 rfl (qm_x_iald (v := (J 73 0 (Int.toNat a3))) (qm_arS hS rfl rfl) rfl (by omega) (by omega) (by decide) rfl) ?_
            refine qm_G.s1 rfl (qm_x_if_ne_t ⟨by omega, by omega⟩ (by omega)) ?_
            refine qm_G.sp (lv1 := [(0, qm_R (some (0, 61, 0))), (1, qm_I (qm_i a1)), (2, qm_I (qm_i a2)), (3, qm_I (qm_i a3)), (4, qm_I (qm_i a4)), (5, qm_I (qm_i a5))]) rfl rfl (qm_x_aload rfl) ?_
            refine qm_G.s1 rfl (qm_x_getfR (q := (some (0, 73, 0))) (hS 61 rfl) (hR 61 20 73 rfl rfl)) ?_
            refine qm_G.s1 rfl (qm_x_iload rfl) ?_
            refine qm_G.s1 rfl (qm_x_iald (v := (J 73 0 (Int.toNat a1))) (qm_arS hS rfl rfl) rfl (by omega) (by omega) (by decide) rfl) ?_
            refine qm_G.s1 rfl (qm_x_aload rfl) ?_
            refine qm_G.s1 rfl (qm_x_getfR (q := (some (0, 73, 0))) (hS 61 rfl) (hR 61 20 73 rfl rfl)) ?_
            refine qm_G.s1 rfl (qm_x_iload rfl) ?_
            refine qm_G.s1 rfl (qm_x_iald (v := (J 73 0 (Int.toNat a3))) (qm_arS hS rfl rfl) rfl (by omega) (by omega) (by decide) rfl) ?_
            refine qm_G.s1 rfl (qm_x_icmp_eq_f ⟨by omega, by omega⟩ ⟨by omega, by omega⟩ (by omega)) ?_
            refine qm_G.s1 rfl (qm_x_pushI (-12) rfl) ?_
            refine qm_G.ret rfl rfl ⟨_, rfl, ?_⟩
            refine qm_G.s1 rfl (qm_x_icmp_eq_t ⟨by decide, by decide⟩ ⟨by decide, by decide⟩ (by decide)) ?_
            exact ih _ _ _ _ _ _ hI.next
        · refine qm_G.sp (lv1 := []) rfl rfl (qm_x_pushI (-11) rfl) ?_
          refine qm_G.ret rfl rfl ⟨_, rfl, ?_⟩
          refine qm_G.s1 rfl (qm_x_aload rfl) ?_
          refine qm_G.s1 rfl (qm_x_aload rfl) ?_
          refine qm_G.s1 rfl (qm_x_iload rfl) ?_
          refine qm_G.s1 rfl (qm_x_pushI 1 rfl) ?_
          refine qm_G.s1 rfl (qm_x_iadd) ?_
          refine qm_G.s1 rfl (qm_x_iald2v (v := a1) (by omega) (by omega) hX e1) ?_
          refine qm_G.s1 rfl (qm_x_aload rfl) ?_
          refine qm_G.s1 rfl (qm_x_iload rfl) ?_
          refine qm_G.s1 rfl (qm_x_pushI 2 rfl) ?_
          refine qm_G.s1 rfl (qm_x_iadd) ?_
          refine qm_G.s1 rfl (qm_x_iald2v (v := a2) (by omega) (by omega) hX e2) ?_
          refine qm_G.s1 rfl (qm_x_aload rfl) ?_
          refine qm_G.s1 rfl (qm_x_iload rfl) ?_
          refine qm_G.s1 rfl (qm_x_pushI 3 rfl) ?_
          refine qm_G.s1 rfl (qm_x_iadd) ?_
          refine qm_G.s1 rfl (qm_x_iald2v (v := a3) (by omega) (by omega) hX e3) ?_
          refine qm_G.s1 rfl (qm_x_aload rfl) ?_
          refine qm_G.s1 rfl (qm_x_iload rfl) ?_
          refine qm_G.s1 rfl (qm_x_pushI 4 rfl) ?_
          refine qm_G.s1 rfl (qm_x_iadd) ?_
          refine qm_G.s1 rfl (qm_x_iald2v (v := a4) (by omega) (by omega) hX e4) ?_
          refine qm_G.s1 rfl (qm_x_aload rfl) ?_
          refine qm_G.s1 rfl (qm_x_iload rfl) ?_
          refine qm_G.s1 rfl (qm_x_pushI 5 rfl) ?_
          refine qm_G.s1 rfl (qm_x_iadd) ?_
          refine qm_G.s1 rfl (qm_x_iald2v (v := a5) (by omega) (by omega) hX e5) ?_
          refine qm_G.cm rfl rfl (hS 61 rfl) rfl ?_
          refine qm_C.go (cd := qm_P130) (lv := [(0, qm_R (some (0, 61, 0))), (1, qm_I (qm_i a1)), (2, qm_I (qm_i a2)), (3, qm_I (qm_i a3)), (4, qm_I (qm_i a4)), (5, qm_I (qm_i a5))]) rfl rfl ?_
          refine qm_G.s1 rfl (qm_x_iload rfl) ?_
          refine qm_G.cs rfl rfl rfl ?_
          refine qm_C.go (cd := qm_P86) (lv := [(0, qm_I (qm_i a1))]) rfl rfl ?_
          refine qm_G.s1 rfl (qm_x_iload rfl) ?_
          refine qm_G.s1 rfl (qm_x_pushI 0 rfl) ?_
          refine qm_G.s1 rfl (qm_x_pushI 5 rfl) ?_
          refine qm_G.cs rfl rfl rfl ?_
          refine qm_v_within11_t ⟨by omega, by omega⟩ ⟨by decide, by decide⟩ ⟨by decide, by decide⟩ (by omega) ⟨_, rfl, ?_⟩
          refine qm_G.ret rfl rfl ⟨_, rfl, ?_⟩
          refine qm_G.s1 rfl (qm_x_if_eq_f ⟨by decide, by decide⟩ (by decide)) ?_
          refine qm_G.s1 rfl (qm_x_iload rfl) ?_
          refine qm_G.cs rfl rfl rfl ?_
          refine qm_C.go (cd := qm_P86) (lv := [(0, qm_I (qm_i a3))]) rfl rfl ?_
          refine qm_G.s1 rfl (qm_x_iload rfl) ?_
          refine qm_G.s1 rfl (qm_x_pushI 0 rfl) ?_
          refine qm_G.s1 rfl (qm_x_pushI 5 rfl) ?_
          refine qm_G.cs rfl rfl rfl ?_
          refine qm_v_within11_t ⟨by omega, by omega⟩ ⟨by decide, by decide⟩ ⟨by decide, by decide⟩ (by omega) ⟨_, rfl, ?_⟩
          refine qm_G.ret rfl rfl ⟨_, rfl, ?_⟩
          refine qm_G.s1 rfl (qm_x_if_ne_t ⟨by decide, by decide⟩ (by decide)) ?_
          refine qm_G.sp (lv1 := [(0, qm_R (some (0, 61, 0))), (1, qm_I (qm_i a1)), (2, qm_I (qm_i a2)), (3, qm_I (qm_i a3)), (4, qm_I (qm_i a4)), (5, qm_I (qm_i a5))]) rfl rfl (qm_x_aload rfl) ?_
          refine qm_G.s1 rfl (qm_x_getfR (q := (some (0, 73, 0))) (hS 61 rfl) (hR 61 20 73 rfl rfl)) ?_
          refine qm_G.s1 rfl (qm_x_iload rfl) ?_
          refine qm_G.s1 rfl (qm_x_iald (v := (J 73 0 (Int.toNat a1))) (qm_arS hS rfl rfl) rfl (by omega) (by omega) (by decide) rfl) ?_
          refine qm_G.s1 rfl (qm_x_if_eq_f ⟨by omega, by omega⟩ (by omega)) ?_
          refine qm_G.s1 rfl (qm_x_aload rfl) ?_
          refine qm_G.s1 rfl (qm_x_getfR (q := (some (0, 73, 0))) (hS 61 rfl) (hR 61 20 73 rfl rfl)) ?_
          refine qm_G.s1 rfl (qm_x_iload rfl) ?_
          refine qm_G.s1 rfl (qm_x_iald (v := (J 73 0 (Int.toNat a3))) (qm_arS hS rfl rfl) rfl (by omega) (by omega) (by decide) rfl) ?_
          refine qm_G.s1 rfl (qm_x_if_ne_f ⟨by omega, by omega⟩ (by omega)) ?_
          refine qm_G.sp (lv1 := []) rfl rfl (qm_x_pushI (-11) rfl) ?_
          refine qm_G.ret rfl rfl ⟨_, rfl, ?_⟩
          refine qm_G.s1 rfl (qm_x_icmp_eq_t ⟨by decide, by decide⟩ ⟨by decide, by decide⟩ (by decide)) ?_
          exact ih _ _ _ _ _ _ hI.next
    · refine qm_G.ret rfl rfl ⟨_, rfl, ?_⟩
      refine qm_G.s1 rfl (qm_x_if_ne_f ⟨by decide, by decide⟩ (by decide)) ?_
      refine qm_G.sp (lv1 := []) rfl rfl (qm_x_pushI (-1) rfl) ?_
      refine qm_G.ret rfl rfl ⟨_, rfl, ?_⟩
      refine qm_G.s1 rfl (qm_x_aload rfl) ?_
      refine qm_G.s1 rfl (qm_x_aload rfl) ?_
      refine qm_G.s1 rfl (qm_x_iload rfl) ?_
      refine qm_G.s1 rfl (qm_x_pushI 1 rfl) ?_
      refine qm_G.s1 rfl (qm_x_iadd) ?_
      refine qm_G.s1 rfl (qm_x_iald2v (v := a1) (by omega) (by omega) hX e1) ?_
      refine qm_G.s1 rfl (qm_x_aload rfl) ?_
      refine qm_G.s1 rfl (qm_x_iload rfl) ?_
      refine qm_G.s1 rfl (qm_x_pushI 2 rfl) ?_
      refine qm_G.s1 rfl (qm_x_iadd) ?_
      refine qm_G.s1 rfl (qm_x_iald2v (v := a2) (by omega) (by omega) hX e2) ?_
      refine qm_G.s1 rfl (qm_x_aload rfl) ?_
      refine qm_G.s1 rfl (qm_x_iload rfl) ?_
      refine qm_G.s1 rfl (qm_x_pushI 3 rfl) ?_
      refine qm_G.s1 rfl (qm_x_iadd) ?_
      refine qm_G.s1 rfl (qm_x_iald2v (v := a3) (by omega) (by omega) hX e3) ?_
      refine qm_G.s1 rfl (qm_x_aload rfl) ?_
      refine qm_G.s1 rfl (qm_x_iload rfl) ?_
      refine qm_G.s1 rfl (qm_x_pushI 4 rfl) ?_
      refine qm_G.s1 rfl (qm_x_iadd) ?_
      refine qm_G.s1 rfl (qm_x_iald2v (v := a4) (by omega) (by omega) hX e4) ?_
      refine qm_G.s1 rfl (qm_x_aload rfl) ?_
      refine qm_G.s1 rfl (qm_x_iload rfl) ?_
      refine qm_G.s1 rfl (qm_x_pushI 5 rfl) ?_
      refine qm_G.s1 rfl (qm_x_iadd) ?_
      refine qm_G.s1 rfl (qm_x_iald2v (v := a5) (by omega) (by omega) hX e5) ?_
      refine qm_G.cm rfl rfl (hS 61 rfl) rfl ?_
      refine qm_C.go (cd := qm_P130) (lv := [(0, qm_R (some (0, 61, 0))), (1, qm_I (qm_i a1)), (2, qm_I (qm_i a2)), (3, qm_I (qm_i a3)), (4, qm_I (qm_i a4)), (5, qm_I (qm_i a5))]) rfl rfl ?_
      refine qm_G.s1 rfl (qm_x_iload rfl) ?_
      refine qm_G.cs rfl rfl rfl ?_
      refine qm_C.go (cd := qm_P86) (lv := [(0, qm_I (qm_i a1))]) rfl rfl ?_
      refine qm_G.s1 rfl (qm_x_iload rfl) ?_
      refine qm_G.s1 rfl (qm_x_pushI 0 rfl) ?_
      refine qm_G.s1 rfl (qm_x_pushI 5 rfl) ?_
      refine qm_G.cs rfl rfl rfl ?_
      refine qm_v_within11_t ⟨by omega, by omega⟩ ⟨by decide, by decide⟩ ⟨by decide, by decide⟩ (by omega) ⟨_, rfl, ?_⟩
      refine qm_G.ret rfl rfl ⟨_, rfl, ?_⟩
      refine qm_G.s1 rfl (qm_x_if_eq_f ⟨by decide, by decide⟩ (by decide)) ?_
      refine qm_G.s1 rfl (qm_x_iload rfl) ?_
      refine qm_G.cs rfl rfl rfl ?_
      refine qm_C.go (cd := qm_P86) (lv := [(0, qm_I (qm_i a3))]) rfl rfl ?_
      refine qm_G.s1 rfl (qm_x_iload rfl) ?_
      refine qm_G.s1 rfl (qm_x_pushI 0 rfl) ?_
      refine qm_G.s1 rfl (qm_x_pushI 5 rfl) ?_
      refine qm_G.cs rfl rfl rfl ?_
      refine qm_v_within11_f ⟨by omega, by omega⟩ ⟨by decide, by decide⟩ ⟨by decide, by decide⟩ (by omega) ⟨_, rfl, ?_⟩
      refine qm_G.ret rfl rfl ⟨_, rfl, ?_⟩
      refine qm_G.s1 rfl (qm_x_if_ne_f ⟨by decide, by decide⟩ (by decide)) ?_
      refine qm_G.sp (lv1 := []) rfl rfl (qm_x_pushI (-1) rfl) ?_
      refine qm_G.ret rfl rfl ⟨_, rfl, ?_⟩
      refine qm_G.s1 rfl (qm_x_icmp_eq_t ⟨by decide, by decide⟩ ⟨by decide, by decide⟩ (by decide)) ?_
      exact ih _ _ _ _ _ _ hI.next
  · refine qm_G.ret rfl rfl ⟨_, rfl, ?_⟩
    refine qm_G.s1 rfl (qm_x_if_eq_t ⟨by decide, by decide⟩ (by decide)) ?_
    refine qm_G.sp (lv1 := []) rfl rfl (qm_x_pushI (-1) rfl) ?_
    refine qm_G.ret rfl rfl ⟨_, rfl, ?_⟩
    refine qm_G.s1 rfl (qm_x_aload rfl) ?_
    refine qm_G.s1 rfl (qm_x_aload rfl) ?_
    refine qm_G.s1 rfl (qm_x_iload rfl) ?_
    refine qm_G.s1 rfl (qm_x_pushI 1 rfl) ?_
    refine qm_G.s1 rfl (qm_x_iadd) ?_
    refine qm_G.s1 rfl (qm_x_iald2v (v := a1) (by omega) (by omega) hX e1) ?_
    refine qm_G.s1 rfl (qm_x_aload rfl) ?_
    refine qm_G.s1 rfl (qm_x_iload rfl) ?_
    refine qm_G.s1 rfl (qm_x_pushI 2 rfl) ?_
    refine qm_G.s1 rfl (qm_x_iadd) ?_
    refine qm_G.s1 rfl (qm_x_iald2v (v := a2) (by omega) (by omega) hX e2) ?_
    refine qm_G.s1 rfl (qm_x_aload rfl) ?_
    refine qm_G.s1 rfl (qm_x_iload rfl) ?_
    refine qm_G.s1 rfl (qm_x_pushI 3 rfl) ?_
    refine qm_G.s1 rfl (qm_x_iadd) ?_
    refine qm_G.s1 rfl (qm_x_iald2v (v := a3) (by omega) (by omega) hX e3) ?_
    refine qm_G.s1 rfl (qm_x_aload rfl) ?_
    refine qm_G.s1 rfl (qm_x_iload rfl) ?_
    refine qm_G.s1 rfl (qm_x_pushI 4 rfl) ?_
    refine qm_G.s1 rfl (qm_x_iadd) ?_
    refine qm_G.s1 rfl (qm_x_iald2v (v := a4) (by omega) (by omega) hX e4) ?_
    refine qm_G.s1 rfl (qm_x_aload rfl) ?_
    refine qm_G.s1 rfl (qm_x_iload rfl) ?_
    refine qm_G.s1 rfl (qm_x_pushI 5 rfl) ?_
    refine qm_G.s1 rfl (qm_x_iadd) ?_
    refine qm_G.s1 rfl (qm_x_iald2v (v := a5) (by omega) (by omega) hX e5) ?_
    refine qm_G.cm rfl rfl (hS 61 rfl) rfl ?_
    refine qm_C.go (cd := qm_P130) (lv := [(0, qm_R (some (0, 61, 0))), (1, qm_I (qm_i a1)), (2, qm_I (qm_i a2)), (3, qm_I (qm_i a3)), (4, qm_I (qm_i a4)), (5, qm_I (qm_i a5))]) rfl rfl ?_
    refine qm_G.s1 rfl (qm_x_iload rfl) ?_
    refine qm_G.cs rfl rfl rfl ?_
    refine qm_C.go (cd := qm_P86) (lv := [(0, qm_I (qm_i a1))]) rfl rfl ?_
    refine qm_G.s1 rfl (qm_x_iload rfl) ?_
    refine qm_G.s1 rfl (qm_x_pushI 0 rfl) ?_
    refine qm_G.s1 rfl (qm_x_pushI 5 rfl) ?_
    refine qm_G.cs rfl rfl rfl ?_
    refine qm_v_within11_f ⟨by omega, by omega⟩ ⟨by decide, by decide⟩ ⟨by decide, by decide⟩ (by omega) ⟨_, rfl, ?_⟩
    refine qm_G.ret rfl rfl ⟨_, rfl, ?_⟩
    refine qm_G.s1 rfl (qm_x_if_eq_t ⟨by decide, by decide⟩ (by decide)) ?_
    refine qm_G.sp (lv1 := []) rfl rfl (qm_x_pushI (-1) rfl) ?_
    refine qm_G.ret rfl rfl ⟨_, rfl, ?_⟩
    refine qm_G.s1 rfl (qm_x_icmp_eq_t ⟨by decide, by decide⟩ ⟨by decide, by decide⟩ (by decide)) ?_
    exact ih _ _ _ _ _ _ hI.next
