/-! THE LAW, case 11 -/
theorem qm_case11 {S : List qm_Sh} {J K : qm_J} {L : qm_Ct Int64} {D : qm_Ct UInt64} {R : qm_Ct (Option qm_Rf)} {X : Nat × (Nat → Int32)} {k : Nat} {z : Int} {Q : Option qm_V → qm_Hp → Prop} {a1 : Int} {a2 : Int} {a3 : Int} (hI : qm_Inv S J K L D R k) (hX : X.1 ≤ 3072) (h0 : 0 ≤ z) (h6 : z + 6 ≤ X.1) (e1 : (X.2 (Int.toNat (z + 1))).toInt = a1) (e2 : (X.2 (Int.toNat (z + 2))).toInt = a2) (e3 : (X.2 (Int.toNat (z + 3))).toInt = a3) (ih : ∀ (S : List qm_Sh) (J K : qm_J) (L : qm_Ct Int64) (D : qm_Ct UInt64) (R : qm_Ct (Option qm_Rf)), qm_Inv S J K L D R (k + 1) → qm_G qm_P qm_P222 1445 [(0, qm_R (some (2, 0, 0))), (1, qm_R (some (0, 0, 0))), (2, qm_R (some (0, 61, 0))), (3, qm_I (qm_i z))] [] (qm_H S J K L D R X) Q) : qm_G qm_P qm_P222 581 [(0, qm_R (some (2, 0, 0))), (1, qm_R (some (0, 0, 0))), (2, qm_R (some (0, 61, 0))), (3, qm_I (qm_i z))] [] (qm_H S J K L D R X) Q := by
  have hS := hI.sd
  have hR := hI.rd
  have hM := hI.mk
  have hN := hM.nk
  obtain ⟨W, hW⟩ : ∃ W : Nat → Int → qm_S3, W = qm_VB (qm_ch (J 62 0) 0 0) (qm_ch (J 62 0) 0 1) (J 62 0 1) (J 62 0 3) := ⟨_, rfl⟩
  have rW : ∀ t s, (0 ≤ (W t s).2.1 ∧ (W t s).2.1 ≤ 6) ∧ (0 ≤ (W t s).2.2 ∧ (W t s).2.2 ≤ 6) := fun t s => by rw [hW]; exact qm_VB_rng
  have s1 : qm_sm a1 := e1 ▸ qm_i_sml _
  have s2 : qm_sm a2 := e2 ▸ qm_i_sml _
  have s3 : qm_sm a3 := e3 ▸ qm_i_sml _
  rcases (show a3 = 0 ∨ a3 = 1 ∨ (a3 < 0 ∨ 1 < a3) by omega) with d1 | d1 | d1
  · subst d1
    refine qm_G.sp (lv1 := [(0, qm_R (some (2, 0, 0))), (1, qm_R (some (0, 0, 0))), (2, qm_R (some (0, 61, 0))), (3, qm_I (qm_i z))]) rfl rfl (qm_x_aload rfl) ?_
    refine qm_G.s1 rfl (qm_x_aload rfl) ?_
    refine qm_G.s1 rfl (qm_x_iload rfl) ?_
    refine qm_G.s1 rfl (qm_x_pushI 1 rfl) ?_
    refine qm_G.s1 rfl (qm_x_iadd) ?_
    refine qm_G.s1 rfl (qm_x_iald2v (v := a1) (by omega) (by omega) hX e1) ?_
    refine qm_G.s1 rfl (qm_x_aload rfl) ?_
    refine qm_G.s1 rfl (qm_x_iload rfl) ?_
    refine qm_G.s1 rfl (qm_x_pushI 2 rfl) ?_
    refine qm_G.s1 rfl (qm_x_iadd) ?_
    refine qm_G.s1 rfl (qm_x_iald2v (v := a2) (by omega) (by omega) hX e2) ?_
    refine qm_G.s1 rfl (qm_x_aload rfl) ?_
    refine qm_G.s1 rfl (qm_x_iload rfl) ?_
    refine qm_G.s1 rfl (qm_x_pushI 3 rfl) ?_
    refine qm_G.s1 rfl (qm_x_iadd) ?_
    refine qm_G.s1 rfl (qm_x_iald2v (v := 0) (by omega) (by omega) hX e3) ?_
    refine qm_G.cm rfl rfl (hS 0 rfl) rfl ?_
    refine qm_C.go (cd := qm_P212) (lv := [(0, qm_R (some (0, 0, 0))), (1, qm_I (qm_i a1)), (2, qm_I (qm_i a2)), (3, qm_I (qm_i 0))]) rfl rfl ?_
    refine qm_G.s1 rfl (qm_x_iload rfl) ?_
    refine qm_G.cs rfl rfl rfl ?_
    refine qm_C.go (cd := qm_P18) (lv := [(0, qm_I (qm_i 0))]) rfl rfl ?_
    refine qm_G.s1 rfl (qm_x_iload rfl) ?_
    refine qm_G.s1 rfl (qm_x_if_eq_t ⟨by decide, by decide⟩ (by decide)) ?_
    refine qm_G.sp (lv1 := []) rfl rfl (qm_x_pushI 1 rfl) ?_
    refine qm_G.s1 rfl (qm_x_goto) ?_
    refine qm_G.ret rfl rfl ⟨_, rfl, ?_⟩
    refine qm_G.s1 rfl (qm_x_if_ne_t ⟨by decide, by decide⟩ (by decide)) ?_
    refine qm_G.sp (lv1 := [(0, qm_R (some (0, 0, 0))), (1, qm_I (qm_i a1)), (2, qm_I (qm_i a2)), (3, qm_I (qm_i 0))]) rfl rfl (qm_x_aload rfl) ?_
    refine qm_G.s1 rfl (qm_x_iload rfl) ?_
    refine qm_G.cm rfl rfl (hS 0 rfl) rfl ?_
    refine qm_C.go (cd := qm_P77) (lv := [(0, qm_R (some (0, 0, 0))), (1, qm_I (qm_i a1))]) rfl rfl ?_
    refine qm_G.s1 rfl (qm_x_iload rfl) ?_
    refine qm_G.s1 rfl (qm_x_aload rfl) ?_
    refine qm_G.cm rfl rfl (hS 0 rfl) rfl ?_
    refine qm_C.go (cd := qm_P19) (lv := [(0, qm_R (some (0, 0, 0)))]) rfl rfl ?_
    refine qm_G.s1 rfl (qm_x_aload rfl) ?_
    refine qm_G.s1 rfl (qm_x_getfR (q := (some (0, 1, 0))) (hS 0 rfl) (hR 0 0 1 rfl rfl)) ?_
    refine qm_G.s1 rfl (qm_x_getfR (q := (some (0, 2, 0))) (hS 1 rfl) (hR 1 0 2 rfl rfl)) ?_
    refine qm_G.s1 rfl (qm_x_getfR (q := (some (0, 3, 0))) (hS 2 rfl) (hR 2 0 3 rfl rfl)) ?_
    refine qm_G.s1 rfl (qm_x_pushI 1 rfl) ?_
    have f62_1 : 1 ≤ J 62 0 1 ∧ J 62 0 1 ≤ 8 := hI.mk.r1
    have f3_1 : J 3 0 1 = J 62 0 1 := hI.mk.set 1 (by decide)
    refine qm_G.s1 rfl (qm_x_iald (v := (J 3 0 1)) (qm_arS hS rfl rfl) rfl (by decide) (by decide) (by decide) rfl) ?_
    refine qm_G.ret rfl rfl ⟨_, rfl, ?_⟩
    refine qm_G.s1 rfl (qm_x_ineg) ?_
    refine qm_G.s1 rfl (qm_x_aload rfl) ?_
    refine qm_G.cm rfl rfl (hS 0 rfl) rfl ?_
    refine qm_C.go (cd := qm_P19) (lv := [(0, qm_R (some (0, 0, 0)))]) rfl rfl ?_
    refine qm_G.s1 rfl (qm_x_aload rfl) ?_
    refine qm_G.s1 rfl (qm_x_getfR (q := (some (0, 1, 0))) (hS 0 rfl) (hR 0 0 1 rfl rfl)) ?_
    refine qm_G.s1 rfl (qm_x_getfR (q := (some (0, 2, 0))) (hS 1 rfl) (hR 1 0 2 rfl rfl)) ?_
    refine qm_G.s1 rfl (qm_x_getfR (q := (some (0, 3, 0))) (hS 2 rfl) (hR 2 0 3 rfl rfl)) ?_
    refine qm_G.s1 rfl (qm_x_pushI 1 rfl) ?_
    refine qm_G.s1 rfl (qm_x_iald (v := (J 3 0 1)) (qm_arS hS rfl rfl) rfl (by decide) (by decide) (by decide) rfl) ?_
    refine qm_G.ret rfl rfl ⟨_, rfl, ?_⟩
    refine qm_G.cs rfl rfl rfl ?_
    refine qm_v_within10 ⟨by omega, by omega⟩ ⟨by omega, by omega⟩ ⟨by omega, by omega⟩ (fun c2 => ⟨_, rfl, ?_⟩) (fun c2 => ⟨_, rfl, ?_⟩)
    · refine qm_G.ret rfl rfl ⟨_, rfl, ?_⟩
      refine qm_G.s1 rfl (qm_x_if_eq_f ⟨by decide, by decide⟩ (by decide)) ?_
      refine qm_G.s1 rfl (qm_x_iload rfl) ?_
      refine qm_G.s1 rfl (qm_x_pushI 1 rfl) ?_
      refine qm_G.s1 rfl (qm_x_pushI 8 rfl) ?_
      refine qm_G.cs rfl rfl rfl ?_
      refine qm_v_within10 ⟨by omega, by omega⟩ ⟨by decide, by decide⟩ ⟨by decide, by decide⟩ (fun c3 => ⟨_, rfl, ?_⟩) (fun c3 => ⟨_, rfl, ?_⟩)
      · refine qm_G.s1 rfl (qm_x_if_ne_t ⟨by decide, by decide⟩ (by decide)) ?_
        refine qm_G.sp (lv1 := [(0, qm_R (some (0, 0, 0))), (1, qm_I (qm_i a1)), (2, qm_I (qm_i a2)), (3, qm_I (qm_i 0))]) rfl rfl (qm_x_aload rfl) ?_
        refine qm_G.s1 rfl (qm_x_iload rfl) ?_
        refine qm_G.cmv rfl rfl (hS 0 rfl) rfl ?_
        refine qm_d_now hS hR hM (by omega) (fun J2 L2 ej2 f2 b2 t2 => ⟨rfl, ?_⟩)
        unfold qm_TV at t2
        rw [← hW] at t2
        refine qm_G.s1 rfl (qm_x_aload rfl) ?_
        refine qm_G.s1 rfl (qm_x_getfR (q := (some (0, 35, 0))) (hS 0 rfl) (hR 0 3 35 rfl rfl)) ?_
        refine qm_G.s1 rfl (qm_x_iload rfl) ?_
        refine qm_G.s1 rfl (qm_x_iload rfl) ?_
        refine qm_G.s1 rfl (qm_x_iload rfl) ?_
        refine qm_G.cm rfl rfl (hS 35 rfl) rfl ?_
        refine qm_C.go (cd := qm_P31) (lv := [(0, qm_R (some (0, 35, 0))), (1, qm_I (qm_i a1)), (2, qm_I (qm_i a2)), (3, qm_I (qm_i 0))]) rfl rfl ?_
        refine qm_G.s1 rfl (qm_x_iload rfl) ?_
        refine qm_G.s1 rfl (qm_x_if_ne_f ⟨by decide, by decide⟩ (by decide)) ?_
        refine qm_G.s1 rfl (qm_x_aload rfl) ?_
        refine qm_G.s1 rfl (qm_x_getfR (q := (some (0, 38, 0))) (hS 35 rfl) (hR 35 2 38 rfl rfl)) ?_
        refine qm_G.s1 rfl (qm_x_iload rfl) ?_
        refine qm_G.s1 rfl (qm_x_aaldg (hS 38 rfl) rfl rfl (by omega) (by omega)) ?_
        refine qm_G.s1 rfl (qm_x_iload rfl) ?_
        refine qm_G.s1 rfl (qm_x_pushI 8 rfl) ?_
        refine qm_G.s1 rfl (qm_x_iadd) ?_
        have g4 := rW (Int.toNat a2) a1
        refine qm_G.s1 rfl (qm_x_iald (v := ((W (Int.toNat a2) a1).2.1)) (qm_arS hS rfl rfl) rfl (by omega) (by omega) (by omega) ((t2 a2 a1 (by omega) (Or.inl (by omega)) (by omega) (by omega)).2 (by omega)).1) ?_
        refine qm_G.s1 rfl (qm_x_goto) ?_
        refine qm_G.ret rfl rfl ⟨_, rfl, ?_⟩
        refine qm_G.ret rfl rfl ⟨_, rfl, ?_⟩
        refine qm_G.s1 rfl (qm_x_aload rfl) ?_
        refine qm_G.s1 rfl (qm_x_aload rfl) ?_
        refine qm_G.s1 rfl (qm_x_iload rfl) ?_
        refine qm_G.s1 rfl (qm_x_pushI 1 rfl) ?_
        refine qm_G.s1 rfl (qm_x_iadd) ?_
        refine qm_G.s1 rfl (qm_x_iald2v (v := a1) (by omega) (by omega) hX e1) ?_
        refine qm_G.s1 rfl (qm_x_aload rfl) ?_
        refine qm_G.s1 rfl (qm_x_iload rfl) ?_
        refine qm_G.s1 rfl (qm_x_pushI 2 rfl) ?_
        refine qm_G.s1 rfl (qm_x_iadd) ?_
        refine qm_G.s1 rfl (qm_x_iald2v (v := a2) (by omega) (by omega) hX e2) ?_
        refine qm_G.s1 rfl (qm_x_aload rfl) ?_
        refine qm_G.s1 rfl (qm_x_iload rfl) ?_
        refine qm_G.s1 rfl (qm_x_pushI 3 rfl) ?_
        refine qm_G.s1 rfl (qm_x_iadd) ?_
        refine qm_G.s1 rfl (qm_x_iald2v (v := 0) (by omega) (by omega) hX e3) ?_
        refine qm_G.cm rfl rfl (hS 61 rfl) rfl ?_
        refine qm_C.go (cd := qm_P189) (lv := [(0, qm_R (some (0, 61, 0))), (1, qm_I (qm_i a1)), (2, qm_I (qm_i a2)), (3, qm_I (qm_i 0))]) rfl rfl ?_
        refine qm_G.s1 rfl (qm_x_iload rfl) ?_
        refine qm_G.s1 rfl (qm_x_pushI 0 rfl) ?_
        refine qm_G.s1 rfl (qm_x_pushI 1 rfl) ?_
        refine qm_G.cs rfl rfl rfl ?_
        refine qm_v_within11_t ⟨by decide, by decide⟩ ⟨by decide, by decide⟩ ⟨by decide, by decide⟩ (by decide) ⟨_, rfl, ?_⟩
        refine qm_G.s1 rfl (qm_x_if_ne_t ⟨by decide, by decide⟩ (by decide)) ?_
        refine qm_G.sp (lv1 := [(0, qm_R (some (0, 61, 0))), (1, qm_I (qm_i a1)), (2, qm_I (qm_i a2)), (3, qm_I (qm_i 0))]) rfl rfl (qm_x_aload rfl) ?_
        refine qm_G.s1 rfl (qm_x_iload rfl) ?_
        refine qm_G.cm rfl rfl (hS 61 rfl) rfl ?_
        refine qm_C.go (cd := qm_P85) (lv := [(0, qm_R (some (0, 61, 0))), (1, qm_I (qm_i a1))]) rfl rfl ?_
        refine qm_G.s1 rfl (qm_x_iload rfl) ?_
        refine qm_G.s1 rfl (qm_x_aload rfl) ?_
        refine qm_G.s1 rfl (qm_x_getfR (q := (some (0, 62, 0))) (hS 61 rfl) (hR 61 0 62 rfl rfl)) ?_
        refine qm_G.s1 rfl (qm_x_pushI 1 rfl) ?_
        refine qm_G.s1 rfl (qm_x_iald (v := (J 62 0 1)) (qm_arS hS rfl rfl) rfl (by decide) (by decide) (by decide) (ej2 62 0 1 (by omega))) ?_
        refine qm_G.s1 rfl (qm_x_ineg) ?_
        refine qm_G.s1 rfl (qm_x_aload rfl) ?_
        refine qm_G.s1 rfl (qm_x_getfR (q := (some (0, 62, 0))) (hS 61 rfl) (hR 61 0 62 rfl rfl)) ?_
        refine qm_G.s1 rfl (qm_x_pushI 1 rfl) ?_
        refine qm_G.s1 rfl (qm_x_iald (v := (J 62 0 1)) (qm_arS hS rfl rfl) rfl (by decide) (by decide) (by decide) (ej2 62 0 1 (by omega))) ?_
        refine qm_G.cs rfl rfl rfl ?_
        refine qm_v_within11_t ⟨by omega, by omega⟩ ⟨by omega, by omega⟩ ⟨by omega, by omega⟩ (by omega) ⟨_, rfl, ?_⟩
        refine qm_G.ret rfl rfl ⟨_, rfl, ?_⟩
        refine qm_G.s1 rfl (qm_x_if_eq_f ⟨by decide, by decide⟩ (by decide)) ?_
        refine qm_G.s1 rfl (qm_x_iload rfl) ?_
        refine qm_G.s1 rfl (qm_x_pushI 1 rfl) ?_
        refine qm_G.s1 rfl (qm_x_pushI 8 rfl) ?_
        refine qm_G.cs rfl rfl rfl ?_
        refine qm_v_within11_t ⟨by omega, by omega⟩ ⟨by decide, by decide⟩ ⟨by decide, by decide⟩ (by omega) ⟨_, rfl, ?_⟩
        refine qm_G.s1 rfl (qm_x_if_ne_t ⟨by decide, by decide⟩ (by decide)) ?_
        refine qm_G.sp (lv1 := [(0, qm_R (some (0, 61, 0))), (1, qm_I (qm_i a1)), (2, qm_I (qm_i a2)), (3, qm_I (qm_i 0))]) rfl rfl (qm_x_aload rfl) ?_
        refine qm_G.cmv rfl rfl (hS 61 rfl) rfl ?_
        have e62 : J2 62 0 = J 62 0 := funext (fun i => (ej2 62 0 i (by omega)))
        refine qm_m_values hS hR (show qm_Nk (J2 62 0) from e62 ▸ hN) (fun J3 L3 ej3 f3 b3 t3 => ⟨rfl, ?_⟩)
        rw [e62] at b3 t3
        unfold qm_TM at t3
        rw [← hW] at t3
        refine qm_G.s1 rfl (qm_x_iload rfl) ?_
        refine qm_G.s1 rfl (qm_x_if_ne_f ⟨by decide, by decide⟩ (by decide)) ?_
        refine qm_G.s1 rfl (qm_x_aload rfl) ?_
        refine qm_G.s1 rfl (qm_x_getfR (q := (some (0, 65, 0))) (hS 61 rfl) (hR 61 8 65 rfl rfl)) ?_
        refine qm_G.s1 rfl (qm_x_iload rfl) ?_
        refine qm_G.s1 rfl (qm_x_iload rfl) ?_
        refine qm_G.cs rfl rfl rfl ?_
        refine qm_C.go (cd := qm_P24) (lv := [(0, qm_I (qm_i a2)), (1, qm_I (qm_i a1))]) rfl rfl ?_
        refine qm_G.s1 rfl (qm_x_pushI 17 rfl) ?_
        refine qm_G.s1 rfl (qm_x_iload rfl) ?_
        refine qm_G.s1 rfl (qm_x_imul) ?_
        refine qm_G.s1 rfl (qm_x_pushI 8 rfl) ?_
        refine qm_G.s1 rfl (qm_x_iadd) ?_
        refine qm_G.s1 rfl (qm_x_iload rfl) ?_
        refine qm_G.s1 rfl (qm_x_iadd) ?_
        refine qm_G.ret rfl rfl ⟨_, rfl, ?_⟩
        refine qm_G.s1 rfl (qm_x_iald (v := (10 * (W (Int.toNat a2) a1).2.1 + (W (Int.toNat a2) a1).2.2)) (qm_arS hS rfl rfl) rfl (by omega) (by omega) (by decide) ((t3 a2 a1 (by omega) (Or.inl (by omega)) (by omega) (by omega)).2 (by omega))) ?_
        refine qm_G.s1 rfl (qm_x_pushI 10 rfl) ?_
        refine qm_G.s1 rfl (qm_x_idivp ⟨by omega, by omega⟩ (by omega) ⟨by decide, by decide⟩ (by decide)) ?_
        refine qm_G.s1 rfl (qm_x_goto) ?_
        refine qm_G.ret rfl rfl ⟨_, rfl, ?_⟩
        refine qm_G.s1 rfl (qm_x_icmp_eq_t ⟨by omega, by omega⟩ ⟨by omega, by omega⟩ (by omega)) ?_
        exact ih _ _ _ _ _ _ (hI.scr (fun r s i h => ((ej3 r s i (by unfold qm_wJ at h; omega)).trans (ej2 r s i (by unfold qm_wJ at h; omega)))) (fun r s i h => ((f3 r s i (by omega)).trans (f2 r s i (by omega)))) (fun _ _ _ _ => rfl))
      · refine qm_G.s1 rfl (qm_x_if_ne_f ⟨by decide, by decide⟩ (by decide)) ?_
        refine qm_G.sp (lv1 := []) rfl rfl (qm_x_pushI (-2) rfl) ?_
        refine qm_G.ret rfl rfl ⟨_, rfl, ?_⟩
        refine qm_G.s1 rfl (qm_x_aload rfl) ?_
        refine qm_G.s1 rfl (qm_x_aload rfl) ?_
        refine qm_G.s1 rfl (qm_x_iload rfl) ?_
        refine qm_G.s1 rfl (qm_x_pushI 1 rfl) ?_
        refine qm_G.s1 rfl (qm_x_iadd) ?_
        refine qm_G.s1 rfl (qm_x_iald2v (v := a1) (by omega) (by omega) hX e1) ?_
        refine qm_G.s1 rfl (qm_x_aload rfl) ?_
        refine qm_G.s1 rfl (qm_x_iload rfl) ?_
        refine qm_G.s1 rfl (qm_x_pushI 2 rfl) ?_
        refine qm_G.s1 rfl (qm_x_iadd) ?_
        refine qm_G.s1 rfl (qm_x_iald2v (v := a2) (by omega) (by omega) hX e2) ?_
        refine qm_G.s1 rfl (qm_x_aload rfl) ?_
        refine qm_G.s1 rfl (qm_x_iload rfl) ?_
        refine qm_G.s1 rfl (qm_x_pushI 3 rfl) ?_
        refine qm_G.s1 rfl (qm_x_iadd) ?_
        refine qm_G.s1 rfl (qm_x_iald2v (v := 0) (by omega) (by omega) hX e3) ?_
        refine qm_G.cm rfl rfl (hS 61 rfl) rfl ?_
        refine qm_C.go (cd := qm_P189) (lv := [(0, qm_R (some (0, 61, 0))), (1, qm_I (qm_i a1)), (2, qm_I (qm_i a2)), (3, qm_I (qm_i 0))]) rfl rfl ?_
        refine qm_G.s1 rfl (qm_x_iload rfl) ?_
        refine qm_G.s1 rfl (qm_x_pushI 0 rfl) ?_
        refine qm_G.s1 rfl (qm_x_pushI 1 rfl) ?_
        refine qm_G.cs rfl rfl rfl ?_
        refine qm_v_within11_t ⟨by decide, by decide⟩ ⟨by decide, by decide⟩ ⟨by decide, by decide⟩ (by decide) ⟨_, rfl, ?_⟩
        refine qm_G.s1 rfl (qm_x_if_ne_t ⟨by decide, by decide⟩ (by decide)) ?_
        refine qm_G.sp (lv1 := [(0, qm_R (some (0, 61, 0))), (1, qm_I (qm_i a1)), (2, qm_I (qm_i a2)), (3, qm_I (qm_i 0))]) rfl rfl (qm_x_aload rfl) ?_
        refine qm_G.s1 rfl (qm_x_iload rfl) ?_
        refine qm_G.cm rfl rfl (hS 61 rfl) rfl ?_
        refine qm_C.go (cd := qm_P85) (lv := [(0, qm_R (some (0, 61, 0))), (1, qm_I (qm_i a1))]) rfl rfl ?_
        refine qm_G.s1 rfl (qm_x_iload rfl) ?_
        refine qm_G.s1 rfl (qm_x_aload rfl) ?_
        refine qm_G.s1 rfl (qm_x_getfR (q := (some (0, 62, 0))) (hS 61 rfl) (hR 61 0 62 rfl rfl)) ?_
        refine qm_G.s1 rfl (qm_x_pushI 1 rfl) ?_
        refine qm_G.s1 rfl (qm_x_iald (v := (J 62 0 1)) (qm_arS hS rfl rfl) rfl (by decide) (by decide) (by decide) rfl) ?_
        refine qm_G.s1 rfl (qm_x_ineg) ?_
        refine qm_G.s1 rfl (qm_x_aload rfl) ?_
        refine qm_G.s1 rfl (qm_x_getfR (q := (some (0, 62, 0))) (hS 61 rfl) (hR 61 0 62 rfl rfl)) ?_
        refine qm_G.s1 rfl (qm_x_pushI 1 rfl) ?_
        refine qm_G.s1 rfl (qm_x_iald (v := (J 62 0 1)) (qm_arS hS rfl rfl) rfl (by decide) (by decide) (by decide) rfl) ?_
        refine qm_G.cs rfl rfl rfl ?_
        refine qm_v_within11_t ⟨by omega, by omega⟩ ⟨by omega, by omega⟩ ⟨by omega, by omega⟩ (by omega) ⟨_, rfl, ?_⟩
        refine qm_G.ret rfl rfl ⟨_, rfl, ?_⟩
        refine qm_G.s1 rfl (qm_x_if_eq_f ⟨by decide, by decide⟩ (by decide)) ?_
        refine qm_G.s1 rfl (qm_x_iload rfl) ?_
        refine qm_G.s1 rfl (qm_x_pushI 1 rfl) ?_
        refine qm_G.s1 rfl (qm_x_pushI 8 rfl) ?_
        refine qm_G.cs rfl rfl rfl ?_
        refine qm_v_within11_f ⟨by omega, by omega⟩ ⟨by decide, by decide⟩ ⟨by decide, by decide⟩ (by omega) ⟨_, rfl, ?_⟩
        refine qm_G.s1 rfl (qm_x_if_ne_f ⟨by decide, by decide⟩ (by decide)) ?_
        refine qm_G.sp (lv1 := []) rfl rfl (qm_x_pushI (-2) rfl) ?_
        refine qm_G.ret rfl rfl ⟨_, rfl, ?_⟩
        refine qm_G.s1 rfl (qm_x_icmp_eq_t ⟨by decide, by decide⟩ ⟨by decide, by decide⟩ (by decide)) ?_
        exact ih _ _ _ _ _ _ hI.next
    · refine qm_G.ret rfl rfl ⟨_, rfl, ?_⟩
      refine qm_G.s1 rfl (qm_x_if_eq_t ⟨by decide, by decide⟩ (by decide)) ?_
      refine qm_G.sp (lv1 := []) rfl rfl (qm_x_pushI (-2) rfl) ?_
      refine qm_G.ret rfl rfl ⟨_, rfl, ?_⟩
      refine qm_G.s1 rfl (qm_x_aload rfl) ?_
      refine qm_G.s1 rfl (qm_x_aload rfl) ?_
      refine qm_G.s1 rfl (qm_x_iload rfl) ?_
      refine qm_G.s1 rfl (qm_x_pushI 1 rfl) ?_
      refine qm_G.s1 rfl (qm_x_iadd) ?_
      refine qm_G.s1 rfl (qm_x_iald2v (v := a1) (by omega) (by omega) hX e1) ?_
      refine qm_G.s1 rfl (qm_x_aload rfl) ?_
      refine qm_G.s1 rfl (qm_x_iload rfl) ?_
      refine qm_G.s1 rfl (qm_x_pushI 2 rfl) ?_
      refine qm_G.s1 rfl (qm_x_iadd) ?_
      refine qm_G.s1 rfl (qm_x_iald2v (v := a2) (by omega) (by omega) hX e2) ?_
      refine qm_G.s1 rfl (qm_x_aload rfl) ?_
      refine qm_G.s1 rfl (qm_x_iload rfl) ?_
      refine qm_G.s1 rfl (qm_x_pushI 3 rfl) ?_
      refine qm_G.s1 rfl (qm_x_iadd) ?_
      refine qm_G.s1 rfl (qm_x_iald2v (v := 0) (by omega) (by omega) hX e3) ?_
      refine qm_G.cm rfl rfl (hS 61 rfl) rfl ?_
      refine qm_C.go (cd := qm_P189) (lv := [(0, qm_R (some (0, 61, 0))), (1, qm_I (qm_i a1)), (2, qm_I (qm_i a2)), (3, qm_I (qm_i 0))]) rfl rfl ?_
      refine qm_G.s1 rfl (qm_x_iload rfl) ?_
      refine qm_G.s1 rfl (qm_x_pushI 0 rfl) ?_
      refine qm_G.s1 rfl (qm_x_pushI 1 rfl) ?_
      refine qm_G.cs rfl rfl rfl ?_
      refine qm_v_within11_t ⟨by decide, by decide⟩ ⟨by decide, by decide⟩ ⟨by decide, by decide⟩ (by decide) ⟨_, rfl, ?_⟩
      refine qm_G.s1 rfl (qm_x_if_ne_t ⟨by decide, by decide⟩ (by decide)) ?_
      refine qm_G.sp (lv1 := [(0, qm_R (some (0, 61, 0))), (1, qm_I (qm_i a1)), (2, qm_I (qm_i a2)), (3, qm_I (qm_i 0))]) rfl rfl (qm_x_aload rfl) ?_
      refine qm_G.s1 rfl (qm_x_iload rfl) ?_
      refine qm_G.cm rfl rfl (hS 61 rfl) rfl ?_
      refine qm_C.go (cd := qm_P85) (lv := [(0, qm_R (some (0, 61, 0))), (1, qm_I (qm_i a1))]) rfl rfl ?_
      refine qm_G.s1 rfl (qm_x_iload rfl) ?_
      refine qm_G.s1 rfl (qm_x_aload rfl) ?_
      refine qm_G.s1 rfl (qm_x_getfR (q := (some (0, 62, 0))) (hS 61 rfl) (hR 61 0 62 rfl rfl)) ?_
      refine qm_G.s1 rfl (qm_x_pushI 1 rfl) ?_
      refine qm_G.s1 rfl (qm_x_iald (v := (J 62 0 1)) (qm_arS hS rfl rfl) rfl (by decide) (by decide) (by decide) rfl) ?_
      refine qm_G.s1 rfl (qm_x_ineg) ?_
      refine qm_G.s1 rfl (qm_x_aload rfl) ?_
      refine qm_G.s1 rfl (qm_x_getfR (q := (some (0, 62, 0))) (hS 61 rfl) (hR 61 0 62 rfl rfl)) ?_
      refine qm_G.s1 rfl (qm_x_pushI 1 rfl) ?_
      refine qm_G.s1 rfl (qm_x_iald (v := (J 62 0 1)) (qm_arS hS rfl rfl) rfl (by decide) (by decide) (by decide) rfl) ?_
      refine qm_G.cs rfl rfl rfl ?_
      refine qm_v_within11_f ⟨by omega, by omega⟩ ⟨by omega, by omega⟩ ⟨by omega, by omega⟩ (by omega) ⟨_, rfl, ?_⟩
      refine qm_G.ret rfl rfl ⟨_, rfl, ?_⟩
      refine qm_G.s1 rfl (qm_x_if_eq_t ⟨by decide, by decide⟩ (by decide)) ?_
      refine qm_G.sp (lv1 := []) rfl rfl (qm_x_pushI (-2) rfl) ?_
      refine qm_G.ret rfl rfl ⟨_, rfl, ?_⟩
      refine qm_G.s1 rfl (qm_x_icmp_eq_t ⟨by decide, by decide⟩ ⟨by decide, by decide⟩ (by decide)) ?_
      exact ih _ _ _ _ _ _ hI.next
  · subst d1
    refine qm_G.sp (lv1 := [(0, qm_R (some (2, 0, 0))), (1, qm_R (some (0, 0, 0))), (2, qm_R (some (0, 61, 0))), (3, qm_I (qm_i z))]) rfl rfl (qm_x_aload rfl) ?_
    refine qm_G.s1 rfl (qm_x_aload rfl) ?_
    refine qm_G.s1 rfl (qm_x_iload rfl) ?_
    refine qm_G.s1 rfl (qm_x_pushI 1 rfl) ?_
    refine qm_G.s1 rfl (qm_x_iadd) ?_
    refine qm_G.s1 rfl (qm_x_iald2v (v := a1) (by omega) (by omega) hX e1) ?_
    refine qm_G.s1 rfl (qm_x_aload rfl) ?_
    refine qm_G.s1 rfl (qm_x_iload rfl) ?_
    refine qm_G.s1 rfl (qm_x_pushI 2 rfl) ?_
    refine qm_G.s1 rfl (qm_x_iadd) ?_
    refine qm_G.s1 rfl (qm_x_iald2v (v := a2) (by omega) (by omega) hX e2) ?_
    refine qm_G.s1 rfl (qm_x_aload rfl) ?_
    refine qm_G.s1 rfl (qm_x_iload rfl) ?_
    refine qm_G.s1 rfl (qm_x_pushI 3 rfl) ?_
    refine qm_G.s1 rfl (qm_x_iadd) ?_
    refine qm_G.s1 rfl (qm_x_iald2v (v := 1) (by omega) (by omega) hX e3) ?_
    refine qm_G.cm rfl rfl (hS 0 rfl) rfl ?_
    refine qm_C.go (cd := qm_P212) (lv := [(0, qm_R (some (0, 0, 0))), (1, qm_I (qm_i a1)), (2, qm_I (qm_i a2)), (3, qm_I (qm_i 1))]) rfl rfl ?_
    refine qm_G.s1 rfl (qm_x_iload rfl) ?_
    refine qm_G.cs rfl rfl rfl ?_
    refine qm_C.go (cd := qm_P18) (lv := [(0, qm_I (qm_i 1))]) rfl rfl ?_
    refine qm_G.s1 rfl (qm_x_iload rfl) ?_
    refine qm_G.s1 rfl (qm_x_if_eq_f ⟨by decide, by decide⟩ (by decide)) ?_
    refine qm_G.s1 rfl (qm_x_iload rfl) ?_
    refine qm_G.s1 rfl (qm_x_pushI 1 rfl) ?_
    refine qm_G.s1 rfl (qm_x_icmp_ne_f ⟨by decide, by decide⟩ ⟨by decide, by decide⟩ (by decide)) ?_
    refine qm_G.sp (lv1 := []) rfl rfl (qm_x_pushI 1 rfl) ?_
    refine qm_G.s1 rfl (qm_x_goto) ?_
    refine qm_G.ret rfl rfl ⟨_, rfl, ?_⟩
    refine qm_G.s1 rfl (qm_x_if_ne_t ⟨by decide, by decide⟩ (by decide)) ?_
    refine qm_G.sp (lv1 := [(0, qm_R (some (0, 0, 0))), (1, qm_I (qm_i a1)), (2, qm_I (qm_i a2)), (3, qm_I (qm_i 1))]) rfl rfl (qm_x_aload rfl) ?_
    refine qm_G.s1 rfl (qm_x_iload rfl) ?_
    refine qm_G.cm rfl rfl (hS 0 rfl) rfl ?_
    refine qm_C.go (cd := qm_P77) (lv := [(0, qm_R (some (0, 0, 0))), (1, qm_I (qm_i a1))]) rfl rfl ?_
    refine qm_G.s1 rfl (qm_x_iload rfl) ?_
    refine qm_G.s1 rfl (qm_x_aload rfl) ?_
    refine qm_G.cm rfl rfl (hS 0 rfl) rfl ?_
    refine qm_C.go (cd := qm_P19) (lv := [(0, qm_R (some (0, 0, 0)))]) rfl rfl ?_
    refine qm_G.s1 rfl (qm_x_aload rfl) ?_
    refine qm_G.s1 rfl (qm_x_getfR (q := (some (0, 1, 0))) (hS 0 rfl) (hR 0 0 1 rfl rfl)) ?_
    refine qm_G.s1 rfl (qm_x_getfR (q := (some (0, 2, 0))) (hS 1 rfl) (hR 1 0 2 rfl rfl)) ?_
    refine qm_G.s1 rfl (qm_x_getfR (q := (some (0, 3, 0))) (hS 2 rfl) (hR 2 0 3 rfl rfl)) ?_
    refine qm_G.s1 rfl (qm_x_pushI 1 rfl) ?_
    have f62_1 : 1 ≤ J 62 0 1 ∧ J 62 0 1 ≤ 8 := hI.mk.r1
    have f3_1 : J 3 0 1 = J 62 0 1 := hI.mk.set 1 (by decide)
    refine qm_G.s1 rfl (qm_x_iald (v := (J 3 0 1)) (qm_arS hS rfl rfl) rfl (by decide) (by decide) (by decide) rfl) ?_
    refine qm_G.ret rfl rfl ⟨_, rfl, ?_⟩
    refine qm_G.s1 rfl (qm_x_ineg) ?_
    refine qm_G.s1 rfl (qm_x_aload rfl) ?_
    refine qm_G.cm rfl rfl (hS 0 rfl) rfl ?_
    refine qm_C.go (cd := qm_P19) (lv := [(0, qm_R (some (0, 0, 0)))]) rfl rfl ?_
    refine qm_G.s1 rfl (qm_x_aload rfl) ?_
    refine qm_G.s1 rfl (qm_x_getfR (q := (some (0, 1, 0))) (hS 0 rfl) (hR 0 0 1 rfl rfl)) ?_
    refine qm_G.s1 rfl (qm_x_getfR (q := (some (0, 2, 0))) (hS 1 rfl) (hR 1 0 2 rfl rfl)) ?_
    refine qm_G.s1 rfl (qm_x_getfR (q := (some (0, 3, 0))) (hS 2 rfl) (hR 2 0 3 rfl rfl)) ?_
    refine qm_G.s1 rfl (qm_x_pushI 1 rfl) ?_
    refine qm_G.s1 rfl (qm_x_iald (v := (J 3 0 1)) (qm_arS hS rfl rfl) rfl (by decide) (by decide) (by decide) rfl) ?_
    refine qm_G.ret rfl rfl ⟨_, rfl, ?_⟩
    refine qm_G.cs rfl rfl rfl ?_
    refine qm_v_within10 ⟨by omega, by omega⟩ ⟨by omega, by omega⟩ ⟨by omega, by omega⟩ (fun c13 => ⟨_, rfl, ?_⟩) (fun c13 => ⟨_, rfl, ?_⟩)
    · refine qm_G.ret rfl rfl ⟨_, rfl, ?_⟩
      refine qm_G.s1 rfl (qm_x_if_eq_f ⟨by decide, by decide⟩ (by decide)) ?_
      refine qm_G.s1 rfl (qm_x_iload rfl) ?_
      refine qm_G.s1 rfl (qm_x_pushI 1 rfl) ?_
      refine qm_G.s1 rfl (qm_x_pushI 8 rfl) ?_
      refine qm_G.cs rfl rfl rfl ?_
      refine qm_v_within10 ⟨by omega, by omega⟩ ⟨by decide, by decide⟩ ⟨by decide, by decide⟩ (fun c14 => ⟨_, rfl, ?_⟩) (fun c14 => ⟨_, rfl, ?_⟩)
      · refine qm_G.s1 rfl (qm_x_if_ne_t ⟨by decide, by decide⟩ (by decide)) ?_
        refine qm_G.sp (lv1 := [(0, qm_R (some (0, 0, 0))), (1, qm_I (qm_i a1)), (2, qm_I (qm_i a2)), (3, qm_I (qm_i 1))]) rfl rfl (qm_x_aload rfl) ?_
        refine qm_G.s1 rfl (qm_x_iload rfl) ?_
        refine qm_G.cmv rfl rfl (hS 0 rfl) rfl ?_
        refine qm_d_now hS hR hM (by omega) (fun J2 L2 ej2 f2 b2 t2 => ⟨rfl, ?_⟩)
        unfold qm_TV at t2
        rw [← hW] at t2
        refine qm_G.s1 rfl (qm_x_aload rfl) ?_
        refine qm_G.s1 rfl (qm_x_getfR (q := (some (0, 35, 0))) (hS 0 rfl) (hR 0 3 35 rfl rfl)) ?_
        refine qm_G.s1 rfl (qm_x_iload rfl) ?_
        refine qm_G.s1 rfl (qm_x_iload rfl) ?_
        refine qm_G.s1 rfl (qm_x_iload rfl) ?_
        refine qm_G.cm rfl rfl (hS 35 rfl) rfl ?_
        refine qm_C.go (cd := qm_P31) (lv := [(0, qm_R (some (0, 35, 0))), (1, qm_I (qm_i a1)), (2, qm_I (qm_i a2)), (3, qm_I (qm_i 1))]) rfl rfl ?_
        refine qm_G.s1 rfl (qm_x_iload rfl) ?_
        refine qm_G.s1 rfl (qm_x_if_ne_t ⟨by decide, by decide⟩ (by decide)) ?_
        refine qm_G.sp (lv1 := [(0, qm_R (some (0, 35, 0))), (1, qm_I (qm_i a1)), (2, qm_I (qm_i a2))]) rfl rfl (qm_x_aload rfl) ?_
        refine qm_G.s1 rfl (qm_x_getfR (q := (some (0, 39, 0))) (hS 35 rfl) (hR 35 3 39 rfl rfl)) ?_
        refine qm_G.s1 rfl (qm_x_iload rfl) ?_
        refine qm_G.s1 rfl (qm_x_aaldg (hS 39 rfl) rfl rfl (by omega) (by omega)) ?_
        refine qm_G.s1 rfl (qm_x_iload rfl) ?_
        refine qm_G.s1 rfl (qm_x_pushI 8 rfl) ?_
        refine qm_G.s1 rfl (qm_x_iadd) ?_
        have g15 := rW (Int.toNat a2) a1
        refine qm_G.s1 rfl (qm_x_iald (v := ((W (Int.toNat a2) a1).2.2)) (qm_arS hS rfl rfl) rfl (by omega) (by omega) (by omega) ((t2 a2 a1 (by omega) (Or.inl (by omega)) (by omega) (by omega)).2 (by omega)).2) ?_
        refine qm_G.ret rfl rfl ⟨_, rfl, ?_⟩
        refine qm_G.ret rfl rfl ⟨_, rfl, ?_⟩
        refine qm_G.s1 rfl (qm_x_aload rfl) ?_
        refine qm_G.s1 rfl (qm_x_aload rfl) ?_
        refine qm_G.s1 rfl (qm_x_iload rfl) ?_
        refine qm_G.s1 rfl (qm_x_pushI 1 rfl) ?_
        refine qm_G.s1 rfl (qm_x_iadd) ?_
        refine qm_G.s1 rfl (qm_x_iald2v (v := a1) (by omega) (by omega) hX e1) ?_
        refine qm_G.s1 rfl (qm_x_aload rfl) ?_
        refine qm_G.s1 rfl (qm_x_iload rfl) ?_
        refine qm_G.s1 rfl (qm_x_pushI 2 rfl) ?_
        refine qm_G.s1 rfl (qm_x_iadd) ?_
        refine qm_G.s1 rfl (qm_x_iald2v (v := a2) (by omega) (by omega) hX e2) ?_
        refine qm_G.s1 rfl (qm_x_aload rfl) ?_
        refine qm_G.s1 rfl (qm_x_iload rfl) ?_
        refine qm_G.s1 rfl (qm_x_pushI 3 rfl) ?_
        refine qm_G.s1 rfl (qm_x_iadd) ?_
        refine qm_G.s1 rfl (qm_x_iald2v (v := 1) (by omega) (by omega) hX e3) ?_
        refine qm_G.cm rfl rfl (hS 61 rfl) rfl ?_
        refine qm_C.go (cd := qm_P189) (lv := [(0, qm_R (some (0, 61, 0))), (1, qm_I (qm_i a1)), (2, qm_I (qm_i a2)), (3, qm_I (qm_i 1))]) rfl rfl ?_
        refine qm_G.s1 rfl (qm_x_iload rfl) ?_
        refine qm_G.s1 rfl (qm_x_pushI 0 rfl) ?_
        refine qm_G.s1 rfl (qm_x_pushI 1 rfl) ?_
        refine qm_G.cs rfl rfl rfl ?_
        refine qm_v_within11_t ⟨by decide, by decide⟩ ⟨by decide, by decide⟩ ⟨by decide, by decide⟩ (by decide) ⟨_, rfl, ?_⟩
        refine qm_G.s1 rfl (qm_x_if_ne_t ⟨by decide, by decide⟩ (by decide)) ?_
        refine qm_G.sp (lv1 := [(0, qm_R (some (0, 61, 0))), (1, qm_I (qm_i a1)), (2, qm_I (qm_i a2)), (3, qm_I (qm_i 1))]) rfl rfl (qm_x_aload rfl) ?_
        refine qm_G.s1 rfl (qm_x_iload rfl) ?_
        refine qm_G.cm rfl rfl (hS 61 rfl) rfl ?_
        refine qm_C.go (cd := qm_P85) (lv := [(0, qm_R (some (0, 61, 0))), (1, qm_I (qm_i a1))]) rfl rfl ?_
        refine qm_G.s1 rfl (qm_x_iload rfl) ?_
        refine qm_G.s1 rfl (qm_x_aload rfl) ?_
        refine qm_G.s1 rfl (qm_x_getfR (q := (some (0, 62, 0))) (hS 61 rfl) (hR 61 0 62 rfl rfl)) ?_
        refine qm_G.s1 rfl (qm_x_pushI 1 rfl) ?_
        refine qm_G.s1 rfl (qm_x_iald (v := (J 62 0 1)) (qm_arS hS rfl rfl) rfl (by decide) (by decide) (by decide) (ej2 62 0 1 (by omega))) ?_
        refine qm_G.s1 rfl (qm_x_ineg) ?_
        refine qm_G.s1 rfl (qm_x_aload rfl) ?_
        refine qm_G.s1 rfl (qm_x_getfR (q := (some (0, 62, 0))) (hS 61 rfl) (hR 61 0 62 rfl rfl)) ?_
        refine qm_G.s1 rfl (qm_x_pushI 1 rfl) ?_
        refine qm_G.s1 rfl (qm_x_iald (v := (J 62 0 1)) (qm_arS hS rfl rfl) rfl (by decide) (by decide) (by decide) (ej2 62 0 1 (by omega))) ?_
        refine qm_G.cs rfl rfl rfl ?_
        refine qm_v_within11_t ⟨by omega, by omega⟩ ⟨by omega, by omega⟩ ⟨by omega, by omega⟩ (by omega) ⟨_, rfl, ?_⟩
        refine qm_G.ret rfl rfl ⟨_, rfl, ?_⟩
        refine qm_G.s1 rfl (qm_x_if_eq_f ⟨by decide, by decide⟩ (by decide)) ?_
        refine qm_G.s1 rfl (qm_x_iload rfl) ?_
        refine qm_G.s1 rfl (qm_x_pushI 1 rfl) ?_
        refine qm_G.s1 rfl (qm_x_pushI 8 rfl) ?_
        refine qm_G.cs rfl rfl rfl ?_
        refine qm_v_within11_t ⟨by omega, by omega⟩ ⟨by decide, by decide⟩ ⟨by decide, by decide⟩ (by omega) ⟨_, rfl, ?_⟩
        refine qm_G.s1 rfl (qm_x_if_ne_t ⟨by decide, by decide⟩ (by decide)) ?_
        refine qm_G.sp (lv1 := [(0, qm_R (some (0, 61, 0))), (1, qm_I (qm_i a1)), (2, qm_I (qm_i a2)), (3, qm_I (qm_i 1))]) rfl rfl (qm_x_aload rfl) ?_
        refine qm_G.cmv rfl rfl (hS 61 rfl) rfl ?_
        have e62 : J2 62 0 = J 62 0 := funext (fun i => (ej2 62 0 i (by omega)))
        refine qm_m_values hS hR (show qm_Nk (J2 62 0) from e62 ▸ hN) (fun J3 L3 ej3 f3 b3 t3 => ⟨rfl, ?_⟩)
        rw [e62] at b3 t3
        unfold qm_TM at t3
        rw [← hW] at t3
        refine qm_G.s1 rfl (qm_x_iload rfl) ?_
        refine qm_G.s1 rfl (qm_x_if_ne_t ⟨by decide, by decide⟩ (by decide)) ?_
        refine qm_G.sp (lv1 := [(0, qm_R (some (0, 61, 0))), (1, qm_I (qm_i a1)), (2, qm_I (qm_i a2))]) rfl rfl (qm_x_aload rfl) ?_
        refine qm_G.s1 rfl (qm_x_getfR (q := (some (0, 65, 0))) (hS 61 rfl) (hR 61 8 65 rfl rfl)) ?_
        refine qm_G.s1 rfl (qm_x_iload rfl) ?_
        refine qm_G.s1 rfl (qm_x_iload rfl) ?_
        refine qm_G.cs rfl rfl rfl ?_
        refine qm_C.go (cd := qm_P24) (lv := [(0, qm_I (qm_i a2)), (1, qm_I (qm_i a1))]) rfl rfl ?_
        refine qm_G.s1 rfl (qm_x_pushI 17 rfl) ?_
        refine qm_G.s1 rfl (qm_x_iload rfl) ?_
        refine qm_G.s1 rfl (qm_x_imul) ?_
        refine qm_G.s1 rfl (qm_x_pushI 8 rfl) ?_
        refine qm_G.s1 rfl (qm_x_iadd) ?_
        refine qm_G.s1 rfl (qm_x_iload rfl) ?_
        refine qm_G.s1 rfl (qm_x_iadd) ?_
        refine qm_G.ret rfl rfl ⟨_, rfl, ?_⟩
        refine qm_G.s1 rfl (qm_x_iald (v := (10 * (W (Int.toNat a2) a1).2.1 + (W (Int.toNat a2) a1).2.2)) (qm_arS hS rfl rfl) rfl (by omega) (by omega) (by decide) ((t3 a2 a1 (by omega) (Or.inl (by omega)) (by omega) (by omega)).2 (by omega))) ?_
        refine qm_G.s1 rfl (qm_x_pushI 10 rfl) ?_
        refine qm_G.s1 rfl (qm_x_iremp ⟨by omega, by omega⟩ (by omega) ⟨by decide, by decide⟩ (by decide)) ?_
        refine qm_G.ret rfl rfl ⟨_, rfl, ?_⟩
        refine qm_G.s1 rfl (qm_x_icmp_eq_t ⟨by omega, by omega⟩ ⟨by omega, by omega⟩ (by omega)) ?_
        exact ih _ _ _ _ _ _ (hI.scr (fun r s i h => ((ej3 r s i (by unfold qm_wJ at h; omega)).trans (ej2 r s i (by unfold qm_wJ at h; omega)))) (fun r s i h => ((f3 r s i (by omega)).trans (f2 r s i (by omega)))) (fun _ _ _ _ => rfl))
      · refine qm_G.s1 rfl (qm_x_if_ne_f ⟨by decide, by decide⟩ (by decide)) ?_
        refine qm_G.sp (lv1 := []) rfl rfl (qm_x_pushI (-2) rfl) ?_
        refine qm_G.ret rfl rfl ⟨_, rfl, ?_⟩
        refine qm_G.s1 rfl (qm_x_aload rfl) ?_
        refine qm_G.s1 rfl (qm_x_aload rfl) ?_
        refine qm_G.s1 rfl (qm_x_iload rfl) ?_
        refine qm_G.s1 rfl (qm_x_pushI 1 rfl) ?_
        refine qm_G.s1 rfl (qm_x_iadd) ?_
        refine qm_G.s1 rfl (qm_x_iald2v (v := a1) (by omega) (by omega) hX e1) ?_
        refine qm_G.s1 rfl (qm_x_aload rfl) ?_
        refine qm_G.s1 rfl (qm_x_iload rfl) ?_
        refine qm_G.s1 rfl (qm_x_pushI 2 rfl) ?_
        refine qm_G.s1 rfl (qm_x_iadd) ?_
        refine qm_G.s1 rfl (qm_x_iald2v (v := a2) (by omega) (by omega) hX e2) ?_
        refine qm_G.s1 rfl (qm_x_aload rfl) ?_
        refine qm_G.s1 rfl (qm_x_iload rfl) ?_
        refine qm_G.s1 rfl (qm_x_pushI 3 rfl) ?_
        refine qm_G.s1 rfl (qm_x_iadd) ?_
        refine qm_G.s1 rfl (qm_x_iald2v (v := 1) (by omega) (by omega) hX e3) ?_
        refine qm_G.cm rfl rfl (hS 61 rfl) rfl ?_
        refine qm_C.go (cd := qm_P189) (lv := [(0, qm_R (some (0, 61, 0))), (1, qm_I (qm_i a1)), (2, qm_I (qm_i a2)), (3, qm_I (qm_i 1))]) rfl rfl ?_
        refine qm_G.s1 rfl (qm_x_iload rfl) ?_
        refine qm_G.s1 rfl (qm_x_pushI 0 rfl) ?_
        refine qm_G.s1 rfl (qm_x_pushI 1 rfl) ?_
        refine qm_G.cs rfl rfl rfl ?_
        refine qm_v_within11_t ⟨by decide, by decide⟩ ⟨by decide, by decide⟩ ⟨by decide, by decide⟩ (by decide) ⟨_, rfl, ?_⟩
        refine qm_G.s1 rfl (qm_x_if_ne_t ⟨by decide, by decide⟩ (by decide)) ?_
        refine qm_G.sp (lv1 := [(0, qm_R (some (0, 61, 0))), (1, qm_I (qm_i a1)), (2, qm_I (qm_i a2)), (3, qm_I (qm_i 1))]) rfl rfl (qm_x_aload rfl) ?_
        refine qm_G.s1 rfl (qm_x_iload rfl) ?_
        refine qm_G.cm rfl rfl (hS 61 rfl) rfl ?_
        refine qm_C.go (cd := qm_P85) (lv := [(0, qm_R (some (0, 61, 0))), (1, qm_I (qm_i a1))]) rfl rfl ?_
        refine qm_G.s1 rfl (qm_x_iload rfl) ?_
        refine qm_G.s1 rfl (qm_x_aload rfl) ?_
        refine qm_G.s1 rfl (qm_x_getfR (q := (some (0, 62, 0))) (hS 61 rfl) (hR 61 0 62 rfl rfl)) ?_
        refine qm_G.s1 rfl (qm_x_pushI 1 rfl) ?_
        refine qm_G.s1 rfl (qm_x_iald (v := (J 62 0 1)) (qm_arS hS rfl rfl) rfl (by decide) (by decide) (by decide) rfl) ?_
        refine qm_G.s1 rfl (qm_x_ineg) ?_
        refine qm_G.s1 rfl (qm_x_aload rfl) ?_
        refine qm_G.s1 rfl (qm_x_getfR (q := (some (0, 62, 0))) (hS 61 rfl) (hR 61 0 62 rfl rfl)) ?_
        refine qm_G.s1 rfl (qm_x_pushI 1 rfl) ?_
        refine qm_G.s1 rfl (qm_x_iald (v := (J 62 0 1)) (qm_arS hS rfl rfl) rfl (by decide) (by decide) (by decide) rfl) ?_
        refine qm_G.cs rfl rfl rfl ?_
        refine qm_v_within11_t ⟨by omega, by omega⟩ ⟨by omega, by omega⟩ ⟨by omega, by omega⟩ (by omega) ⟨_, rfl, ?_⟩
        refine qm_G.ret rfl rfl ⟨_, rfl, ?_⟩
        refine qm_G.s1 rfl (qm_x_if_eq_f ⟨by decide, by decide⟩ (by decide)) ?_
        refine qm_G.s1 rfl (qm_x_iload rfl) ?_
        refine qm_G.s1 rfl (qm_x_pushI 1 rfl) ?_
        refine qm_G.s1 rfl (qm_x_pushI 8 rfl) ?_
        refine qm_G.cs rfl rfl rfl ?_
        refine qm_v_within11_f ⟨by omega, by omega⟩ ⟨by decide, by decide⟩ ⟨by decide, by decide⟩ (by omega) ⟨_, rfl, ?_⟩
        refine qm_G.s1 rfl (qm_x_if_ne_f ⟨by decide, by decide⟩ (by decide)) ?_
        refine qm_G.sp (lv1 := []) rfl rfl (qm_x_pushI (-2) rfl) ?_
        refine qm_G.ret rfl rfl ⟨_, rfl, ?_⟩
        refine qm_G.s1 rfl (qm_x_icmp_eq_t ⟨by decide, by decide⟩ ⟨by decide, by decide⟩ (by decide)) ?_
        exact ih _ _ _ _ _ _ hI.next
    · refine qm_G.ret rfl rfl ⟨_, rfl, ?_⟩
      refine qm_G.s1 rfl (qm_x_if_eq_t ⟨by decide, by decide⟩ (by decide)) ?_
      refine qm_G.sp (lv1 := []) rfl rfl (qm_x_pushI (-2) rfl) ?_
      refine qm_G.ret rfl rfl ⟨_, rfl, ?_⟩
      refine qm_G.s1 rfl (qm_x_aload rfl) ?_
      refine qm_G.s1 rfl (qm_x_aload rfl) ?_
      refine qm_G.s1 rfl (qm_x_iload rfl) ?_
      refine qm_G.s1 rfl (qm_x_pushI 1 rfl) ?_
      refine qm_G.s1 rfl (qm_x_iadd) ?_
      refine qm_G.s1 rfl (qm_x_iald2v (v := a1) (by omega) (by omega) hX e1) ?_
      refine qm_G.s1 rfl (qm_x_aload rfl) ?_
      refine qm_G.s1 rfl (qm_x_iload rfl) ?_
      refine qm_G.s1 rfl (qm_x_pushI 2 rfl) ?_
      refine qm_G.s1 rfl (qm_x_iadd) ?_
      refine qm_G.s1 rfl (qm_x_iald2v (v := a2) (by omega) (by omega) hX e2) ?_
      refine qm_G.s1 rfl (qm_x_aload rfl) ?_
      refine qm_G.s1 rfl (qm_x_iload rfl) ?_
      refine qm_G.s1 rfl (qm_x_pushI 3 rfl) ?_
      refine qm_G.s1 rfl (qm_x_iadd) ?_
      refine qm_G.s1 rfl (qm_x_iald2v (v := 1) (by omega) (by omega) hX e3) ?_
      refine qm_G.cm rfl rfl (hS 61 rfl) rfl ?_
      refine qm_C.go (cd := qm_P189) (lv := [(0, qm_R (some (0, 61, 0))), (1, qm_I (qm_i a1)), (2, qm_I (qm_i a2)), (3, qm_I (qm_i 1))]) rfl rfl ?_
      refine qm_G.s1 rfl (qm_x_iload rfl) ?_
      refine qm_G.s1 rfl (qm_x_pushI 0 rfl) ?_
      refine qm_G.s1 rfl (qm_x_pushI 1 rfl) ?_
      refine qm_G.cs rfl rfl rfl ?_
      refine qm_v_within11_t ⟨by decide, by decide⟩ ⟨by decide, by decide⟩ ⟨by decide, by decide⟩ (by decide) ⟨_, rfl, ?_⟩
      refine qm_G.s1 rfl (qm_x_if_ne_t ⟨by decide, by decide⟩ (by decide)) ?_
      refine qm_G.sp (lv1 := [(0, qm_R (some (0, 61, 0))), (1, qm_I (qm_i a1)), (2, qm_I (qm_i a2)), (3, qm_I (qm_i 1))]) rfl rfl (qm_x_aload rfl) ?_
      refine qm_G.s1 rfl (qm_x_iload rfl) ?_
      refine qm_G.cm rfl rfl (hS 61 rfl) rfl ?_
      refine qm_C.go (cd := qm_P85) (lv := [(0, qm_R (some (0, 61, 0))), (1, qm_I (qm_i a1))]) rfl rfl ?_
      refine qm_G.s1 rfl (qm_x_iload rfl) ?_
      refine qm_G.s1 rfl (qm_x_aload rfl) ?_
      refine qm_G.s1 rfl (qm_x_getfR (q := (some (0, 62, 0))) (hS 61 rfl) (hR 61 0 62 rfl rfl)) ?_
      refine qm_G.s1 rfl (qm_x_pushI 1 rfl) ?_
      refine qm_G.s1 rfl (qm_x_iald (v := (J 62 0 1)) (qm_arS hS rfl rfl) rfl (by decide) (by decide) (by decide) rfl) ?_
      refine qm_G.s1 rfl (qm_x_ineg) ?_
      refine qm_G.s1 rfl (qm_x_aload rfl) ?_
      refine qm_G.s1 rfl (qm_x_getfR (q := (some (0, 62, 0))) (hS 61 rfl) (hR 61 0 62 rfl rfl)) ?_
      refine qm_G.s1 rfl (qm_x_pushI 1 rfl) ?_
      refine qm_G.s1 rfl (qm_x_iald (v := (J 62 0 1)) (qm_arS hS rfl rfl) rfl (by decide) (by decide) (by decide) rfl) ?_
      refine qm_G.cs rfl rfl rfl ?_
      refine qm_v_within11_f ⟨by omega, by omega⟩ ⟨by omega, by omega⟩ ⟨by omega, by omega⟩ (by omega) ⟨_, rfl, ?_⟩
      refine qm_G.ret rfl rfl ⟨_, rfl, ?_⟩
      refine qm_G.s1 rfl (qm_x_if_eq_t ⟨by decide, by decide⟩ (by decide)) ?_
      refine qm_G.sp (lv1 := []) rfl rfl (qm_x_pushI (-2) rfl) ?_
      refine qm_G.ret rfl rfl ⟨_, rfl, ?_⟩
      refine qm_G.s1 rfl (qm_x_icmp_eq_t ⟨by decide, by decide⟩ ⟨by decide, by decide⟩ (by decide)) ?_
      exact ih _ _ _ _ _ _ hI.next
  · refine qm_G.sp (lv1 := [(0, qm_R (some (2, 0, 0))), (1, qm_R (some (0, 0, 0))), (2, qm_R (some (0, 61, 0))), (3, qm_I (qm_i z))]) rfl rfl (qm_x_aload rfl) ?_
    refine qm_G.s1 rfl (qm_x_aload rfl) ?_
    refine qm_G.s1 rfl (qm_x_iload rfl) ?_
    refine qm_G.s1 rfl (qm_x_pushI 1 rfl) ?_
    refine qm_G.s1 rfl (qm_x_iadd) ?_
    refine qm_G.s1 rfl (qm_x_iald2v (v := a1) (by omega) (by omega) hX e1) ?_
    refine qm_G.s1 rfl (qm_x_aload rfl) ?_
    refine qm_G.s1 rfl (qm_x_iload rfl) ?_
    refine qm_G.s1 rfl (qm_x_pushI 2 rfl) ?_
    refine qm_G.s1 rfl (qm_x_iadd) ?_
    refine qm_G.s1 rfl (qm_x_iald2v (v := a2) (by omega) (by omega) hX e2) ?_
    refine qm_G.s1 rfl (qm_x_aload rfl) ?_
    refine qm_G.s1 rfl (qm_x_iload rfl) ?_
    refine qm_G.s1 rfl (qm_x_pushI 3 rfl) ?_
    refine qm_G.s1 rfl (qm_x_iadd) ?_
    refine qm_G.s1 rfl (qm_x_iald2v (v := a3) (by omega) (by omega) hX e3) ?_
    refine qm_G.cm rfl rfl (hS 0 rfl) rfl ?_
    refine qm_C.go (cd := qm_P212) (lv := [(0, qm_R (some (0, 0, 0))), (1, qm_I (qm_i a1)), (2, qm_I (qm_i a2)), (3, qm_I (qm_i a3))]) rfl rfl ?_
    refine qm_G.s1 rfl (qm_x_iload rfl) ?_
    refine qm_G.cs rfl rfl rfl ?_
    refine qm_C.go (cd := qm_P18) (lv := [(0, qm_I (qm_i a3))]) rfl rfl ?_
    refine qm_G.s1 rfl (qm_x_iload rfl) ?_
    refine qm_G.s1 rfl (qm_x_if_eq_f ⟨by omega, by omega⟩ (by omega)) ?_
    refine qm_G.s1 rfl (qm_x_iload rfl) ?_
    refine qm_G.s1 rfl (qm_x_pushI 1 rfl) ?_
    refine qm_G.s1 rfl (qm_x_icmp_ne_t ⟨by omega, by omega⟩ ⟨by decide, by decide⟩ (by omega)) ?_
    refine qm_G.sp (lv1 := []) rfl rfl (qm_x_pushI 0 rfl) ?_
    refine qm_G.ret rfl rfl ⟨_, rfl, ?_⟩
    refine qm_G.s1 rfl (qm_x_if_ne_f ⟨by decide, by decide⟩ (by decide)) ?_
    refine qm_G.s1 rfl (qm_x_pushI (-1) rfl) ?_
    refine qm_G.ret rfl rfl ⟨_, rfl, ?_⟩
    refine qm_G.s1 rfl (qm_x_aload rfl) ?_
    refine qm_G.s1 rfl (qm_x_aload rfl) ?_
    refine qm_G.s1 rfl (qm_x_iload rfl) ?_
    refine qm_G.s1 rfl (qm_x_pushI 1 rfl) ?_
    refine qm_G.s1 rfl (qm_x_iadd) ?_
    refine qm_G.s1 rfl (qm_x_iald2v (v := a1) (by omega) (by omega) hX e1) ?_
    refine qm_G.s1 rfl (qm_x_aload rfl) ?_
    refine qm_G.s1 rfl (qm_x_iload rfl) ?_
    refine qm_G.s1 rfl (qm_x_pushI 2 rfl) ?_
    refine qm_G.s1 rfl (qm_x_iadd) ?_
    refine qm_G.s1 rfl (qm_x_iald2v (v := a2) (by omega) (by omega) hX e2) ?_
    refine qm_G.s1 rfl (qm_x_aload rfl) ?_
    refine qm_G.s1 rfl (qm_x_iload rfl) ?_
    refine qm_G.s1 rfl (qm_x_pushI 3 rfl) ?_
    refine qm_G.s1 rfl (qm_x_iadd) ?_
    refine qm_G.s1 rfl (qm_x_iald2v (v := a3) (by omega) (by omega) hX e3) ?_
    refine qm_G.cm rfl rfl (hS 61 rfl) rfl ?_
    refine qm_C.go (cd := qm_P189) (lv := [(0, qm_R (some (0, 61, 0))), (1, qm_I (qm_i a1)), (2, qm_I (qm_i a2)), (3, qm_I (qm_i a3))]) rfl rfl ?_
    refine qm_G.s1 rfl (qm_x_iload rfl) ?_
    refine qm_G.s1 rfl (qm_x_pushI 0 rfl) ?_
    refine qm_G.s1 rfl (qm_x_pushI 1 rfl) ?_
    refine qm_G.cs rfl rfl rfl ?_
    refine qm_v_within11_f ⟨by omega, by omega⟩ ⟨by decide, by decide⟩ ⟨by decide, by decide⟩ (by omega) ⟨_, rfl, ?_⟩
    refine qm_G.s1 rfl (qm_x_if_ne_f ⟨by decide, by decide⟩ (by decide)) ?_
    refine qm_G.s1 rfl (qm_x_pushI (-1) rfl) ?_
    refine qm_G.ret rfl rfl ⟨_, rfl, ?_⟩
    refine qm_G.s1 rfl (qm_x_icmp_eq_t ⟨by decide, by decide⟩ ⟨by decide, by decide⟩ (by decide)) ?_
    exact ih _ _ _ _ _ _ hI.next
