/-! THE LAW, case 29 -/
theorem qm_case29 {S : List qm_Sh} {J K : qm_J} {L : qm_Ct Int64} {D : qm_Ct UInt64} {R : qm_Ct (Option qm_Rf)} {X : Nat × (Nat → Int32)} {k : Nat} {z : Int} {Q : Option qm_V → qm_Hp → Prop} {a1 : Int} {a2 : Int} {a3 : Int} (hI : qm_Inv S J K L D R k) (hX : X.1 ≤ 3072) (h0 : 0 ≤ z) (h6 : z + 6 ≤ X.1) (e1 : (X.2 (Int.toNat (z + 1))).toInt = a1) (e2 : (X.2 (Int.toNat (z + 2))).toInt = a2) (e3 : (X.2 (Int.toNat (z + 3))).toInt = a3) (ih : ∀ (S : List qm_Sh) (J K : qm_J) (L : qm_Ct Int64) (D : qm_Ct UInt64) (R : qm_Ct (Option qm_Rf)), qm_Inv S J K L D R (k + 1) → qm_G qm_P qm_P222 1445 [(0, qm_R (some (2, 0, 0))), (1, qm_R (some (0, 0, 0))), (2, qm_R (some (0, 61, 0))), (3, qm_I (qm_i z))] [] (qm_H S J K L D R X) Q) : qm_G qm_P qm_P222 1140 [(0, qm_R (some (2, 0, 0))), (1, qm_R (some (0, 0, 0))), (2, qm_R (some (0, 61, 0))), (3, qm_I (qm_i z))] [] (qm_H S J K L D R X) Q := by
  have hS := hI.sd
  have hR := hI.rd
  have hM := hI.mk
  have hN := hM.nk
  obtain ⟨W, hW⟩ : ∃ W : Nat → Int → qm_S3, W = qm_VB (qm_ch (J 62 0) 0 0) (qm_ch (J 62 0) 0 1) (J 62 0 1) (J 62 0 3) := ⟨_, rfl⟩
  have rW : ∀ t s, (0 ≤ (W t s).2.1 ∧ (W t s).2.1 ≤ 6) ∧ (0 ≤ (W t s).2.2 ∧ (W t s).2.2 ≤ 6) := fun t s => by rw [hW]; exact qm_VB_rng
  have s1 : qm_sm a1 := e1 ▸ qm_i_sml _
  have s2 : qm_sm a2 := e2 ▸ qm_i_sml _
  have s3 : qm_sm a3 := e3 ▸ qm_i_sml _
  rcases (show a1 = 0 ∨ a1 = 1 ∨ (a1 < 0 ∨ 1 < a1) by omega) with d1 | d1 | d1
  · subst d1
    refine qm_G.sp (lv1 := [(0, qm_R (some (2, 0, 0))), (1, qm_R (some (0, 0, 0))), (2, qm_R (some (0, 61, 0))), (3, qm_I (qm_i z))]) rfl rfl (qm_x_aload rfl) ?_
    refine qm_G.s1 rfl (qm_x_aload rfl) ?_
    refine qm_G.s1 rfl (qm_x_iload rfl) ?_
    refine qm_G.s1 rfl (qm_x_pushI 1 rfl) ?_
    refine qm_G.s1 rfl (qm_x_iadd) ?_
    refine qm_G.s1 rfl (qm_x_iald2v (v := 0) (by omega) (by omega) hX e1) ?_
    refine qm_G.s1 rfl (qm_x_aload rfl) ?_
    refine qm_G.s1 rfl (qm_x_iload rfl) ?_
    refine qm_G.s1 rfl (qm_x_pushI 2 rfl) ?_
    refine qm_G.s1 rfl (qm_x_iadd) ?_
    refine qm_G.s1 rfl (qm_x_iald2v (v := a2) (by omega) (by omega) hX e2) ?_
    refine qm_G.s1 rfl (qm_x_aload rfl) ?_
    refine qm_G.s1 rfl (qm_x_iload rfl) ?_
    refine qm_G.s1 rfl (qm_x_pushI 3 rfl) ?_
    refine qm_G.s1 rfl (qm_x_iadd) ?_
    refine qm_G.s1 rfl (qm_x_iald2v (v := a3) (by omega) (by omega) hX e3) ?_
    refine qm_G.cm rfl rfl (hS 0 rfl) rfl ?_
    refine qm_C.go (cd := qm_P115) (lv := [(0, qm_R (some (0, 0, 0))), (1, qm_I (qm_i 0)), (2, qm_I (qm_i a2)), (3, qm_I (qm_i a3))]) rfl rfl ?_
    refine qm_G.s1 rfl (qm_x_iload rfl) ?_
    refine qm_G.cs rfl rfl rfl ?_
    refine qm_C.go (cd := qm_P18) (lv := [(0, qm_I (qm_i 0))]) rfl rfl ?_
    refine qm_G.s1 rfl (qm_x_iload rfl) ?_
    refine qm_G.s1 rfl (qm_x_if_eq_t ⟨by decide, by decide⟩ (by decide)) ?_
    refine qm_G.sp (lv1 := []) rfl rfl (qm_x_pushI 1 rfl) ?_
    refine qm_G.s1 rfl (qm_x_goto) ?_
    refine qm_G.ret rfl rfl ⟨_, rfl, ?_⟩
    refine qm_G.s1 rfl (qm_x_if_eq_f ⟨by decide, by decide⟩ (by decide)) ?_
    refine qm_G.s1 rfl (qm_x_iload rfl) ?_
    refine qm_G.cs rfl rfl rfl ?_
    refine qm_C.go (cd := qm_P76) (lv := [(0, qm_I (qm_i a2))]) rfl rfl ?_
    refine qm_G.s1 rfl (qm_x_iload rfl) ?_
    refine qm_G.s1 rfl (qm_x_pushI 0 rfl) ?_
    refine qm_G.s1 rfl (qm_x_pushI 5 rfl) ?_
    refine qm_G.cs rfl rfl rfl ?_
    refine qm_v_within10 ⟨by omega, by omega⟩ ⟨by decide, by decide⟩ ⟨by decide, by decide⟩ (fun c2 => ⟨_, rfl, ?_⟩) (fun c2 => ⟨_, rfl, ?_⟩)
    · refine qm_G.ret rfl rfl ⟨_, rfl, ?_⟩
      refine qm_G.s1 rfl (qm_x_if_ne_t ⟨by decide, by decide⟩ (by decide)) ?_
      refine qm_G.sp (lv1 := [(0, qm_R (some (0, 0, 0))), (1, qm_I (qm_i 0)), (2, qm_I (qm_i a2)), (3, qm_I (qm_i a3))]) rfl rfl (qm_x_aload rfl) ?_
      refine qm_G.s1 rfl (qm_x_getfR (q := (some (0, 46, 0))) (hS 0 rfl) (hR 0 5 46 rfl rfl)) ?_
      refine qm_G.s1 rfl (qm_x_iload rfl) ?_
      obtain ⟨q3, q3p, ⟨g4a, g4b⟩, g4r, g4s, g4t, g4u, g4v, g4w, g4x, g4y, g4z⟩ := hI.tap (a := a2) (by omega)
      refine qm_G.s1 rfl (qm_x_aaldr (q := (some (0, q3, 0))) (hS 46 rfl) rfl rfl (by omega) (by omega) g4r) ?_
      refine qm_G.s1 rfl (qm_x_astore (lv' := [(4, qm_R (some (0, q3, 0))), (0, qm_R (some (0, 0, 0))), (1, qm_I (qm_i 0)), (2, qm_I (qm_i a2)), (3, qm_I (qm_i a3))]) rfl) ?_
      refine qm_G.s1 rfl (qm_x_aload rfl) ?_
      refine qm_G.s1 rfl (qm_x_getfI (v := (J 73 0 (Int.toNat a2) - 1)) g4s g4v) ?_
      refine qm_G.s1 rfl (qm_x_pushI (-1) rfl) ?_
      refine qm_y_icmp_eq rfl ⟨by omega, by omega⟩ ⟨by decide, by decide⟩ (fun c5 => ?_) (fun c5 => ?_)
      · refine qm_G.sp (lv1 := [(0, qm_R (some (0, 0, 0))), (1, qm_I (qm_i 0)), (3, qm_I (qm_i a3)), (4, qm_R (some (0, q3, 0)))]) rfl rfl (qm_x_aload rfl) ?_
        refine qm_G.s1 rfl (qm_x_getfI (v := (J 73 0 (Int.toNat a2) - 1)) g4s g4v) ?_
        refine qm_G.s1 rfl (qm_x_pushI (-1) rfl) ?_
        refine qm_G.s1 rfl (qm_x_icmp_eq_t ⟨by omega, by omega⟩ ⟨by decide, by decide⟩ (by omega)) ?_
        refine qm_G.sp (lv1 := []) rfl rfl (qm_x_pushI 100 rfl) ?_
        refine qm_G.ret rfl rfl ⟨_, rfl, ?_⟩
        refine qm_G.s1 rfl (qm_x_aload rfl) ?_
        refine qm_G.s1 rfl (qm_x_aload rfl) ?_
        refine qm_G.s1 rfl (qm_x_iload rfl) ?_
        refine qm_G.s1 rfl (qm_x_pushI 1 rfl) ?_
        refine qm_G.s1 rfl (qm_x_iadd) ?_
        refine qm_G.s1 rfl (qm_x_iald2v (v := 0) (by omega) (by omega) hX e1) ?_
        refine qm_G.s1 rfl (qm_x_aload rfl) ?_
        refine qm_G.s1 rfl (qm_x_iload rfl) ?_
        refine qm_G.s1 rfl (qm_x_pushI 2 rfl) ?_
        refine qm_G.s1 rfl (qm_x_iadd) ?_
        refine qm_G.s1 rfl (qm_x_iald2v (v := a2) (by omega) (by omega) hX e2) ?_
        refine qm_G.s1 rfl (qm_x_aload rfl) ?_
        refine qm_G.s1 rfl (qm_x_iload rfl) ?_
        refine qm_G.s1 rfl (qm_x_pushI 3 rfl) ?_
        refine qm_G.s1 rfl (qm_x_iadd) ?_
        refine qm_G.s1 rfl (qm_x_iald2v (v := a3) (by omega) (by omega) hX e3) ?_
        refine qm_G.cm rfl rfl (hS 61 rfl) rfl ?_
        refine qm_C.go (cd := qm_P126) (lv := [(0, qm_R (some (0, 61, 0))), (1, qm_I (qm_i 0)), (2, qm_I (qm_i a2)), (3, qm_I (qm_i a3))]) rfl rfl ?_
        refine qm_G.s1 rfl (qm_x_iload rfl) ?_
        refine qm_G.cs rfl rfl rfl ?_
        refine qm_C.go (cd := qm_P83) (lv := [(0, qm_I (qm_i 0))]) rfl rfl ?_
        refine qm_G.s1 rfl (qm_x_iload rfl) ?_
        refine qm_G.s1 rfl (qm_x_pushI 0 rfl) ?_
        refine qm_G.s1 rfl (qm_x_pushI 1 rfl) ?_
        refine qm_G.cs rfl rfl rfl ?_
        refine qm_v_within11_t ⟨by decide, by decide⟩ ⟨by decide, by decide⟩ ⟨by decide, by decide⟩ (by decide) ⟨_, rfl, ?_⟩
        refine qm_G.ret rfl rfl ⟨_, rfl, ?_⟩
        refine qm_G.s1 rfl (qm_x_if_eq_f ⟨by decide, by decide⟩ (by decide)) ?_
        refine qm_G.s1 rfl (qm_x_iload rfl) ?_
        refine qm_G.cs rfl rfl rfl ?_
        refine qm_C.go (cd := qm_P86) (lv := [(0, qm_I (qm_i a2))]) rfl rfl ?_
        refine qm_G.s1 rfl (qm_x_iload rfl) ?_
        refine qm_G.s1 rfl (qm_x_pushI 0 rfl) ?_
        refine qm_G.s1 rfl (qm_x_pushI 5 rfl) ?_
        refine qm_G.cs rfl rfl rfl ?_
        refine qm_v_within11_t ⟨by omega, by omega⟩ ⟨by decide, by decide⟩ ⟨by decide, by decide⟩ (by omega) ⟨_, rfl, ?_⟩
        refine qm_G.ret rfl rfl ⟨_, rfl, ?_⟩
        refine qm_G.s1 rfl (qm_x_if_ne_t ⟨by decide, by decide⟩ (by decide)) ?_
        refine qm_G.sp (lv1 := [(0, qm_R (some (0, 61, 0))), (1, qm_I (qm_i 0)), (2, qm_I (qm_i a2)), (3, qm_I (qm_i a3))]) rfl rfl (qm_x_aload rfl) ?_
        refine qm_G.s1 rfl (qm_x_getfR (q := (some (0, 73, 0))) (hS 61 rfl) (hR 61 20 73 rfl rfl)) ?_
        refine qm_G.s1 rfl (qm_x_iload rfl) ?_
        refine qm_G.s1 rfl (qm_x_iald (v := (J 73 0 (Int.toNat a2))) (qm_arS hS rfl rfl) rfl (by omega) (by omega) (by decide) rfl) ?_
        refine qm_G.s1 rfl (qm_x_pushI 1 rfl) ?_
        refine qm_G.s1 rfl (qm_x_icmp_le_t ⟨by omega, by omega⟩ ⟨by decide, by decide⟩ (by omega)) ?_
        refine qm_G.sp (lv1 := [(0, qm_R (some (0, 61, 0))), (1, qm_I (qm_i 0)), (2, qm_I (qm_i a2)), (3, qm_I (qm_i a3))]) rfl rfl (qm_x_aload rfl) ?_
        refine qm_G.s1 rfl (qm_x_getfR (q := (some (0, 73, 0))) (hS 61 rfl) (hR 61 20 73 rfl rfl)) ?_
        refine qm_G.s1 rfl (qm_x_iload rfl) ?_
        refine qm_G.s1 rfl (qm_x_iald (v := (J 73 0 (Int.toNat a2))) (qm_arS hS rfl rfl) rfl (by omega) (by omega) (by decide) rfl) ?_
        refine qm_G.s1 rfl (qm_x_if_eq_t ⟨by omega, by omega⟩ (by omega)) ?_
        refine qm_G.sp (lv1 := []) rfl rfl (qm_x_pushI 100 rfl) ?_
        refine qm_G.ret rfl rfl ⟨_, rfl, ?_⟩
        refine qm_G.s1 rfl (qm_x_icmp_eq_t ⟨by decide, by decide⟩ ⟨by decide, by decide⟩ (by decide)) ?_
        exact ih _ _ _ _ _ _ hI.next
      · refine qm_G.s1 rfl (qm_x_aload rfl) ?_
        refine qm_G.s1 rfl (qm_x_getfI (v := (J 73 0 (Int.toNat a2) - 1)) g4s g4v) ?_
        refine qm_y_if_eq rfl ⟨by omega, by omega⟩ (fun c8 => ?_) (fun c8 => ?_)
        · refine qm_G.sp (lv1 := [(0, qm_R (some (0, 0, 0))), (1, qm_I (qm_i 0)), (3, qm_I (qm_i a3)), (4, qm_R (some (0, q3, 0)))]) rfl rfl (qm_x_aload rfl) ?_
          refine qm_G.s1 rfl (qm_x_getfI (v := (J 73 0 (Int.toNat a2) - 1)) g4s g4v) ?_
          refine qm_G.s1 rfl (qm_x_pushI (-1) rfl) ?_
          refine qm_G.s1 rfl (qm_x_icmp_eq_f ⟨by omega, by omega⟩ ⟨by decide, by decide⟩ (by omega)) ?_
          refine qm_G.s1 rfl (qm_x_iload rfl) ?_
          refine qm_y_if_ge rfl ⟨by omega, by omega⟩ (fun c9 => ?_) (fun c9 => ?_)
          · refine qm_G.sp (lv1 := [(0, qm_R (some (0, 0, 0))), (1, qm_I (qm_i 0)), (3, qm_I (qm_i a3)), (4, qm_R (some (0, q3, 0)))]) rfl rfl (qm_x_aload rfl) ?_
            refine qm_G.cm rfl rfl (hS 0 rfl) rfl ?_
            refine qm_C.go (cd := qm_P19) (lv := [(0, qm_R (some (0, 0, 0)))]) rfl rfl ?_
            refine qm_G.s1 rfl (qm_x_aload rfl) ?_
            refine qm_G.s1 rfl (qm_x_getfR (q := (some (0, 1, 0))) (hS 0 rfl) (hR 0 0 1 rfl rfl)) ?_
            refine qm_G.s1 rfl (qm_x_getfR (q := (some (0, 2, 0))) (hS 1 rfl) (hR 1 0 2 rfl rfl)) ?_
            refine qm_G.s1 rfl (qm_x_getfR (q := (some (0, 3, 0))) (hS 2 rfl) (hR 2 0 3 rfl rfl)) ?_
            refine qm_G.s1 rfl (qm_x_pushI 1 rfl) ?_
            have f62_1 : 1 ≤ J 62 0 1 ∧ J 62 0 1 ≤ 8 := hI.mk.r1
            have f3_1 : J 3 0 1 = J 62 0 1 := hI.mk.set 1 (by decide)
            refine qm_G.s1 rfl (qm_x_iald (v := (J 3 0 1)) (qm_arS hS rfl rfl) rfl (by decide) (by decide) (by decide) rfl) ?_
            refine qm_G.ret rfl rfl ⟨_, rfl, ?_⟩
            refine qm_G.s1 rfl (qm_x_istore (lv' := [(5, qm_I (qm_i (J 3 0 1))), (0, qm_R (some (0, 0, 0))), (1, qm_I (qm_i 0)), (3, qm_I (qm_i a3)), (4, qm_R (some (0, q3, 0)))]) rfl) ?_
            refine qm_G.s1 rfl (qm_x_pushI 0 rfl) ?_
            refine qm_G.s1 rfl (qm_x_istore (lv' := [(6, qm_I (qm_i 0)), (5, qm_I (qm_i (J 3 0 1))), (0, qm_R (some (0, 0, 0))), (1, qm_I (qm_i 0)), (3, qm_I (qm_i a3)), (4, qm_R (some (0, q3, 0)))]) rfl) ?_
            rw [f3_1]
            have rl9 := hI.mk.r1
            obtain ⟨M, hM9⟩ : ∃ M, M = qm_jd (J 74 0 (Int.toNat a2)) a3 (fun x => L 75 0 (60 * Int.toNat a2 + Int.toNat x)) (fun k => J 62 0 (62 + 2 * Int.toNat (k - J 62 0 1 + 8))) (Int.toNat (2 * J 62 0 1 + 1)) 0 := ⟨_, rfl⟩
            have rM : -5 ≤ M ∧ M ≤ 200 := by rw [hM9]; have h9 := qm_jd_rng (ln := J 74 0 (Int.toNat a2)) (i := a3) (f := (fun x => L 75 0 (60 * Int.toNat a2 + Int.toNat x))) (b := (fun k => J 62 0 (62 + 2 * Int.toNat (k - J 62 0 1 + 8)))) (Int.toNat (2 * J 62 0 1 + 1)) 0 (by decide); omega
            have rb9 : ∀ k : Int, 0 ≤ k → k ≤ 2 * J 62 0 1 → 0 ≤ J 62 0 (62 + 2 * Int.toNat (k - J 62 0 1 + 8)) ∧ J 62 0 (62 + 2 * Int.toNat (k - J 62 0 1 + 8)) ≤ 6 := fun k h1 h2 => (hI.nt.rrule (Int.toNat (k - J 62 0 1 + 8)) (by omega)).1
            refine qm_G.pk (lv1 := [(0, qm_R (some (0, 0, 0))), (1, qm_I (qm_i 0)), (3, qm_I (qm_i a3)), (4, qm_R (some (0, q3, 0))), (5, qm_I (qm_i (J 62 0 1))), (6, qm_I (qm_i 0))]) rfl rfl rfl ?_
            refine qm_d_jd0 (lim := J 62 0 1) (i := a3) (ln := J 74 0 (Int.toNat a2)) (f := (fun x => L 75 0 (60 * Int.toNat a2 + Int.toNat x))) (b := (fun k => J 62 0 (62 + 2 * Int.toNat (k - J 62 0 1 + 8)))) hS hR rl9 (by omega) g4y rb9 g4s g4t g4u g4x (fun x y h1 h2 h3 => by subst h1; exact g4z _ (by omega)) (fun k y h1 h2 h3 => by subst h1; exact (hI.nt.rule (Int.toNat (k - J 62 0 1 + 8)) (by omega)).1) (Int.toNat (2 * J 62 0 1 + 1)) 0 (by omega) (by decide) ?_
            rw [← hM9]
            refine ⟨_, rfl, ?_⟩
            refine qm_G.s1 rfl (qm_x_aload rfl) ?_
            refine qm_G.s1 rfl (qm_x_aload rfl) ?_
            refine qm_G.s1 rfl (qm_x_iload rfl) ?_
            refine qm_G.s1 rfl (qm_x_pushI 1 rfl) ?_
            refine qm_G.s1 rfl (qm_x_iadd) ?_
            refine qm_G.s1 rfl (qm_x_iald2v (v := 0) (by omega) (by omega) hX e1) ?_
            refine qm_G.s1 rfl (qm_x_aload rfl) ?_
            refine qm_G.s1 rfl (qm_x_iload rfl) ?_
            refine qm_G.s1 rfl (qm_x_pushI 2 rfl) ?_
            refine qm_G.s1 rfl (qm_x_iadd) ?_
            refine qm_G.s1 rfl (qm_x_iald2v (v := a2) (by omega) (by omega) hX e2) ?_
            refine qm_G.s1 rfl (qm_x_aload rfl) ?_
            refine qm_G.s1 rfl (qm_x_iload rfl) ?_
            refine qm_G.s1 rfl (qm_x_pushI 3 rfl) ?_
            refine qm_G.s1 rfl (qm_x_iadd) ?_
            refine qm_G.s1 rfl (qm_x_iald2v (v := a3) (by omega) (by omega) hX e3) ?_
            refine qm_G.cm rfl rfl (hS 61 rfl) rfl ?_
            refine qm_C.go (cd := qm_P126) (lv := [(0, qm_R (some (0, 61, 0))), (1, qm_I (qm_i 0)), (2, qm_I (qm_i a2)), (3, qm_I (qm_i a3))]) rfl rfl ?_
            refine qm_G.s1 rfl (qm_x_iload rfl) ?_
            refine qm_G.cs rfl rfl rfl ?_
            refine qm_C.go (cd := qm_P83) (lv := [(0, qm_I (qm_i 0))]) rfl rfl ?_
            refine qm_G.s1 rfl (qm_x_iload rfl) ?_
            refine qm_G.s1 rfl (qm_x_pushI 0 rfl) ?_
            refine qm_G.s1 rfl (qm_x_pushI 1 rfl) ?_
            refine qm_G.cs rfl rfl rfl ?_
            refine qm_v_within11_t ⟨by decide, by decide⟩ ⟨by decide, by decide⟩ ⟨by decide, by decide⟩ (by decide) ⟨_, rfl, ?_⟩
            refine qm_G.ret rfl rfl ⟨_, rfl, ?_⟩
            refine qm_G.s1 rfl (qm_x_if_eq_f ⟨by decide, by decide⟩ (by decide)) ?_
            refine qm_G.s1 rfl (qm_x_iload rfl) ?_
            refine qm_G.cs rfl rfl rfl ?_
            refine qm_C.go (cd := qm_P86) (lv := [(0, qm_I (qm_i a2))]) rfl rfl ?_
            refine qm_G.s1 rfl (qm_x_iload rfl) ?_
            refine qm_G.s1 rfl (qm_x_pushI 0 rfl) ?_
            refine qm_G.s1 rfl (qm_x_pushI 5 rfl) ?_
            refine qm_G.cs rfl rfl rfl ?_
            refine qm_v_within11_t ⟨by omega, by omega⟩ ⟨by decide, by decide⟩ ⟨by decide, by decide⟩ (by omega) ⟨_, rfl, ?_⟩
            refine qm_G.ret rfl rfl ⟨_, rfl, ?_⟩
            refine qm_G.s1 rfl (qm_x_if_ne_t ⟨by decide, by decide⟩ (by decide)) ?_
            refine qm_G.sp (lv1 := [(0, qm_R (some (0, 61, 0))), (1, qm_I (qm_i 0)), (2, qm_I (qm_i a2)), (3, qm_I (qm_i a3))]) rfl rfl (qm_x_aload rfl) ?_
            refine qm_G.s1 rfl (qm_x_getfR (q := (some (0, 73, 0))) (hS 61 rfl) (hR 61 20 73 rfl rfl)) ?_
            refine qm_G.s1 rfl (qm_x_iload rfl) ?_
            refine qm_G.s1 rfl (qm_x_iald (v := (J 73 0 (Int.toNat a2))) (qm_arS hS rfl rfl) rfl (by omega) (by omega) (by decide) rfl) ?_
            refine qm_G.s1 rfl (qm_x_pushI 1 rfl) ?_
            refine qm_G.s1 rfl (qm_x_icmp_le_t ⟨by omega, by omega⟩ ⟨by decide, by decide⟩ (by omega)) ?_
            refine qm_G.sp (lv1 := [(0, qm_R (some (0, 61, 0))), (1, qm_I (qm_i 0)), (2, qm_I (qm_i a2)), (3, qm_I (qm_i a3))]) rfl rfl (qm_x_aload rfl) ?_
            refine qm_G.s1 rfl (qm_x_getfR (q := (some (0, 73, 0))) (hS 61 rfl) (hR 61 20 73 rfl rfl)) ?_
            refine qm_G.s1 rfl (qm_x_iload rfl) ?_
            refine qm_G.s1 rfl (qm_x_iald (v := (J 73 0 (Int.toNat a2))) (qm_arS hS rfl rfl) rfl (by omega) (by omega) (by decide) rfl) ?_
            refine qm_G.s1 rfl (qm_x_if_eq_f ⟨by omega, by omega⟩ (by omega)) ?_
            refine qm_G.s1 rfl (qm_x_iload rfl) ?_
            refine qm_G.s1 rfl (qm_x_if_ge_t ⟨by omega, by omega⟩ (by omega)) ?_
            refine qm_G.sp (lv1 := [(0, qm_R (some (0, 61, 0))), (1, qm_I (qm_i 0)), (2, qm_I (qm_i a2)), (3, qm_I (qm_i a3))]) rfl rfl (qm_x_pushI 2 rfl) ?_
            refine qm_G.s1 rfl (qm_x_aload rfl) ?_
            refine qm_G.s1 rfl (qm_x_getfR (q := (some (0, 62, 0))) (hS 61 rfl) (hR 61 0 62 rfl rfl)) ?_
            refine qm_G.s1 rfl (qm_x_pushI 1 rfl) ?_
            refine qm_G.s1 rfl (qm_x_iald (v := (J 62 0 1)) (qm_arS hS rfl rfl) rfl (by decide) (by decide) (by decide) rfl) ?_
            refine qm_G.s1 rfl (qm_x_imul) ?_
            refine qm_G.s1 rfl (qm_x_pushI 1 rfl) ?_
            refine qm_G.s1 rfl (qm_x_iadd) ?_
            refine qm_G.s1 rfl (qm_x_istore (lv' := [(4, qm_I (qm_i ((2 * (J 62 0 1)) + 1))), (0, qm_R (some (0, 61, 0))), (1, qm_I (qm_i 0)), (2, qm_I (qm_i a2)), (3, qm_I (qm_i a3))]) rfl) ?_
            refine qm_G.s1 rfl (qm_x_pushI 0 rfl) ?_
            refine qm_G.s1 rfl (qm_x_istore (lv' := [(5, qm_I (qm_i 0)), (4, qm_I (qm_i ((2 * (J 62 0 1)) + 1))), (0, qm_R (some (0, 61, 0))), (1, qm_I (qm_i 0)), (2, qm_I (qm_i a2)), (3, qm_I (qm_i a3))]) rfl) ?_
            refine qm_G.pk (lv1 := [(0, qm_R (some (0, 61, 0))), (1, qm_I (qm_i 0)), (2, qm_I (qm_i a2)), (3, qm_I (qm_i a3)), (4, qm_I (qm_i (2 * J 62 0 1 + 1))), (5, qm_I (qm_i 0))]) rfl rfl rfl ?_
            refine qm_m_jd0 (T := a2) (lim := J 62 0 1) (i := a3) (ln := J 74 0 (Int.toNat a2)) (f := (fun x => L 75 0 (60 * Int.toNat a2 + Int.toNat x))) (b := (fun k => J 62 0 (62 + 2 * Int.toNat (k - J 62 0 1 + 8)))) hS hR rl9 (by omega) g4y rb9 (by omega) rfl rfl (fun x y h1 h2 h3 => by subst h1; exact congrArg (L 75 0) (by omega)) (fun k y h1 h2 h3 => by subst h1; exact congrArg (J 62 0) (by omega)) (Int.toNat (2 * J 62 0 1 + 1)) 0 (by omega) (by decide) ?_
            rw [← hM9]
            refine ⟨_, rfl, ?_⟩
            refine qm_G.s1 rfl (qm_x_icmp_eq_t ⟨by omega, by omega⟩ ⟨by omega, by omega⟩ (by omega)) ?_
            exact ih _ _ _ _ _ _ hI.next
          · refine qm_G.sp (lv1 := []) rfl rfl (qm_x_pushI 100 rfl) ?_
            refine qm_G.ret rfl rfl ⟨_, rfl, ?_⟩
            refine qm_G.s1 rfl (qm_x_aload rfl) ?_
            refine qm_G.s1 rfl (qm_x_aload rfl) ?_
            refine qm_G.s1 rfl (qm_x_iload rfl) ?_
            refine qm_G.s1 rfl (qm_x_pushI 1 rfl) ?_
            refine qm_G.s1 rfl (qm_x_iadd) ?_
            refine qm_G.s1 rfl (qm_x_iald2v (v := 0) (by omega) (by omega) hX e1) ?_
            refine qm_G.s1 rfl (qm_x_aload rfl) ?_
            refine qm_G.s1 rfl (qm_x_iload rfl) ?_
            refine qm_G.s1 rfl (qm_x_pushI 2 rfl) ?_
            refine qm_G.s1 rfl (qm_x_iadd) ?_
            refine qm_G.s1 rfl (qm_x_iald2v (v := a2) (by omega) (by omega) hX e2) ?_
            refine qm_G.s1 rfl (qm_x_aload rfl) ?_
            refine qm_G.s1 rfl (qm_x_iload rfl) ?_
            refine qm_G.s1 rfl (qm_x_pushI 3 rfl) ?_
            refine qm_G.s1 rfl (qm_x_iadd) ?_
            refine qm_G.s1 rfl (qm_x_iald2v (v := a3) (by omega) (by omega) hX e3) ?_
            refine qm_G.cm rfl rfl (hS 61 rfl) rfl ?_
            refine qm_C.go (cd := qm_P126) (lv := [(0, qm_R (some (0, 61, 0))), (1, qm_I (qm_i 0)), (2, qm_I (qm_i a2)), (3, qm_I (qm_i a3))]) rfl rfl ?_
            refine qm_G.s1 rfl (qm_x_iload rfl) ?_
            refine qm_G.cs rfl rfl rfl ?_
            refine qm_C.go (cd := qm_P83) (lv := [(0, qm_I (qm_i 0))]) rfl rfl ?_
            refine qm_G.s1 rfl (qm_x_iload rfl) ?_
            refine qm_G.s1 rfl (qm_x_pushI 0 rfl) ?_
            refine qm_G.s1 rfl (qm_x_pushI 1 rfl) ?_
            refine qm_G.cs rfl rfl rfl ?_
            refine qm_v_within11_t ⟨by decide, by decide⟩ ⟨by decide, by decide⟩ ⟨by decide, by decide⟩ (by decide) ⟨_, rfl, ?_⟩
            refine qm_G.ret rfl rfl ⟨_, rfl, ?_⟩
            refine qm_G.s1 rfl (qm_x_if_eq_f ⟨by decide, by decide⟩ (by decide)) ?_
            refine qm_G.s1 rfl (qm_x_iload rfl) ?_
            refine qm_G.cs rfl rfl rfl ?_
            refine qm_C.go (cd := qm_P86) (lv := [(0, qm_I (qm_i a2))]) rfl rfl ?_
            refine qm_G.s1 rfl (qm_x_iload rfl) ?_
            refine qm_G.s1 rfl (qm_x_pushI 0 rfl) ?_
            refine qm_G.s1 rfl (qm_x_pushI 5 rfl) ?_
            refine qm_G.cs rfl rfl rfl ?_
            refine qm_v_within11_t ⟨by omega, by omega⟩ ⟨by decide, by decide⟩ ⟨by decide, by decide⟩ (by omega) ⟨_, rfl, ?_⟩
            refine qm_G.ret rfl rfl ⟨_, rfl, ?_⟩
            refine qm_G.s1 rfl (qm_x_if_ne_t ⟨by decide, by decide⟩ (by decide)) ?_
            refine qm_G.sp (lv1 := [(0, qm_R (some (0, 61, 0))), (1, qm_I (qm_i 0)), (2, qm_I (qm_i a2)), (3, qm_I (qm_i a3))]) rfl rfl (qm_x_aload rfl) ?_
            refine qm_G.s1 rfl (qm_x_getfR (q := (some (0, 73, 0))) (hS 61 rfl) (hR 61 20 73 rfl rfl)) ?_
            refine qm_G.s1 rfl (qm_x_iload rfl) ?_
            refine qm_G.s1 rfl (qm_x_iald (v := (J 73 0 (Int.toNat a2))) (qm_arS hS rfl rfl) rfl (by omega) (by omega) (by decide) rfl) ?_
            refine qm_G.s1 rfl (qm_x_pushI 1 rfl) ?_
            refine qm_G.s1 rfl (qm_x_icmp_le_t ⟨by omega, by omega⟩ ⟨by decide, by decide⟩ (by omega)) ?_
            refine qm_G.sp (lv1 := [(0, qm_R (some (0, 61, 0))), (1, qm_I (qm_i 0)), (2, qm_I (qm_i a2)), (3, qm_I (qm_i a3))]) rfl rfl (qm_x_aload rfl) ?_
            refine qm_G.s1 rfl (qm_x_getfR (q := (some (0, 73, 0))) (hS 61 rfl) (hR 61 20 73 rfl rfl)) ?_
            refine qm_G.s1 rfl (qm_x_iload rfl) ?_
            refine qm_G.s1 rfl (qm_x_iald (v := (J 73 0 (Int.toNat a2))) (qm_arS hS rfl rfl) rfl (by omega) (by omega) (by decide) rfl) ?_
            refine qm_G.s1 rfl (qm_x_if_eq_f ⟨by omega, by omega⟩ (by omega)) ?_
            refine qm_G.s1 rfl (qm_x_iload rfl) ?_
            refine qm_G.s1 rfl (qm_x_if_ge_f ⟨by omega, by omega⟩ (by omega)) ?_
            refine qm_G.sp (lv1 := []) rfl rfl (qm_x_pushI 100 rfl) ?_
            refine qm_G.ret rfl rfl ⟨_, rfl, ?_⟩
            refine qm_G.s1 rfl (qm_x_icmp_eq_t ⟨by decide, by decide⟩ ⟨by decide, by decide⟩ (by decide)) ?_
            exact ih _ _ _ _ _ _ hI.next
        · refine qm_G.s1 rfl (qm_x_pushI (-12) rfl) ?_
          refine qm_G.ret rfl rfl ⟨_, rfl, ?_⟩
          refine qm_G.s1 rfl (qm_x_aload rfl) ?_
          refine qm_G.s1 rfl (qm_x_aload rfl) ?_
          refine qm_G.s1 rfl (qm_x_iload rfl) ?_
          refine qm_G.s1 rfl (qm_x_pushI 1 rfl) ?_
          refine qm_G.s1 rfl (qm_x_iadd) ?_
          refine qm_G.s1 rfl (qm_x_iald2v (v := 0) (by omega) (by omega) hX e1) ?_
          refine qm_G.s1 rfl (qm_x_aload rfl) ?_
          refine qm_G.s1 rfl (qm_x_iload rfl) ?_
          refine qm_G.s1 rfl (qm_x_pushI 2 rfl) ?_
          refine qm_G.s1 rfl (qm_x_iadd) ?_
          refine qm_G.s1 rfl (qm_x_iald2v (v := a2) (by omega) (by omega) hX e2) ?_
          refine qm_G.s1 rfl (qm_x_aload rfl) ?_
          refine qm_G.s1 rfl (qm_x_iload rfl) ?_
          refine qm_G.s1 rfl (qm_x_pushI 3 rfl) ?_
          refine qm_G.s1 rfl (qm_x_iadd) ?_
          refine qm_G.s1 rfl (qm_x_iald2v (v := a3) (by omega) (by omega) hX e3) ?_
          refine qm_G.cm rfl rfl (hS 61 rfl) rfl ?_
          refine qm_C.go (cd := qm_P126) (lv := [(0, qm_R (some (0, 61, 0))), (1, qm_I (qm_i 0)), (2, qm_I (qm_i a2)), (3, qm_I (qm_i a3))]) rfl rfl ?_
          refine qm_G.s1 rfl (qm_x_iload rfl) ?_
          refine qm_G.cs rfl rfl rfl ?_
          refine qm_C.go (cd := qm_P83) (lv := [(0, qm_I (qm_i 0))]) rfl rfl ?_
          refine qm_G.s1 rfl (qm_x_iload rfl) ?_
          refine qm_G.s1 rfl (qm_x_pushI 0 rfl) ?_
          refine qm_G.s1 rfl (qm_x_pushI 1 rfl) ?_
          refine qm_G.cs rfl rfl rfl ?_
          refine qm_v_within11_t ⟨by decide, by decide⟩ ⟨by decide, by decide⟩ ⟨by decide, by decide⟩ (by decide) ⟨_, rfl, ?_⟩
          refine qm_G.ret rfl rfl ⟨_, rfl, ?_⟩
          refine qm_G.s1 rfl (qm_x_if_eq_f ⟨by decide, by decide⟩ (by decide)) ?_
          refine qm_G.s1 rfl (qm_x_iload rfl) ?_
          refine qm_G.cs rfl rfl rfl ?_
          refine qm_C.go (cd := qm_P86) (lv := [(0, qm_I (qm_i a2))]) rfl rfl ?_
          refine qm_G.s1 rfl (qm_x_iload rfl) ?_
          refine qm_G.s1 rfl (qm_x_pushI 0 rfl) ?_
          refine qm_G.s1 rfl (qm_x_pushI 5 rfl) ?_
          refine qm_G.cs rfl rfl rfl ?_
          refine qm_v_within11_t ⟨by omega, by omega⟩ ⟨by decide, by decide⟩ ⟨by decide, by decide⟩ (by omega) ⟨_, rfl, ?_⟩
          refine qm_G.ret rfl rfl ⟨_, rfl, ?_⟩
          refine qm_G.s1 rfl (qm_x_if_ne_t ⟨by decide, by decide⟩ (by decide)) ?_
          refine qm_G.sp (lv1 := [(0, qm_R (some (0, 61, 0))), (1, qm_I (qm_i 0)), (2, qm_I (qm_i a2)), (3, qm_I (qm_i a3))]) rfl rfl (qm_x_aload rfl) ?_
          refine qm_G.s1 rfl (qm_x_getfR (q := (some (0, 73, 0))) (hS 61 rfl) (hR 61 20 73 rfl rfl)) ?_
          refine qm_G.s1 rfl (qm_x_iload rfl) ?_
          refine qm_G.s1 rfl (qm_x_iald (v := (J 73 0 (Int.toNat a2))) (qm_arS hS rfl rfl) rfl (by omega) (by omega) (by decide) rfl) ?_
          refine qm_G.s1 rfl (qm_x_pushI 1 rfl) ?_
          refine qm_G.s1 rfl (qm_x_icmp_le_f ⟨by omega, by omega⟩ ⟨by decide, by decide⟩ (by omega)) ?_
          refine qm_G.s1 rfl (qm_x_pushI (-12) rfl) ?_
          refine qm_G.ret rfl rfl ⟨_, rfl, ?_⟩
          refine qm_G.s1 rfl (qm_x_icmp_eq_t ⟨by decide, by decide⟩ ⟨by decide, by decide⟩ (by decide)) ?_
          exact ih _ _ _ _ _ _ hI.next
    · refine qm_G.ret rfl rfl ⟨_, rfl, ?_⟩
      refine qm_G.s1 rfl (qm_x_if_ne_f ⟨by decide, by decide⟩ (by decide)) ?_
      refine qm_G.sp (lv1 := []) rfl rfl (qm_x_pushI (-1) rfl) ?_
      refine qm_G.ret rfl rfl ⟨_, rfl, ?_⟩
      refine qm_G.s1 rfl (qm_x_aload rfl) ?_
      refine qm_G.s1 rfl (qm_x_aload rfl) ?_
      refine qm_G.s1 rfl (qm_x_iload rfl) ?_
      refine qm_G.s1 rfl (qm_x_pushI 1 rfl) ?_
      refine qm_G.s1 rfl (qm_x_iadd) ?_
      refine qm_G.s1 rfl (qm_x_iald2v (v := 0) (by omega) (by omega) hX e1) ?_
      refine qm_G.s1 rfl (qm_x_aload rfl) ?_
      refine qm_G.s1 rfl (qm_x_iload rfl) ?_
      refine qm_G.s1 rfl (qm_x_pushI 2 rfl) ?_
      refine qm_G.s1 rfl (qm_x_iadd) ?_
      refine qm_G.s1 rfl (qm_x_iald2v (v := a2) (by omega) (by omega) hX e2) ?_
      refine qm_G.s1 rfl (qm_x_aload rfl) ?_
      refine qm_G.s1 rfl (qm_x_iload rfl) ?_
      refine qm_G.s1 rfl (qm_x_pushI 3 rfl) ?_
      refine qm_G.s1 rfl (qm_x_iadd) ?_
      refine qm_G.s1 rfl (qm_x_iald2v (v := a3) (by omega) (by omega) hX e3) ?_
      refine qm_G.cm rfl rfl (hS 61 rfl) rfl ?_
      refine qm_C.go (cd := qm_P126) (lv := [(0, qm_R (some (0, 61, 0))), (1, qm_I (qm_i 0)), (2, qm_I (qm_i a2)), (3, qm_I (qm_i a3))]) rfl rfl ?_
      refine qm_G.s1 rfl (qm_x_iload rfl) ?_
      refine qm_G.cs rfl rfl rfl ?_
      refine qm_C.go (cd := qm_P83) (lv := [(0, qm_I (qm_i 0))]) rfl rfl ?_
      refine qm_G.s1 rfl (qm_x_iload rfl) ?_
      refine qm_G.s1 rfl (qm_x_pushI 0 rfl) ?_
      refine qm_G.s1 rfl (qm_x_pushI 1 rfl) ?_
      refine qm_G.cs rfl rfl rfl ?_
      refine qm_v_within11_t ⟨by decide, by decide⟩ ⟨by decide, by decide⟩ ⟨by decide, by decide⟩ (by decide) ⟨_, rfl, ?_⟩
      refine qm_G.ret rfl rfl ⟨_, rfl, ?_⟩
      refine qm_G.s1 rfl (qm_x_if_eq_f ⟨by decide, by decide⟩ (by decide)) ?_
      refine qm_G.s1 rfl (qm_x_iload rfl) ?_
      refine qm_G.cs rfl rfl rfl ?_
      refine qm_C.go (cd := qm_P86) (lv := [(0, qm_I (qm_i a2))]) rfl rfl ?_
      refine qm_G.s1 rfl (qm_x_iload rfl) ?_
      refine qm_G.s1 rfl (qm_x_pushI 0 rfl) ?_
      refine qm_G.s1 rfl (qm_x_pushI 5 rfl) ?_
      refine qm_G.cs rfl rfl rfl ?_
      refine qm_v_within11_f ⟨by omega, by omega⟩ ⟨by decide, by decide⟩ ⟨by decide, by decide⟩ (by omega) ⟨_, rfl, ?_⟩
      refine qm_G.ret rfl rfl ⟨_, rfl, ?_⟩
      refine qm_G.s1 rfl (qm_x_if_ne_f ⟨by decide, by decide⟩ (by decide)) ?_
      refine qm_G.sp (lv1 := []) rfl rfl (qm_x_pushI (-1) rfl) ?_
      refine qm_G.ret rfl rfl ⟨_, rfl, ?_⟩
      refine qm_G.s1 rfl (qm_x_icmp_eq_t ⟨by decide, by decide⟩ ⟨by decide, by decide⟩ (by decide)) ?_
      exact ih _ _ _ _ _ _ hI.next
  · subst d1
    refine qm_G.sp (lv1 := [(0, qm_R (some (2, 0, 0))), (1, qm_R (some (0, 0, 0))), (2, qm_R (some (0, 61, 0))), (3, qm_I (qm_i z))]) rfl rfl (qm_x_aload rfl) ?_
    refine qm_G.s1 rfl (qm_x_aload rfl) ?_
    refine qm_G.s1 rfl (qm_x_iload rfl) ?_
    refine qm_G.s1 rfl (qm_x_pushI 1 rfl) ?_
    refine qm_G.s1 rfl (qm_x_iadd) ?_
    refine qm_G.s1 rfl (qm_x_iald2v (v := 1) (by omega) (by omega) hX e1) ?_
    refine qm_G.s1 rfl (qm_x_aload rfl) ?_
    refine qm_G.s1 rfl (qm_x_iload rfl) ?_
    refine qm_G.s1 rfl (qm_x_pushI 2 rfl) ?_
    refine qm_G.s1 rfl (qm_x_iadd) ?_
    refine qm_G.s1 rfl (qm_x_iald2v (v := a2) (by omega) (by omega) hX e2) ?_
    refine qm_G.s1 rfl (qm_x_aload rfl) ?_
    refine qm_G.s1 rfl (qm_x_iload rfl) ?_
    refine qm_G.s1 rfl (qm_x_pushI 3 rfl) ?_
    refine qm_G.s1 rfl (qm_x_iadd) ?_
    refine qm_G.s1 rfl (qm_x_iald2v (v := a3) (by omega) (by omega) hX e3) ?_
    refine qm_G.cm rfl rfl (hS 0 rfl) rfl ?_
    refine qm_C.go (cd := qm_P115) (lv := [(0, qm_R (some (0, 0, 0))), (1, qm_I (qm_i 1)), (2, qm_I (qm_i a2)), (3, qm_I (qm_i a3))]) rfl rfl ?_
    refine qm_G.s1 rfl (qm_x_iload rfl) ?_
    refine qm_G.cs rfl rfl rfl ?_
    refine qm_C.go (cd := qm_P18) (lv := [(0, qm_I (qm_i 1))]) rfl rfl ?_
    refine qm_G.s1 rfl (qm_x_iload rfl) ?_
    refine qm_G.s1 rfl (qm_x_if_eq_f ⟨by decide, by decide⟩ (by decide)) ?_
    refine qm_G.s1 rfl (qm_x_iload rfl) ?_
    refine qm_G.s1 rfl (qm_x_pushI 1 rfl) ?_
    refine qm_G.s1 rfl (qm_x_icmp_ne_f ⟨by decide, by decide⟩ ⟨by decide, by decide⟩ (by decide)) ?_
    refine qm_G.sp (lv1 := []) rfl rfl (qm_x_pushI 1 rfl) ?_
    refine qm_G.s1 rfl (qm_x_goto) ?_
    refine qm_G.ret rfl rfl ⟨_, rfl, ?_⟩
    refine qm_G.s1 rfl (qm_x_if_eq_f ⟨by decide, by decide⟩ (by decide)) ?_
    refine qm_G.s1 rfl (qm_x_iload rfl) ?_
    refine qm_G.cs rfl rfl rfl ?_
    refine qm_C.go (cd := qm_P76) (lv := [(0, qm_I (qm_i a2))]) rfl rfl ?_
    refine qm_G.s1 rfl (qm_x_iload rfl) ?_
    refine qm_G.s1 rfl (qm_x_pushI 0 rfl) ?_
    refine qm_G.s1 rfl (qm_x_pushI 5 rfl) ?_
    refine qm_G.cs rfl rfl rfl ?_
    refine qm_v_within10 ⟨by omega, by omega⟩ ⟨by decide, by decide⟩ ⟨by decide, by decide⟩ (fun c18 => ⟨_, rfl, ?_⟩) (fun c18 => ⟨_, rfl, ?_⟩)
    · refine qm_G.ret rfl rfl ⟨_, rfl, ?_⟩
      refine qm_G.s1 rfl (qm_x_if_ne_t ⟨by decide, by decide⟩ (by decide)) ?_
      refine qm_G.sp (lv1 := [(0, qm_R (some (0, 0, 0))), (1, qm_I (qm_i 1)), (2, qm_I (qm_i a2)), (3, qm_I (qm_i a3))]) rfl rfl (qm_x_aload rfl) ?_
      refine qm_G.s1 rfl (qm_x_getfR (q := (some (0, 46, 0))) (hS 0 rfl) (hR 0 5 46 rfl rfl)) ?_
      refine qm_G.s1 rfl (qm_x_iload rfl) ?_
      obtain ⟨q19, q19p, ⟨g20a, g20b⟩, g20r, g20s, g20t, g20u, g20v, g20w, g20x, g20y, g20z⟩ := hI.tap (a := a2) (by omega)
      refine qm_G.s1 rfl (qm_x_aaldr (q := (some (0, q19, 0))) (hS 46 rfl) rfl rfl (by omega) (by omega) g20r) ?_
      refine qm_G.s1 rfl (qm_x_astore (lv' := [(4, qm_R (some (0, q19, 0))), (0, qm_R (some (0, 0, 0))), (1, qm_I (qm_i 1)), (2, qm_I (qm_i a2)), (3, qm_I (qm_i a3))]) rfl) ?_
      refine qm_G.s1 rfl (qm_x_aload rfl) ?_
      refine qm_G.s1 rfl (qm_x_getfI (v := (J 73 0 (Int.toNat a2) - 1)) g20s g20v) ?_
      refine qm_G.s1 rfl (qm_x_pushI (-1) rfl) ?_
      refine qm_y_icmp_eq rfl ⟨by omega, by omega⟩ ⟨by decide, by decide⟩ (fun c21 => ?_) (fun c21 => ?_)
      · refine qm_G.sp (lv1 := [(0, qm_R (some (0, 0, 0))), (1, qm_I (qm_i 1)), (3, qm_I (qm_i a3)), (4, qm_R (some (0, q19, 0)))]) rfl rfl (qm_x_aload rfl) ?_
        refine qm_G.s1 rfl (qm_x_getfI (v := (J 73 0 (Int.toNat a2) - 1)) g20s g20v) ?_
        refine qm_G.s1 rfl (qm_x_pushI (-1) rfl) ?_
        refine qm_G.s1 rfl (qm_x_icmp_eq_t ⟨by omega, by omega⟩ ⟨by decide, by decide⟩ (by omega)) ?_
        refine qm_G.sp (lv1 := []) rfl rfl (qm_x_pushI 100 rfl) ?_
        refine qm_G.ret rfl rfl ⟨_, rfl, ?_⟩
        refine qm_G.s1 rfl (qm_x_aload rfl) ?_
        refine qm_G.s1 rfl (qm_x_aload rfl) ?_
        refine qm_G.s1 rfl (qm_x_iload rfl) ?_
        refine qm_G.s1 rfl (qm_x_pushI 1 rfl) ?_
        refine qm_G.s1 rfl (qm_x_iadd) ?_
        refine qm_G.s1 rfl (qm_x_iald2v (v := 1) (by omega) (by omega) hX e1) ?_
        refine qm_G.s1 rfl (qm_x_aload rfl) ?_
        refine qm_G.s1 rfl (qm_x_iload rfl) ?_
        refine qm_G.s1 rfl (qm_x_pushI 2 rfl) ?_
        refine qm_G.s1 rfl (qm_x_iadd) ?_
        refine qm_G.s1 rfl (qm_x_iald2v (v := a2) (by omega) (by omega) hX e2) ?_
        refine qm_G.s1 rfl (qm_x_aload rfl) ?_
        refine qm_G.s1 rfl (qm_x_iload rfl) ?_
        refine qm_G.s1 rfl (qm_x_pushI 3 rfl) ?_
        refine qm_G.s1 rfl (qm_x_iadd) ?_
        refine qm_G.s1 rfl (qm_x_iald2v (v := a3) (by omega) (by omega) hX e3) ?_
        refine qm_G.cm rfl rfl (hS 61 rfl) rfl ?_
        refine qm_C.go (cd := qm_P126) (lv := [(0, qm_R (some (0, 61, 0))), (1, qm_I (qm_i 1)), (2, qm_I (qm_i a2)), (3, qm_I (qm_i a3))]) rfl rfl ?_
        refine qm_G.s1 rfl (qm_x_iload rfl) ?_
        refine qm_G.cs rfl rfl rfl ?_
        refine qm_C.go (cd := qm_P83) (lv := [(0, qm_I (qm_i 1))]) rfl rfl ?_
        refine qm_G.s1 rfl (qm_x_iload rfl) ?_
        refine qm_G.s1 rfl (qm_x_pushI 0 rfl) ?_
        refine qm_G.s1 rfl (qm_x_pushI 1 rfl) ?_
        refine qm_G.cs rfl rfl rfl ?_
        refine qm_v_within11_t ⟨by decide, by decide⟩ ⟨by decide, by decide⟩ ⟨by decide, by decide⟩ (by decide) ⟨_, rfl, ?_⟩
        refine qm_G.ret rfl rfl ⟨_, rfl, ?_⟩
        refine qm_G.s1 rfl (qm_x_if_eq_f ⟨by decide, by decide⟩ (by decide)) ?_
        refine qm_G.s1 rfl (qm_x_iload rfl) ?_
        refine qm_G.cs rfl rfl rfl ?_
        refine qm_C.go (cd := qm_P86) (lv := [(0, qm_I (qm_i a2))]) rfl rfl ?_
        refine qm_G.s1 rfl (qm_x_iload rfl) ?_
        refine qm_G.s1 rfl (qm_x_pushI 0 rfl) ?_
        refine qm_G.s1 rfl (qm_x_pushI 5 rfl) ?_
        refine qm_G.cs rfl rfl rfl ?_
        refine qm_v_within11_t ⟨by omega, by omega⟩ ⟨by decide, by decide⟩ ⟨by decide, by decide⟩ (by omega) ⟨_, rfl, ?_⟩
        refine qm_G.ret rfl rfl ⟨_, rfl, ?_⟩
        refine qm_G.s1 rfl (qm_x_if_ne_t ⟨by decide, by decide⟩ (by decide)) ?_
        refine qm_G.sp (lv1 := [(0, qm_R (some (0, 61, 0))), (1, qm_I (qm_i 1)), (2, qm_I (qm_i a2)), (3, qm_I (qm_i a3))]) rfl rfl (qm_x_aload rfl) ?_
        refine qm_G.s1 rfl (qm_x_getfR (q := (some (0, 73, 0))) (hS 61 rfl) (hR 61 20 73 rfl rfl)) ?_
        refine qm_G.s1 rfl (qm_x_iload rfl) ?_
        refine qm_G.s1 rfl (qm_x_iald (v := (J 73 0 (Int.toNat a2))) (qm_arS hS rfl rfl) rfl (by omega) (by omega) (by decide) rfl) ?_
        refine qm_G.s1 rfl (qm_x_pushI 1 rfl) ?_
        refine qm_G.s1 rfl (qm_x_icmp_le_t ⟨by omega, by omega⟩ ⟨by decide, by decide⟩ (by omega)) ?_
        refine qm_G.sp (lv1 := [(0, qm_R (some (0, 61, 0))), (1, qm_I (qm_i 1)), (2, qm_I (qm_i a2)), (3, qm_I (qm_i a3))]) rfl rfl (qm_x_aload rfl) ?_
        refine qm_G.s1 rfl (qm_x_getfR (q := (some (0, 73, 0))) (hS 61 rfl) (hR 61 20 73 rfl rfl)) ?_
        refine qm_G.s1 rfl (qm_x_iload rfl) ?_
        refine qm_G.s1 rfl (qm_x_iald (v := (J 73 0 (Int.toNat a2))) (qm_arS hS rfl rfl) rfl (by omega) (by omega) (by decide) rfl) ?_
        refine qm_G.s1 rfl (qm_x_if_eq_t ⟨by omega, by omega⟩ (by omega)) ?_
        refine qm_G.sp (lv1 := []) rfl rfl (qm_x_pushI 100 rfl) ?_
        refine qm_G.ret rfl rfl ⟨_, rfl, ?_⟩
        refine qm_G.s1 rfl (qm_x_icmp_eq_t ⟨by decide, by decide⟩ ⟨by decide, by decide⟩ (by decide)) ?_
        exact ih _ _ _ _ _ _ hI.next
      · refine qm_G.s1 rfl (qm_x_aload rfl) ?_
        refine qm_G.s1 rfl (qm_x_getfI (v := (J 73 0 (Int.toNat a2) - 1)) g20s g20v) ?_
        refine qm_y_if_eq rfl ⟨by omega, by omega⟩ (fun c24 => ?_) (fun c24 => ?_)
        · refine qm_G.sp (lv1 := [(0, qm_R (some (0, 0, 0))), (1, qm_I (qm_i 1)), (3, qm_I (qm_i a3)), (4, qm_R (some (0, q19, 0)))]) rfl rfl (qm_x_aload rfl) ?_
          refine qm_G.s1 rfl (qm_x_getfI (v := (J 73 0 (Int.toNat a2) - 1)) g20s g20v) ?_
          refine qm_G.s1 rfl (qm_x_pushI (-1) rfl) ?_
          refine qm_G.s1 rfl (qm_x_icmp_eq_f ⟨by omega, by omega⟩ ⟨by decide, by decide⟩ (by omega)) ?_
          refine qm_G.s1 rfl (qm_x_iload rfl) ?_
          refine qm_y_if_ge rfl ⟨by omega, by omega⟩ (fun c25 => ?_) (fun c25 => ?_)
          · refine qm_G.sp (lv1 := [(0, qm_R (some (0, 0, 0))), (1, qm_I (qm_i 1)), (3, qm_I (qm_i a3)), (4, qm_R (some (0, q19, 0)))]) rfl rfl (qm_x_aload rfl) ?_
            refine qm_G.cm rfl rfl (hS 0 rfl) rfl ?_
            refine qm_C.go (cd := qm_P19) (lv := [(0, qm_R (some (0, 0, 0)))]) rfl rfl ?_
            refine qm_G.s1 rfl (qm_x_aload rfl) ?_
            refine qm_G.s1 rfl (qm_x_getfR (q := (some (0, 1, 0))) (hS 0 rfl) (hR 0 0 1 rfl rfl)) ?_
            refine qm_G.s1 rfl (qm_x_getfR (q := (some (0, 2, 0))) (hS 1 rfl) (hR 1 0 2 rfl rfl)) ?_
            refine qm_G.s1 rfl (qm_x_getfR (q := (some (0, 3, 0))) (hS 2 rfl) (hR 2 0 3 rfl rfl)) ?_
            refine qm_G.s1 rfl (qm_x_pushI 1 rfl) ?_
            have f62_1 : 1 ≤ J 62 0 1 ∧ J 62 0 1 ≤ 8 := hI.mk.r1
            have f3_1 : J 3 0 1 = J 62 0 1 := hI.mk.set 1 (by decide)
            refine qm_G.s1 rfl (qm_x_iald (v := (J 3 0 1)) (qm_arS hS rfl rfl) rfl (by decide) (by decide) (by decide) rfl) ?_
            refine qm_G.ret rfl rfl ⟨_, rfl, ?_⟩
            refine qm_G.s1 rfl (qm_x_istore (lv' := [(5, qm_I (qm_i (J 3 0 1))), (0, qm_R (some (0, 0, 0))), (1, qm_I (qm_i 1)), (3, qm_I (qm_i a3)), (4, qm_R (some (0, q19, 0)))]) rfl) ?_
            refine qm_G.s1 rfl (qm_x_pushI 0 rfl) ?_
            refine qm_G.s1 rfl (qm_x_istore (lv' := [(6, qm_I (qm_i 0)), (5, qm_I (qm_i (J 3 0 1))), (0, qm_R (some (0, 0, 0))), (1, qm_I (qm_i 1)), (3, qm_I (qm_i a3)), (4, qm_R (some (0, q19, 0)))]) rfl) ?_
            rw [f3_1]
            have rl9 := hI.mk.r1
            obtain ⟨M, hM9⟩ : ∃ M, M = qm_jd (J 74 0 (Int.toNat a2)) a3 (fun x => L 75 0 (60 * Int.toNat a2 + Int.toNat x)) (fun k => J 62 0 (63 + 2 * Int.toNat (k - J 62 0 1 + 8))) (Int.toNat (2 * J 62 0 1 + 1)) 0 := ⟨_, rfl⟩
            have rM : -5 ≤ M ∧ M ≤ 200 := by rw [hM9]; have h9 := qm_jd_rng (ln := J 74 0 (Int.toNat a2)) (i := a3) (f := (fun x => L 75 0 (60 * Int.toNat a2 + Int.toNat x))) (b := (fun k => J 62 0 (63 + 2 * Int.toNat (k - J 62 0 1 + 8)))) (Int.toNat (2 * J 62 0 1 + 1)) 0 (by decide); omega
            have rb9 : ∀ k : Int, 0 ≤ k → k ≤ 2 * J 62 0 1 → 0 ≤ J 62 0 (63 + 2 * Int.toNat (k - J 62 0 1 + 8)) ∧ J 62 0 (63 + 2 * Int.toNat (k - J 62 0 1 + 8)) ≤ 6 := fun k h1 h2 => (hI.nt.rrule (Int.toNat (k - J 62 0 1 + 8)) (by omega)).2
            refine qm_G.pk (lv1 := [(0, qm_R (some (0, 0, 0))), (1, qm_I (qm_i 1)), (3, qm_I (qm_i a3)), (4, qm_R (some (0, q19, 0))), (5, qm_I (qm_i (J 62 0 1))), (6, qm_I (qm_i 0))]) rfl rfl rfl ?_
            refine qm_d_jd1 (lim := J 62 0 1) (i := a3) (ln := J 74 0 (Int.toNat a2)) (f := (fun x => L 75 0 (60 * Int.toNat a2 + Int.toNat x))) (b := (fun k => J 62 0 (63 + 2 * Int.toNat (k - J 62 0 1 + 8)))) hS hR rl9 (by omega) g20y rb9 g20s g20t g20u g20x (fun x y h1 h2 h3 => by subst h1; exact g20z _ (by omega)) (fun k y h1 h2 h3 => by subst h1; exact (hI.nt.rule (Int.toNat (k - J 62 0 1 + 8)) (by omega)).2) (Int.toNat (2 * J 62 0 1 + 1)) 0 (by omega) (by decide) ?_
            rw [← hM9]
            refine ⟨_, rfl, ?_⟩
            refine qm_G.s1 rfl (qm_x_aload rfl) ?_
            refine qm_G.s1 rfl (qm_x_aload rfl) ?_
            refine qm_G.s1 rfl (qm_x_iload rfl) ?_
            refine qm_G.s1 rfl (qm_x_pushI 1 rfl) ?_
            refine qm_G.s1 rfl (qm_x_iadd) ?_
            refine qm_G.s1 rfl (qm_x_iald2v (v := 1) (by omega) (by omega) hX e1) ?_
            refine qm_G.s1 rfl (qm_x_aload rfl) ?_
            refine qm_G.s1 rfl (qm_x_iload rfl) ?_
            refine qm_G.s1 rfl (qm_x_pushI 2 rfl) ?_
            refine qm_G.s1 rfl (qm_x_iadd) ?_
            refine qm_G.s1 rfl (qm_x_iald2v (v := a2) (by omega) (by omega) hX e2) ?_
            refine qm_G.s1 rfl (qm_x_aload rfl) ?_
            refine qm_G.s1 rfl (qm_x_iload rfl) ?_
            refine qm_G.s1 rfl (qm_x_pushI 3 rfl) ?_
            refine qm_G.s1 rfl (qm_x_iadd) ?_
            refine qm_G.s1 rfl (qm_x_iald2v (v := a3) (by omega) (by omega) hX e3) ?_
            refine qm_G.cm rfl rfl (hS 61 rfl) rfl ?_
            refine qm_C.go (cd := qm_P126) (lv := [(0, qm_R (some (0, 61, 0))), (1, qm_I (qm_i 1)), (2, qm_I (qm_i a2)), (3, qm_I (qm_i a3))]) rfl rfl ?_
            refine qm_G.s1 rfl (qm_x_iload rfl) ?_
            refine qm_G.cs rfl rfl rfl ?_
            refine qm_C.go (cd := qm_P83) (lv := [(0, qm_I (qm_i 1))]) rfl rfl ?_
            refine qm_G.s1 rfl (qm_x_iload rfl) ?_
            refine qm_G.s1 rfl (qm_x_pushI 0 rfl) ?_
            refine qm_G.s1 rfl (qm_x_pushI 1 rfl) ?_
            refine qm_G.cs rfl rfl rfl ?_
            refine qm_v_within11_t ⟨by decide, by decide⟩ ⟨by decide, by decide⟩ ⟨by decide, by decide⟩ (by decide) ⟨_, rfl, ?_⟩
            refine qm_G.ret rfl rfl ⟨_, rfl, ?_⟩
            refine qm_G.s1 rfl (qm_x_if_eq_f ⟨by decide, by decide⟩ (by decide)) ?_
            refine qm_G.s1 rfl (qm_x_iload rfl) ?_
            refine qm_G.cs rfl rfl rfl ?_
            refine qm_C.go (cd := qm_P86) (lv := [(0, qm_I (qm_i a2))]) rfl rfl ?_
            refine qm_G.s1 rfl (qm_x_iload rfl) ?_
            refine qm_G.s1 rfl (qm_x_pushI 0 rfl) ?_
            refine qm_G.s1 rfl (qm_x_pushI 5 rfl) ?_
            refine qm_G.cs rfl rfl rfl ?_
            refine qm_v_within11_t ⟨by omega, by omega⟩ ⟨by decide, by decide⟩ ⟨by decide, by decide⟩ (by omega) ⟨_, rfl, ?_⟩
            refine qm_G.ret rfl rfl ⟨_, rfl, ?_⟩
            refine qm_G.s1 rfl (qm_x_if_ne_t ⟨by decide, by decide⟩ (by decide)) ?_
            refine qm_G.sp (lv1 := [(0, qm_R (some (0, 61, 0))), (1, qm_I (qm_i 1)), (2, qm_I (qm_i a2)), (3, qm_I (qm_i a3))]) rfl rfl (qm_x_aload rfl) ?_
            refine qm_G.s1 rfl (qm_x_getfR (q := (some (0, 73, 0))) (hS 61 rfl) (hR 61 20 73 rfl rfl)) ?_
            refine qm_G.s1 rfl (qm_x_iload rfl) ?_
            refine qm_G.s1 rfl (qm_x_iald (v := (J 73 0 (Int.toNat a2))) (qm_arS hS rfl rfl) rfl (by omega) (by omega) (by decide) rfl) ?_
            refine qm_G.s1 rfl (qm_x_pushI 1 rfl) ?_
            refine qm_G.s1 rfl (qm_x_icmp_le_t ⟨by omega, by omega⟩ ⟨by decide, by decide⟩ (by omega)) ?_
            refine qm_G.sp (lv1 := [(0, qm_R (some (0, 61, 0))), (1, qm_I (qm_i 1)), (2, qm_I (qm_i a2)), (3, qm_I (qm_i a3))]) rfl rfl (qm_x_aload rfl) ?_
            refine qm_G.s1 rfl (qm_x_getfR (q := (some (0, 73, 0))) (hS 61 rfl) (hR 61 20 73 rfl rfl)) ?_
            refine qm_G.s1 rfl (qm_x_iload rfl) ?_
            refine qm_G.s1 rfl (qm_x_iald (v := (J 73 0 (Int.toNat a2))) (qm_arS hS rfl rfl) rfl (by omega) (by omega) (by decide) rfl) ?_
            refine qm_G.s1 rfl (qm_x_if_eq_f ⟨by omega, by omega⟩ (by omega)) ?_
            refine qm_G.s1 rfl (qm_x_iload rfl) ?_
            refine qm_G.s1 rfl (qm_x_if_ge_t ⟨by omega, by omega⟩ (by omega)) ?_
            refine qm_G.sp (lv1 := [(0, qm_R (some (0, 61, 0))), (1, qm_I (qm_i 1)), (2, qm_I (qm_i a2)), (3, qm_I (qm_i a3))]) rfl rfl (qm_x_pushI 2 rfl) ?_
            refine qm_G.s1 rfl (qm_x_aload rfl) ?_
            refine qm_G.s1 rfl (qm_x_getfR (q := (some (0, 62, 0))) (hS 61 rfl) (hR 61 0 62 rfl rfl)) ?_
            refine qm_G.s1 rfl (qm_x_pushI 1 rfl) ?_
            refine qm_G.s1 rfl (qm_x_iald (v := (J 62 0 1)) (qm_arS hS rfl rfl) rfl (by decide) (by decide) (by decide) rfl) ?_
            refine qm_G.s1 rfl (qm_x_imul) ?_
            refine qm_G.s1 rfl (qm_x_pushI 1 rfl) ?_
            refine qm_G.s1 rfl (qm_x_iadd) ?_
            refine qm_G.s1 rfl (qm_x_istore (lv' := [(4, qm_I (qm_i ((2 * (J 62 0 1)) + 1))), (0, qm_R (some (0, 61, 0))), (1, qm_I (qm_i 1)), (2, qm_I (qm_i a2)), (3, qm_I (qm_i a3))]) rfl) ?_
            refine qm_G.s1 rfl (qm_x_pushI 0 rfl) ?_
            refine qm_G.s1 rfl (qm_x_istore (lv' := [(5, qm_I (qm_i 0)), (4, qm_I (qm_i ((2 * (J 62 0 1)) + 1))), (0, qm_R (some (0, 61, 0))), (1, qm_I (qm_i 1)), (2, qm_I (qm_i a2)), (3, qm_I (qm_i a3))]) rfl) ?_
            refine qm_G.pk (lv1 := [(0, qm_R (some (0, 61, 0))), (1, qm_I (qm_i 1)), (2, qm_I (qm_i a2)), (3, qm_I (qm_i a3)), (4, qm_I (qm_i (2 * J 62 0 1 + 1))), (5, qm_I (qm_i 0))]) rfl rfl rfl ?_
            refine qm_m_jd1 (T := a2) (lim := J 62 0 1) (i := a3) (ln := J 74 0 (Int.toNat a2)) (f := (fun x => L 75 0 (60 * Int.toNat a2 + Int.toNat x))) (b := (fun k => J 62 0 (63 + 2 * Int.toNat (k - J 62 0 1 + 8)))) hS hR rl9 (by omega) g20y rb9 (by omega) rfl rfl (fun x y h1 h2 h3 => by subst h1; exact congrArg (L 75 0) (by omega)) (fun k y h1 h2 h3 => by subst h1; exact congrArg (J 62 0) (by omega)) (Int.toNat (2 * J 62 0 1 + 1)) 0 (by omega) (by decide) ?_
            rw [← hM9]
            refine ⟨_, rfl, ?_⟩
            refine qm_G.s1 rfl (qm_x_icmp_eq_t ⟨by omega, by omega⟩ ⟨by omega, by omega⟩ (by omega)) ?_
            exact ih _ _ _ _ _ _ hI.next
          · refine qm_G.sp (lv1 := []) rfl rfl (qm_x_pushI 100 rfl) ?_
            refine qm_G.ret rfl rfl ⟨_, rfl, ?_⟩
            refine qm_G.s1 rfl (qm_x_aload rfl) ?_
            refine qm_G.s1 rfl (qm_x_aload rfl) ?_
            refine qm_G.s1 rfl (qm_x_iload rfl) ?_
            refine qm_G.s1 rfl (qm_x_pushI 1 rfl) ?_
            refine qm_G.s1 rfl (qm_x_iadd) ?_
            refine qm_G.s1 rfl (qm_x_iald2v (v := 1) (by omega) (by omega) hX e1) ?_
            refine qm_G.s1 rfl (qm_x_aload rfl) ?_
            refine qm_G.s1 rfl (qm_x_iload rfl) ?_
            refine qm_G.s1 rfl (qm_x_pushI 2 rfl) ?_
            refine qm_G.s1 rfl (qm_x_iadd) ?_
            refine qm_G.s1 rfl (qm_x_iald2v (v := a2) (by omega) (by omega) hX e2) ?_
            refine qm_G.s1 rfl (qm_x_aload rfl) ?_
            refine qm_G.s1 rfl (qm_x_iload rfl) ?_
            refine qm_G.s1 rfl (qm_x_pushI 3 rfl) ?_
            refine qm_G.s1 rfl (qm_x_iadd) ?_
            refine qm_G.s1 rfl (qm_x_iald2v (v := a3) (by omega) (by omega) hX e3) ?_
            refine qm_G.cm rfl rfl (hS 61 rfl) rfl ?_
            refine qm_C.go (cd := qm_P126) (lv := [(0, qm_R (some (0, 61, 0))), (1, qm_I (qm_i 1)), (2, qm_I (qm_i a2)), (3, qm_I (qm_i a3))]) rfl rfl ?_
            refine qm_G.s1 rfl (qm_x_iload rfl) ?_
            refine qm_G.cs rfl rfl rfl ?_
            refine qm_C.go (cd := qm_P83) (lv := [(0, qm_I (qm_i 1))]) rfl rfl ?_
            refine qm_G.s1 rfl (qm_x_iload rfl) ?_
            refine qm_G.s1 rfl (qm_x_pushI 0 rfl) ?_
            refine qm_G.s1 rfl (qm_x_pushI 1 rfl) ?_
            refine qm_G.cs rfl rfl rfl ?_
            refine qm_v_within11_t ⟨by decide, by decide⟩ ⟨by decide, by decide⟩ ⟨by decide, by decide⟩ (by decide) ⟨_, rfl, ?_⟩
            refine qm_G.ret rfl rfl ⟨_, rfl, ?_⟩
            refine qm_G.s1 rfl (qm_x_if_eq_f ⟨by decide, by decide⟩ (by decide)) ?_
            refine qm_G.s1 rfl (qm_x_iload rfl) ?_
            refine qm_G.cs rfl rfl rfl ?_
            refine qm_C.go (cd := qm_P86) (lv := [(0, qm_I (qm_i a2))]) rfl rfl ?_
            refine qm_G.s1 rfl (qm_x_iload rfl) ?_
            refine qm_G.s1 rfl (qm_x_pushI 0 rfl) ?_
            refine qm_G.s1 rfl (qm_x_pushI 5 rfl) ?_
            refine qm_G.cs rfl rfl rfl ?_
            refine qm_v_within11_t ⟨by omega, by omega⟩ ⟨by decide, by decide⟩ ⟨by decide, by decide⟩ (by omega) ⟨_, rfl, ?_⟩
            refine qm_G.ret rfl rfl ⟨_, rfl, ?_⟩
            refine qm_G.s1 rfl (qm_x_if_ne_t ⟨by decide, by decide⟩ (by decide)) ?_
            refine qm_G.sp (lv1 := [(0, qm_R (some (0, 61, 0))), (1, qm_I (qm_i 1)), (2, qm_I (qm_i a2)), (3, qm_I (qm_i a3))]) rfl rfl (qm_x_aload rfl) ?_
            refine qm_G.s1 rfl (qm_x_getfR (q := (some (0, 73, 0))) (hS 61 rfl) (hR 61 20 73 rfl rfl)) ?_
            refine qm_G.s1 rfl (qm_x_iload rfl) ?_
            refine qm_G.s1 rfl (qm_x_iald (v := (J 73 0 (Int.toNat a2))) (qm_arS hS rfl rfl) rfl (by omega) (by omega) (by decide) rfl) ?_
            refine qm_G.s1 rfl (qm_x_pushI 1 rfl) ?_
            refine qm_G.s1 rfl (qm_x_icmp_le_t ⟨by omega, by omega⟩ ⟨by decide, by decide⟩ (by omega)) ?_
            refine qm_G.sp (lv1 := [(0, qm_R (some (0, 61, 0))), (1, qm_I (qm_i 1)), (2, qm_I (qm_i a2)), (3, qm_I (qm_i a3))]) rfl rfl (qm_x_aload rfl) ?_
            refine qm_G.s1 rfl (qm_x_getfR (q := (some (0, 73, 0))) (hS 61 rfl) (hR 61 20 73 rfl rfl)) ?_
            refine qm_G.s1 rfl (qm_x_iload rfl) ?_
            refine qm_G.s1 rfl (qm_x_iald (v := (J 73 0 (Int.toNat a2))) (qm_arS hS rfl rfl) rfl (by omega) (by omega) (by decide) rfl) ?_
            refine qm_G.s1 rfl (qm_x_if_eq_f ⟨by omega, by omega⟩ (by omega)) ?_
            refine qm_G.s1 rfl (qm_x_iload rfl) ?_
            refine qm_G.s1 rfl (qm_x_if_ge_f ⟨by omega, by omega⟩ (by omega)) ?_
            refine qm_G.sp (lv1 := []) rfl rfl (qm_x_pushI 100 rfl) ?_
            refine qm_G.ret rfl rfl ⟨_, rfl, ?_⟩
            refine qm_G.s1 rfl (qm_x_icmp_eq_t ⟨by decide, by decide⟩ ⟨by decide, by decide⟩ (by decide)) ?_
            exact ih _ _ _ _ _ _ hI.next
        · refine qm_G.s1 rfl (qm_x_pushI (-12) rfl) ?_
          refine qm_G.ret rfl rfl ⟨_, rfl, ?_⟩
          refine qm_G.s1 rfl (qm_x_aload rfl) ?_
          refine qm_G.s1 rfl (qm_x_aload rfl) ?_
          refine qm_G.s1 rfl (qm_x_iload rfl) ?_
          refine qm_G.s1 rfl (qm_x_pushI 1 rfl) ?_
          refine qm_G.s1 rfl (qm_x_iadd) ?_
          refine qm_G.s1 rfl (qm_x_iald2v (v := 1) (by omega) (by omega) hX e1) ?_
          refine qm_G.s1 rfl (qm_x_aload rfl) ?_
          refine qm_G.s1 rfl (qm_x_iload rfl) ?_
          refine qm_G.s1 rfl (qm_x_pushI 2 rfl) ?_
          refine qm_G.s1 rfl (qm_x_iadd) ?_
          refine qm_G.s1 rfl (qm_x_iald2v (v := a2) (by omega) (by omega) hX e2) ?_
          refine qm_G.s1 rfl (qm_x_aload rfl) ?_
          refine qm_G.s1 rfl (qm_x_iload rfl) ?_
          refine qm_G.s1 rfl (qm_x_pushI 3 rfl) ?_
          refine qm_G.s1 rfl (qm_x_iadd) ?_
          refine qm_G.s1 rfl (qm_x_iald2v (v := a3) (by omega) (by omega) hX e3) ?_
          refine qm_G.cm rfl rfl (hS 61 rfl) rfl ?_
          refine qm_C.go (cd := qm_P126) (lv := [(0, qm_R (some (0, 61, 0))), (1, qm_I (qm_i 1)), (2, qm_I (qm_i a2)), (3, qm_I (qm_i a3))]) rfl rfl ?_
          refine qm_G.s1 rfl (qm_x_iload rfl) ?_
          refine qm_G.cs rfl rfl rfl ?_
          refine qm_C.go (cd := qm_P83) (lv := [(0, qm_I (qm_i 1))]) rfl rfl ?_
          refine qm_G.s1 rfl (qm_x_iload rfl) ?_
          refine qm_G.s1 rfl (qm_x_pushI 0 rfl) ?_
          refine qm_G.s1 rfl (qm_x_pushI 1 rfl) ?_
          refine qm_G.cs rfl rfl rfl ?_
          refine qm_v_within11_t ⟨by decide, by decide⟩ ⟨by decide, by decide⟩ ⟨by decide, by decide⟩ (by decide) ⟨_, rfl, ?_⟩
          refine qm_G.ret rfl rfl ⟨_, rfl, ?_⟩
          refine qm_G.s1 rfl (qm_x_if_eq_f ⟨by decide, by decide⟩ (by decide)) ?_
          refine qm_G.s1 rfl (qm_x_iload rfl) ?_
          refine qm_G.cs rfl rfl rfl ?_
          refine qm_C.go (cd := qm_P86) (lv := [(0, qm_I (qm_i a2))]) rfl rfl ?_
          refine qm_G.s1 rfl (qm_x_iload rfl) ?_
          refine qm_G.s1 rfl (qm_x_pushI 0 rfl) ?_
          refine qm_G.s1 rfl (qm_x_pushI 5 rfl) ?_
          refine qm_G.cs rfl rfl rfl ?_
          refine qm_v_within11_t ⟨by omega, by omega⟩ ⟨by decide, by decide⟩ ⟨by decide, by decide⟩ (by omega) ⟨_, rfl, ?_⟩
          refine qm_G.ret rfl rfl ⟨_, rfl, ?_⟩
          refine qm_G.s1 rfl (qm_x_if_ne_t ⟨by decide, by decide⟩ (by decide)) ?_
          refine qm_G.sp (lv1 := [(0, qm_R (some (0, 61, 0))), (1, qm_I (qm_i 1)), (2, qm_I (qm_i a2)), (3, qm_I (qm_i a3))]) rfl rfl (qm_x_aload rfl) ?_
          refine qm_G.s1 rfl (qm_x_getfR (q := (some (0, 73, 0))) (hS 61 rfl) (hR 61 20 73 rfl rfl)) ?_
          refine qm_G.s1 rfl (qm_x_iload rfl) ?_
          refine qm_G.s1 rfl (qm_x_iald (v := (J 73 0 (Int.toNat a2))) (qm_arS hS rfl rfl) rfl (by omega) (by omega) (by decide) rfl) ?_
          refine qm_G.s1 rfl (qm_x_pushI 1 rfl) ?_
          refine qm_G.s1 rfl (qm_x_icmp_le_f ⟨by omega, by omega⟩ ⟨by decide, by decide⟩ (by omega)) ?_
          refine qm_G.s1 rfl (qm_x_pushI (-12) rfl) ?_
          refine qm_G.ret rfl rfl ⟨_, rfl, ?_⟩
          refine qm_G.s1 rfl (qm_x_icmp_eq_t ⟨by decide, by decide⟩ ⟨by decide, by decide⟩ (by decide)) ?_
          exact ih _ _ _ _ _ _ hI.next
    · refine qm_G.ret rfl rfl ⟨_, rfl, ?_⟩
      refine qm_G.s1 rfl (qm_x_if_ne_f ⟨by decide, by decide⟩ (by decide)) ?_
      refine qm_G.sp (lv1 := []) rfl rfl (qm_x_pushI (-1) rfl) ?_
      refine qm_G.ret rfl rfl ⟨_, rfl, ?_⟩
      refine qm_G.s1 rfl (qm_x_aload rfl) ?_
      refine qm_G.s1 rfl (qm_x_aload rfl) ?_
      refine qm_G.s1 rfl (qm_x_iload rfl) ?_
      refine qm_G.s1 rfl (qm_x_pushI 1 rfl) ?_
      refine qm_G.s1 rfl (qm_x_iadd) ?_
      refine qm_G.s1 rfl (qm_x_iald2v (v := 1) (by omega) (by omega) hX e1) ?_
      refine qm_G.s1 rfl (qm_x_aload rfl) ?_
      refine qm_G.s1 rfl (qm_x_iload rfl) ?_
      refine qm_G.s1 rfl (qm_x_pushI 2 rfl) ?_
      refine qm_G.s1 rfl (qm_x_iadd) ?_
      refine qm_G.s1 rfl (qm_x_iald2v (v := a2) (by omega) (by omega) hX e2) ?_
      refine qm_G.s1 rfl (qm_x_aload rfl) ?_
      refine qm_G.s1 rfl (qm_x_iload rfl) ?_
      refine qm_G.s1 rfl (qm_x_pushI 3 rfl) ?_
      refine qm_G.s1 rfl (qm_x_iadd) ?_
      refine qm_G.s1 rfl (qm_x_iald2v (v := a3) (by omega) (by omega) hX e3) ?_
      refine qm_G.cm rfl rfl (hS 61 rfl) rfl ?_
      refine qm_C.go (cd := qm_P126) (lv := [(0, qm_R (some (0, 61, 0))), (1, qm_I (qm_i 1)), (2, qm_I (qm_i a2)), (3, qm_I (qm_i a3))]) rfl rfl ?_
      refine qm_G.s1 rfl (qm_x_iload rfl) ?_
      refine qm_G.cs rfl rfl rfl ?_
      refine qm_C.go (cd := qm_P83) (lv := [(0, qm_I (qm_i 1))]) rfl rfl ?_
      refine qm_G.s1 rfl (qm_x_iload rfl) ?_
      refine qm_G.s1 rfl (qm_x_pushI 0 rfl) ?_
      refine qm_G.s1 rfl (qm_x_pushI 1 rfl) ?_
      refine qm_G.cs rfl rfl rfl ?_
      refine qm_v_within11_t ⟨by decide, by decide⟩ ⟨by decide, by decide⟩ ⟨by decide, by decide⟩ (by decide) ⟨_, rfl, ?_⟩
      refine qm_G.ret rfl rfl ⟨_, rfl, ?_⟩
      refine qm_G.s1 rfl (qm_x_if_eq_f ⟨by decide, by decide⟩ (by decide)) ?_
      refine qm_G.s1 rfl (qm_x_iload rfl) ?_
      refine qm_G.cs rfl rfl rfl ?_
      refine qm_C.go (cd := qm_P86) (lv := [(0, qm_I (qm_i a2))]) rfl rfl ?_
      refine qm_G.s1 rfl (qm_x_iload rfl) ?_
      refine qm_G.s1 rfl (qm_x_pushI 0 rfl) ?_
      refine qm_G.s1 rfl (qm_x_pushI 5 rfl) ?_
      refine qm_G.cs rfl rfl rfl ?_
      refine qm_v_within11_f ⟨by omega, by omega⟩ ⟨by decide, by decide⟩ ⟨by decide, by decide⟩ (by omega) ⟨_, rfl, ?_⟩
      refine qm_G.ret rfl rfl ⟨_, rfl, ?_⟩
      refine qm_G.s1 rfl (qm_x_if_ne_f ⟨by decide, by decide⟩ (by decide)) ?_
      refine qm_G.sp (lv1 := []) rfl rfl (qm_x_pushI (-1) rfl) ?_
      refine qm_G.ret rfl rfl ⟨_, rfl, ?_⟩
      refine qm_G.s1 rfl (qm_x_icmp_eq_t ⟨by decide, by decide⟩ ⟨by decide, by decide⟩ (by decide)) ?_
      exact ih _ _ _ _ _ _ hI.next
  · refine qm_G.sp (lv1 := [(0, qm_R (some (2, 0, 0))), (1, qm_R (some (0, 0, 0))), (2, qm_R (some (0, 61, 0))), (3, qm_I (qm_i z))]) rfl rfl (qm_x_aload rfl) ?_
    refine qm_G.s1 rfl (qm_x_aload rfl) ?_
    refine qm_G.s1 rfl (qm_x_iload rfl) ?_
    refine qm_G.s1 rfl (qm_x_pushI 1 rfl) ?_
    refine qm_G.s1 rfl (qm_x_iadd) ?_
    refine qm_G.s1 rfl (qm_x_iald2v (v := a1) (by omega) (by omega) hX e1) ?_
    refine qm_G.s1 rfl (qm_x_aload rfl) ?_
    refine qm_G.s1 rfl (qm_x_iload rfl) ?_
    refine qm_G.s1 rfl (qm_x_pushI 2 rfl) ?_
    refine qm_G.s1 rfl (qm_x_iadd) ?_
    refine qm_G.s1 rfl (qm_x_iald2v (v := a2) (by omega) (by omega) hX e2) ?_
    refine qm_G.s1 rfl (qm_x_aload rfl) ?_
    refine qm_G.s1 rfl (qm_x_iload rfl) ?_
    refine qm_G.s1 rfl (qm_x_pushI 3 rfl) ?_
    refine qm_G.s1 rfl (qm_x_iadd) ?_
    refine qm_G.s1 rfl (qm_x_iald2v (v := a3) (by omega) (by omega) hX e3) ?_
    refine qm_G.cm rfl rfl (hS 0 rfl) rfl ?_
    refine qm_C.go (cd := qm_P115) (lv := [(0, qm_R (some (0, 0, 0))), (1, qm_I (qm_i a1)), (2, qm_I (qm_i a2)), (3, qm_I (qm_i a3))]) rfl rfl ?_
    refine qm_G.s1 rfl (qm_x_iload rfl) ?_
    refine qm_G.cs rfl rfl rfl ?_
    refine qm_C.go (cd := qm_P18) (lv := [(0, qm_I (qm_i a1))]) rfl rfl ?_
    refine qm_G.s1 rfl (qm_x_iload rfl) ?_
    refine qm_G.s1 rfl (qm_x_if_eq_f ⟨by omega, by omega⟩ (by omega)) ?_
    refine qm_G.s1 rfl (qm_x_iload rfl) ?_
    refine qm_G.s1 rfl (qm_x_pushI 1 rfl) ?_
    refine qm_G.s1 rfl (qm_x_icmp_ne_t ⟨by omega, by omega⟩ ⟨by decide, by decide⟩ (by omega)) ?_
    refine qm_G.sp (lv1 := []) rfl rfl (qm_x_pushI 0 rfl) ?_
    refine qm_G.ret rfl rfl ⟨_, rfl, ?_⟩
    refine qm_G.s1 rfl (qm_x_if_eq_t ⟨by decide, by decide⟩ (by decide)) ?_
    refine qm_G.sp (lv1 := []) rfl rfl (qm_x_pushI (-1) rfl) ?_
    refine qm_G.ret rfl rfl ⟨_, rfl, ?_⟩
    refine qm_G.s1 rfl (qm_x_aload rfl) ?_
    refine qm_G.s1 rfl (qm_x_aload rfl) ?_
    refine qm_G.s1 rfl (qm_x_iload rfl) ?_
    refine qm_G.s1 rfl (qm_x_pushI 1 rfl) ?_
    refine qm_G.s1 rfl (qm_x_iadd) ?_
    refine qm_G.s1 rfl (qm_x_iald2v (v := a1) (by omega) (by omega) hX e1) ?_
    refine qm_G.s1 rfl (qm_x_aload rfl) ?_
    refine qm_G.s1 rfl (qm_x_iload rfl) ?_
    refine qm_G.s1 rfl (qm_x_pushI 2 rfl) ?_
    refine qm_G.s1 rfl (qm_x_iadd) ?_
    refine qm_G.s1 rfl (qm_x_iald2v (v := a2) (by omega) (by omega) hX e2) ?_
    refine qm_G.s1 rfl (qm_x_aload rfl) ?_
    refine qm_G.s1 rfl (qm_x_iload rfl) ?_
    refine qm_G.s1 rfl (qm_x_pushI 3 rfl) ?_
    refine qm_G.s1 rfl (qm_x_iadd) ?_
    refine qm_G.s1 rfl (qm_x_iald2v (v := a3) (by omega) (by omega) hX e3) ?_
    refine qm_G.cm rfl rfl (hS 61 rfl) rfl ?_
    refine qm_C.go (cd := qm_P126) (lv := [(0, qm_R (some (0, 61, 0))), (1, qm_I (qm_i a1)), (2, qm_I (qm_i a2)), (3, qm_I (qm_i a3))]) rfl rfl ?_
    refine qm_G.s1 rfl (qm_x_iload rfl) ?_
    refine qm_G.cs rfl rfl rfl ?_
    refine qm_C.go (cd := qm_P83) (lv := [(0, qm_I (qm_i a1))]) rfl rfl ?_
    refine qm_G.s1 rfl (qm_x_iload rfl) ?_
    refine qm_G.s1 rfl (qm_x_pushI 0 rfl) ?_
    refine qm_G.s1 rfl (qm_x_pushI 1 rfl) ?_
    refine qm_G.cs rfl rfl rfl ?_
    refine qm_v_within11_f ⟨by omega, by omega⟩ ⟨by decide, by decide⟩ ⟨by decide, by decide⟩ (by omega) ⟨_, rfl, ?_⟩
    refine qm_G.ret rfl rfl ⟨_, rfl, ?_⟩
    refine qm_G.s1 rfl (qm_x_if_eq_t ⟨by decide, by decide⟩ (by decide)) ?_
    refine qm_G.sp (lv1 := []) rfl rfl (qm_x_pushI (-1) rfl) ?_
    refine qm_G.ret rfl rfl ⟨_, rfl, ?_⟩
    refine qm_G.s1 rfl (qm_x_icmp_eq_t ⟨by decide, by decide⟩ ⟨by decide, by decide⟩ (by decide)) ?_
    exact ih _ _ _ _ _ _ hI.next
