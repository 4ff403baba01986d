/-! THE LAW, case 20 -/
theorem qm_case20 {S : List qm_Sh} {J K : qm_J} {L : qm_Ct Int64} {D : qm_Ct UInt64} {R : qm_Ct (Option qm_Rf)} {X : Nat × (Nat → Int32)} {k : Nat} {z : Int} {Q : Option qm_V → qm_Hp → Prop} {a1 : Int} (hI : qm_Inv S J K L D R k) (hX : X.1 ≤ 3072) (h0 : 0 ≤ z) (h6 : z + 6 ≤ X.1) (hk : k ≤ 512) (e1 : (X.2 (Int.toNat (z + 1))).toInt = a1) (ih : ∀ (S : List qm_Sh) (J K : qm_J) (L : qm_Ct Int64) (D : qm_Ct UInt64) (R : qm_Ct (Option qm_Rf)), qm_Inv S J K L D R (k + 1) → qm_G qm_P qm_P222 1445 [(0, qm_R (some (2, 0, 0))), (1, qm_R (some (0, 0, 0))), (2, qm_R (some (0, 61, 0))), (3, qm_I (qm_i z))] [] (qm_H S J K L D R X) Q) : qm_G qm_P qm_P222 901 [(0, qm_R (some (2, 0, 0))), (1, qm_R (some (0, 0, 0))), (2, qm_R (some (0, 61, 0))), (3, qm_I (qm_i z))] [] (qm_H S J K L D R X) Q := by
  have hS := hI.sd
  have hR := hI.rd
  obtain ⟨c9, hc9, hc8, hm9, hs9⟩ := hI.tall.now hI.rtx.1
  have gm := hm9.go
  have gs := hs9.go (by omega)
  have s1 : qm_sm a1 := e1 ▸ qm_i_sml _
  rcases (show a1 = 0 ∨ a1 = 1 ∨ (a1 < 0 ∨ 1 < a1) by omega) with d1 | d1 | d1
  · subst d1
    refine qm_G.sp (lv1 := [(0, qm_R (some (2, 0, 0))), (1, qm_R (some (0, 0, 0))), (2, qm_R (some (0, 61, 0))), (3, qm_I (qm_i z))]) rfl rfl (qm_x_aload rfl) ?_
    refine qm_G.s1 rfl (qm_x_aload rfl) ?_
    refine qm_G.s1 rfl (qm_x_iload rfl) ?_
    refine qm_G.s1 rfl (qm_x_pushI 1 rfl) ?_
    refine qm_G.s1 rfl (qm_x_iadd) ?_
    refine qm_G.s1 rfl (qm_x_iald2v (v := 0) (by omega) (by omega) hX e1) ?_
    refine qm_G.cm rfl rfl (hS 0 rfl) rfl ?_
    refine qm_C.go (cd := qm_P155) (lv := [(0, qm_R (some (0, 0, 0))), (1, qm_I (qm_i 0))]) rfl rfl ?_
    refine qm_G.s1 rfl (qm_x_iload rfl) ?_
    refine qm_G.cs rfl rfl rfl ?_
    refine qm_C.go (cd := qm_P18) (lv := [(0, qm_I (qm_i 0))]) rfl rfl ?_
    refine qm_G.s1 rfl (qm_x_iload rfl) ?_
    refine qm_G.s1 rfl (qm_x_if_eq_t ⟨by decide, by decide⟩ (by decide)) ?_
    refine qm_G.sp (lv1 := []) rfl rfl (qm_x_pushI 1 rfl) ?_
    refine qm_G.s1 rfl (qm_x_goto) ?_
    refine qm_G.ret rfl rfl ⟨_, rfl, ?_⟩
    refine qm_G.s1 rfl (qm_x_if_ne_t ⟨by decide, by decide⟩ (by decide)) ?_
    have f62_0 : 100 ≤ J 62 0 0 ∧ J 62 0 0 ≤ 9999 := hI.mk.r0
    have f62_5 : 1 ≤ J 62 0 5 ∧ J 62 0 5 ≤ 1000000 := hI.mk.r5
    have f62_8 : 0 ≤ J 62 0 8 ∧ J 62 0 8 ≤ 6 := hI.tr.rqb
    have f62_10 : -8 ≤ J 62 0 10 ∧ J 62 0 10 ≤ 8 := hI.tr.rstk
    have f62_11 : -2147483648 ≤ J 62 0 11 ∧ J 62 0 11 ≤ 2147483647 := hI.tr.rcsh
    have f61_12 : 0 ≤ J 61 0 12 ∧ J 61 0 12 ≤ 100 := hI.rtx
    obtain ⟨P9, eP9⟩ : ∃ P : Int, P = J 62 0 0 - J 62 0 8 := ⟨_, rfl⟩
    obtain ⟨W9, eW9⟩ : ∃ W : Int, W = P9 * J 62 0 5 := ⟨_, rfl⟩
    have hW9 : 0 ≤ W9 ∧ W9 ≤ 10005000000 := by rw [eW9]; exact ⟨Int.mul_nonneg (by omega) (by omega), Int.le_trans (Int.mul_le_mul (show P9 ≤ 10005 by omega) (show J 62 0 5 ≤ 1000000 by omega) (by omega) (by omega)) (by decide)⟩
    obtain ⟨t1, t2, t3, t4, t5, t6, t7, t8, t9⟩ := qm_trn (P := P9) ⟨by omega, by omega⟩ (show c9 ≤ 900 by omega) hm9 hs9
    rcases (show W9 ≤ 2147483647 ∨ 2147483648 ≤ W9 by omega) with cw | cw
    · rcases (show (-2147483648 ≤ J 62 0 11 - W9 ∧ J 62 0 11 - W9 ≤ 2147483647) ∨ J 62 0 11 - W9 < -2147483648 ∨ 2147483647 < J 62 0 11 - W9 by omega) with cc | cc | cc
      · refine qm_G.sp (lv1 := [(0, qm_R (some (0, 0, 0))), (1, qm_I (qm_i 0))]) rfl rfl (qm_x_aload rfl) ?_
        refine qm_G.s1 rfl (qm_x_getfR (q := (some (0, 1, 0))) (hS 0 rfl) (hR 0 0 1 rfl rfl)) ?_
        refine qm_G.s1 rfl (qm_x_getfR (q := (some (0, 2, 0))) (hS 1 rfl) (hR 1 0 2 rfl rfl)) ?_
        refine qm_G.s1 rfl (qm_x_getfR (q := (some (0, 3, 0))) (hS 2 rfl) (hR 2 0 3 rfl rfl)) ?_
        refine qm_G.s1 rfl (qm_x_astore (lv' := [(2, qm_R (some (0, 3, 0))), (0, qm_R (some (0, 0, 0))), (1, qm_I (qm_i 0))]) rfl) ?_
        refine qm_G.s1 rfl (qm_x_aload rfl) ?_
        refine qm_G.s1 rfl (qm_x_getfR (q := (some (0, 1, 0))) (hS 0 rfl) (hR 0 0 1 rfl rfl)) ?_
        refine qm_G.s1 rfl (qm_x_getfR (q := (some (0, 9, 0))) (hS 1 rfl) (hR 1 1 9 rfl rfl)) ?_
        refine qm_G.s1 rfl (qm_x_iload rfl) ?_
        refine qm_G.s1 rfl (qm_x_aload rfl) ?_
        refine qm_G.s1 rfl (qm_x_pushI 0 rfl) ?_
        have f3_0 : J 3 0 0 = J 62 0 0 := hI.mk.set 0 (by decide)
        refine qm_G.s1 rfl (qm_x_iald (v := (J 3 0 0)) (qm_arS hS rfl rfl) rfl (by decide) (by decide) (by decide) rfl) ?_
        refine qm_G.s1 rfl (qm_x_aload rfl) ?_
        refine qm_G.s1 rfl (qm_x_pushI 1 rfl) ?_
        have f62_1 : 1 ≤ J 62 0 1 ∧ J 62 0 1 ≤ 8 := hI.mk.r1
        have f3_1 : J 3 0 1 = J 62 0 1 := hI.mk.set 1 (by decide)
        refine qm_G.s1 rfl (qm_x_iald (v := (J 3 0 1)) (qm_arS hS rfl rfl) rfl (by decide) (by decide) (by decide) rfl) ?_
        refine qm_G.s1 rfl (qm_x_aload rfl) ?_
        refine qm_G.s1 rfl (qm_x_pushI 5 rfl) ?_
        have f3_5 : J 3 0 5 = J 62 0 5 := hI.mk.set 5 (by decide)
        refine qm_G.s1 rfl (qm_x_iald (v := (J 3 0 5)) (qm_arS hS rfl rfl) rfl (by decide) (by decide) (by decide) rfl) ?_
        refine qm_G.cm rfl rfl (hS 9 rfl) rfl ?_
        refine qm_C.go (cd := qm_P96) (lv := [(0, qm_R (some (0, 9, 0))), (1, qm_I (qm_i 0)), (2, qm_I (qm_i (J 3 0 0))), (3, qm_I (qm_i (J 3 0 1))), (4, qm_I (qm_i (J 3 0 5)))]) rfl rfl ?_
        refine qm_G.s1 rfl (qm_x_iload rfl) ?_
        refine qm_G.s1 rfl (qm_x_if_ne_f ⟨by decide, by decide⟩ (by decide)) ?_
        refine qm_G.s1 rfl (qm_x_aload rfl) ?_
        have f9_1 : J 9 0 1 = J 62 0 10 := hI.tr.stk
        refine qm_G.s1 rfl (qm_x_getfI (v := (J 9 0 1)) (hS 9 rfl) rfl) ?_
        refine qm_G.s1 rfl (qm_x_pushI 1 rfl) ?_
        refine qm_G.s1 rfl (qm_x_iadd) ?_
        refine qm_G.s1 rfl (qm_x_goto) ?_
        refine qm_G.sp (lv1 := [(0, qm_R (some (0, 9, 0))), (1, qm_I (qm_i 0)), (2, qm_I (qm_i (J 3 0 0))), (3, qm_I (qm_i (J 3 0 1))), (4, qm_I (qm_i (J 3 0 5)))]) rfl rfl (qm_x_istore (lv' := [(5, qm_I (qm_i ((J 9 0 1) + 1))), (0, qm_R (some (0, 9, 0))), (1, qm_I (qm_i 0)), (2, qm_I (qm_i (J 3 0 0))), (3, qm_I (qm_i (J 3 0 1))), (4, qm_I (qm_i (J 3 0 5)))]) rfl) ?_
        refine qm_G.s1 rfl (qm_x_aload rfl) ?_
        refine qm_G.s1 rfl (qm_x_getfR (q := (some (0, 10, 0))) (hS 9 rfl) (hR 9 0 10 rfl rfl)) ?_
        refine qm_G.s1 rfl (qm_x_iload rfl) ?_
        have f10_0 : J 10 0 0 = J 62 0 8 := hI.tr.qb
        refine qm_G.s1 rfl (qm_x_iald (v := (J 10 0 0)) (qm_arS hS rfl rfl) rfl (by decide) (by decide) (by decide) rfl) ?_
        refine qm_G.s1 rfl (qm_x_pushI 6 rfl) ?_
        refine qm_y_icmp_eq rfl ⟨by omega, by omega⟩ ⟨by decide, by decide⟩ (fun c2 => ?_) (fun c2 => ?_)
        · refine qm_G.sp (lv1 := []) rfl rfl (qm_x_pushI (-3) rfl) ?_
          refine qm_G.ret rfl rfl ⟨_, rfl, ?_⟩
          refine qm_G.ret rfl rfl ⟨_, rfl, ?_⟩
          refine qm_G.s1 rfl (qm_x_aload rfl) ?_
          refine qm_G.s1 rfl (qm_x_aload rfl) ?_
          refine qm_G.s1 rfl (qm_x_iload rfl) ?_
          refine qm_G.s1 rfl (qm_x_pushI 1 rfl) ?_
          refine qm_G.s1 rfl (qm_x_iadd) ?_
          refine qm_G.s1 rfl (qm_x_iald2v (v := 0) (by omega) (by omega) hX e1) ?_
          refine qm_G.cm rfl rfl (hS 61 rfl) rfl ?_
          refine qm_C.go (cd := qm_P143) (lv := [(0, qm_R (some (0, 61, 0))), (1, qm_I (qm_i 0))]) rfl rfl ?_
          refine qm_G.s1 rfl (qm_x_iload rfl) ?_
          refine qm_G.cs rfl rfl rfl ?_
          refine qm_C.go (cd := qm_P83) (lv := [(0, qm_I (qm_i 0))]) rfl rfl ?_
          refine qm_G.s1 rfl (qm_x_iload rfl) ?_
          refine qm_G.s1 rfl (qm_x_pushI 0 rfl) ?_
          refine qm_G.s1 rfl (qm_x_pushI 1 rfl) ?_
          refine qm_G.cs rfl rfl rfl ?_
          refine qm_v_within11_t ⟨by decide, by decide⟩ ⟨by decide, by decide⟩ ⟨by decide, by decide⟩ (by decide) ⟨_, rfl, ?_⟩
          refine qm_G.ret rfl rfl ⟨_, rfl, ?_⟩
          refine qm_G.s1 rfl (qm_x_if_ne_t ⟨by decide, by decide⟩ (by decide)) ?_
          refine qm_G.sp (lv1 := [(0, qm_R (some (0, 61, 0))), (1, qm_I (qm_i 0))]) rfl rfl (qm_x_aload rfl) ?_
          refine qm_G.s1 rfl (qm_x_getfR (q := (some (0, 62, 0))) (hS 61 rfl) (hR 61 0 62 rfl rfl)) ?_
          refine qm_G.s1 rfl (qm_x_pushI 8 rfl) ?_
          refine qm_G.s1 rfl (qm_x_iload rfl) ?_
          refine qm_G.s1 rfl (qm_x_iadd) ?_
          refine qm_G.s1 rfl (qm_x_iald (v := (J 62 0 8)) (qm_arS hS rfl rfl) rfl (by decide) (by decide) (by decide) rfl) ?_
          refine qm_G.s1 rfl (qm_x_istore (lv' := [(2, qm_I (qm_i (J 62 0 8))), (0, qm_R (some (0, 61, 0))), (1, qm_I (qm_i 0))]) rfl) ?_
          refine qm_G.s1 rfl (qm_x_iload rfl) ?_
          refine qm_G.s1 rfl (qm_x_if_ne_f ⟨by decide, by decide⟩ (by decide)) ?_
          refine qm_G.s1 rfl (qm_x_aload rfl) ?_
          refine qm_G.s1 rfl (qm_x_getfR (q := (some (0, 62, 0))) (hS 61 rfl) (hR 61 0 62 rfl rfl)) ?_
          refine qm_G.s1 rfl (qm_x_pushI 10 rfl) ?_
          refine qm_G.s1 rfl (qm_x_iald (v := (J 62 0 10)) (qm_arS hS rfl rfl) rfl (by decide) (by decide) (by decide) rfl) ?_
          refine qm_G.s1 rfl (qm_x_pushI 1 rfl) ?_
          refine qm_G.s1 rfl (qm_x_iadd) ?_
          refine qm_G.s1 rfl (qm_x_goto) ?_
          refine qm_G.sp (lv1 := [(0, qm_R (some (0, 61, 0))), (1, qm_I (qm_i 0)), (2, qm_I (qm_i (J 62 0 8)))]) rfl rfl (qm_x_istore (lv' := [(3, qm_I (qm_i ((J 62 0 10) + 1))), (0, qm_R (some (0, 61, 0))), (1, qm_I (qm_i 0)), (2, qm_I (qm_i (J 62 0 8)))]) rfl) ?_
          refine qm_G.s1 rfl (qm_x_iload rfl) ?_
          refine qm_G.s1 rfl (qm_x_pushI 6 rfl) ?_
          refine qm_G.s1 rfl (qm_x_icmp_eq_t ⟨by omega, by omega⟩ ⟨by decide, by decide⟩ (by omega)) ?_
          refine qm_G.sp (lv1 := []) rfl rfl (qm_x_pushI (-3) rfl) ?_
          refine qm_G.ret rfl rfl ⟨_, rfl, ?_⟩
          refine qm_G.s1 rfl (qm_x_icmp_eq_t ⟨by decide, by decide⟩ ⟨by decide, by decide⟩ (by decide)) ?_
          exact ih _ _ _ _ _ _ hI.next
        · refine qm_G.s1 rfl (qm_x_iload rfl) ?_
          refine qm_G.s1 rfl (qm_x_iload rfl) ?_
          refine qm_G.s1 rfl (qm_x_ineg) ?_
          refine qm_G.s1 rfl (qm_x_iload rfl) ?_
          refine qm_G.cs rfl rfl rfl ?_
          refine qm_v_within10 ⟨by omega, by omega⟩ ⟨by omega, by omega⟩ ⟨by omega, by omega⟩ (fun c4 => ⟨_, rfl, ?_⟩) (fun c4 => ⟨_, rfl, ?_⟩)
          · refine qm_G.s1 rfl (qm_x_if_ne_t ⟨by decide, by decide⟩ (by decide)) ?_
            refine qm_G.sp (lv1 := [(0, qm_R (some (0, 9, 0))), (1, qm_I (qm_i 0)), (2, qm_I (qm_i (J 3 0 0))), (4, qm_I (qm_i (J 3 0 5))), (5, qm_I (qm_i ((J 9 0 1) + 1)))]) rfl rfl (qm_x_iload rfl) ?_
            refine qm_G.s1 rfl (qm_x_if_ne_f ⟨by decide, by decide⟩ (by decide)) ?_
            refine qm_G.s1 rfl (qm_x_iload rfl) ?_
            refine qm_G.s1 rfl (qm_x_aload rfl) ?_
            refine qm_G.s1 rfl (qm_x_getfR (q := (some (0, 10, 0))) (hS 9 rfl) (hR 9 0 10 rfl rfl)) ?_
            refine qm_G.s1 rfl (qm_x_pushI 0 rfl) ?_
            refine qm_G.s1 rfl (qm_x_iald (v := (J 10 0 0)) (qm_arS hS rfl rfl) rfl (by decide) (by decide) (by decide) rfl) ?_
            refine qm_G.s1 rfl (qm_x_isub) ?_
            refine qm_G.s1 rfl (qm_x_goto) ?_
            refine qm_G.sp (lv1 := [(0, qm_R (some (0, 9, 0))), (1, qm_I (qm_i 0)), (4, qm_I (qm_i (J 3 0 5))), (5, qm_I (qm_i ((J 9 0 1) + 1)))]) rfl rfl (qm_x_istore (lv' := [(6, qm_I (qm_i ((J 3 0 0) - (J 10 0 0)))), (0, qm_R (some (0, 9, 0))), (1, qm_I (qm_i 0)), (4, qm_I (qm_i (J 3 0 5))), (5, qm_I (qm_i ((J 9 0 1) + 1)))]) rfl) ?_
            refine qm_G.s1 rfl (qm_x_iload rfl) ?_
            refine qm_G.s1 rfl (qm_x_i2l ⟨by omega, by omega⟩) ?_
            refine qm_G.s1 rfl (qm_x_iload rfl) ?_
            refine qm_G.s1 rfl (qm_x_i2l ⟨by omega, by omega⟩) ?_
            refine qm_G.s1 rfl (qm_x_lmule (w := W9) (by rw [eW9, show ((J 3 0 0) - (J 10 0 0)) = P9 by omega, show (J 3 0 5) = J 62 0 5 by omega])) ?_
            refine qm_G.s1 rfl (qm_x_lstore (lv' := [(7, qm_L (qm_l W9)), (6, qm_I (qm_i ((J 3 0 0) - (J 10 0 0)))), (0, qm_R (some (0, 9, 0))), (1, qm_I (qm_i 0)), (4, qm_I (qm_i (J 3 0 5))), (5, qm_I (qm_i ((J 9 0 1) + 1)))]) rfl) ?_
            refine qm_G.s1 rfl (qm_x_iload rfl) ?_
            refine qm_G.s1 rfl (qm_x_if_ne_f ⟨by decide, by decide⟩ (by decide)) ?_
            refine qm_G.s1 rfl (qm_x_aload rfl) ?_
            have f9_2 : J 9 0 2 = J 62 0 11 := hI.tr.csh
            refine qm_G.s1 rfl (qm_x_getfI (v := (J 9 0 2)) (hS 9 rfl) rfl) ?_
            refine qm_G.s1 rfl (qm_x_i2l ⟨by omega, by omega⟩) ?_
            refine qm_G.s1 rfl (qm_x_lload rfl) ?_
            refine qm_G.s1 rfl (qm_x_lsubz) ?_
            refine qm_G.s1 rfl (qm_x_goto) ?_
            refine qm_G.sp (lv1 := [(0, qm_R (some (0, 9, 0))), (5, qm_I (qm_i ((J 9 0 1) + 1))), (6, qm_I (qm_i ((J 3 0 0) - (J 10 0 0)))), (7, qm_L (qm_l W9))]) rfl rfl (qm_x_lstore (lv' := [(9, qm_L (qm_l ((J 9 0 2) - W9))), (0, qm_R (some (0, 9, 0))), (5, qm_I (qm_i ((J 9 0 1) + 1))), (6, qm_I (qm_i ((J 3 0 0) - (J 10 0 0)))), (7, qm_L (qm_l W9))]) rfl) ?_
            refine qm_G.s1 rfl (qm_x_lload rfl) ?_
            refine qm_G.cs rfl rfl rfl ?_
            refine qm_C.go (cd := qm_P51) (lv := [(0, qm_L (qm_l W9))]) rfl rfl ?_
            refine qm_G.s1 rfl (qm_x_lload rfl) ?_
            refine qm_G.s1 rfl (qm_x_lload rfl) ?_
            refine qm_G.s1 rfl (qm_x_l2i ⟨by omega, by omega⟩) ?_
            refine qm_G.s1 rfl (qm_x_i2l ⟨by omega, by omega⟩) ?_
            refine qm_G.s1 rfl (qm_x_lcmp_eq rfl) ?_
            refine qm_G.s1 rfl (qm_x_if_ne_f ⟨by decide, by decide⟩ (by decide)) ?_
            refine qm_G.s1 rfl (qm_x_pushI 1 rfl) ?_
            refine qm_G.s1 rfl (qm_x_goto) ?_
            refine qm_G.ret rfl rfl ⟨_, rfl, ?_⟩
            refine qm_G.s1 rfl (qm_x_if_eq_f ⟨by decide, by decide⟩ (by decide)) ?_
            refine qm_G.s1 rfl (qm_x_lload rfl) ?_
            refine qm_G.cs rfl rfl rfl ?_
            refine qm_C.go (cd := qm_P51) (lv := [(0, qm_L (qm_l ((J 9 0 2) - W9)))]) rfl rfl ?_
            refine qm_G.s1 rfl (qm_x_lload rfl) ?_
            refine qm_G.s1 rfl (qm_x_lload rfl) ?_
            refine qm_G.s1 rfl (qm_x_l2i ⟨by omega, by omega⟩) ?_
            refine qm_G.s1 rfl (qm_x_i2l ⟨by omega, by omega⟩) ?_
            refine qm_G.s1 rfl (qm_x_lcmp_eq rfl) ?_
            refine qm_G.s1 rfl (qm_x_if_ne_f ⟨by decide, by decide⟩ (by decide)) ?_
            refine qm_G.s1 rfl (qm_x_pushI 1 rfl) ?_
            refine qm_G.s1 rfl (qm_x_goto) ?_
            refine qm_G.ret rfl rfl ⟨_, rfl, ?_⟩
            refine qm_G.s1 rfl (qm_x_if_ne_t ⟨by decide, by decide⟩ (by decide)) ?_
            refine qm_G.sp (lv1 := [(0, qm_R (some (0, 9, 0))), (5, qm_I (qm_i ((J 9 0 1) + 1))), (6, qm_I (qm_i ((J 3 0 0) - (J 10 0 0)))), (9, qm_L (qm_l ((J 9 0 2) - W9)))]) rfl rfl (qm_x_aload rfl) ?_
            refine qm_G.s1 rfl (qm_x_iload rfl) ?_
            refine qm_G.s1 rfl (qm_x_putfI (hS 9 rfl)) ?_
            refine qm_G.s1 rfl (qm_x_aload rfl) ?_
            refine qm_G.s1 rfl (qm_x_lload rfl) ?_
            refine qm_G.s1 rfl (qm_x_l2i ⟨by omega, by omega⟩) ?_
            refine qm_G.s1 rfl (qm_x_putfI (hS 9 rfl)) ?_
            refine qm_G.s1 rfl (qm_x_aload rfl) ?_
            refine qm_G.s1 rfl (qm_x_iload rfl) ?_
            refine qm_G.s1 rfl (qm_x_i2de (y := P9) (by omega)) ?_
            refine qm_G.cmv rfl rfl (hS 9 rfl) rfl ?_
            refine qm_C.go (cd := qm_P52) (lv := [(0, qm_R (some (0, 9, 0))), (1, qm_D (FP.i2d (qm_i P9)))]) rfl rfl ?_
            refine qm_G.s1 rfl (qm_x_aload rfl) ?_
            refine qm_G.s1 rfl (qm_x_aload rfl) ?_
            refine qm_G.s1 rfl (qm_x_getfD (a := (D 61 0 3)) (hS 9 rfl) hI.tr.spr) ?_
            refine qm_G.s1 rfl (qm_x_push) ?_
            refine qm_G.s1 rfl (qm_x_dmuls t2) ?_
            refine qm_G.s1 rfl (qm_x_dload rfl) ?_
            refine qm_G.s1 rfl (qm_x_aload rfl) ?_
            refine qm_G.s1 rfl (qm_x_getfD (a := (D 61 0 2)) (hS 9 rfl) hI.tr.mid) ?_
            refine qm_G.s1 rfl (qm_x_dsubs t1) ?_
            refine qm_G.s1 rfl (qm_x_dload rfl) ?_
            refine qm_G.s1 rfl (qm_x_aload rfl) ?_
            refine qm_G.s1 rfl (qm_x_getfD (a := (D 61 0 2)) (hS 9 rfl) hI.tr.mid) ?_
            refine qm_G.s1 rfl (qm_x_dsubs t1) ?_
            refine qm_G.s1 rfl (qm_x_dmuls t3) ?_
            refine qm_G.s1 rfl (qm_x_push) ?_
            refine qm_G.s1 rfl (qm_x_dmuls t4) ?_
            refine qm_G.s1 rfl (qm_x_dadds t5) ?_
            refine qm_G.s1 rfl (qm_x_putfD (hS 9 rfl)) ?_
            refine qm_G.s1 rfl (qm_x_aload rfl) ?_
            refine qm_G.s1 rfl (qm_x_aload rfl) ?_
            refine qm_G.s1 rfl (qm_x_getfD (a := (D 61 0 2)) (hS 9 rfl) hI.tr.mid) ?_
            refine qm_G.s1 rfl (qm_x_dload rfl) ?_
            refine qm_G.s1 rfl (qm_x_aload rfl) ?_
            refine qm_G.s1 rfl (qm_x_getfD (a := (D 61 0 2)) (hS 9 rfl) hI.tr.mid) ?_
            refine qm_G.s1 rfl (qm_x_dsubs t1) ?_
            refine qm_G.s1 rfl (qm_x_push) ?_
            refine qm_G.s1 rfl (qm_x_dmuls t6) ?_
            refine qm_G.s1 rfl (qm_x_dadds t7) ?_
            refine qm_G.s1 rfl (qm_x_putfD (hS 9 rfl)) ?_
            refine qm_G.retv rfl ⟨rfl, ?_⟩
            refine qm_G.s1 rfl (qm_x_pushI 100 rfl) ?_
            refine qm_G.s1 rfl (qm_x_aload rfl) ?_
            refine qm_G.s1 rfl (qm_x_getfI (v := ((J 9 0 1) + 1)) (hS 9 rfl) rfl) ?_
            refine qm_G.s1 rfl (qm_x_iadd) ?_
            refine qm_G.ret rfl rfl ⟨_, rfl, ?_⟩
            refine qm_G.ret rfl rfl ⟨_, rfl, ?_⟩
            refine qm_G.s1 rfl (qm_x_aload rfl) ?_
            refine qm_G.s1 rfl (qm_x_aload rfl) ?_
            refine qm_G.s1 rfl (qm_x_iload rfl) ?_
            refine qm_G.s1 rfl (qm_x_pushI 1 rfl) ?_
            refine qm_G.s1 rfl (qm_x_iadd) ?_
            refine qm_G.s1 rfl (qm_x_iald2v (v := 0) (by omega) (by omega) hX e1) ?_
            refine qm_G.cm rfl rfl (hS 61 rfl) rfl ?_
            refine qm_C.go (cd := qm_P143) (lv := [(0, qm_R (some (0, 61, 0))), (1, qm_I (qm_i 0))]) rfl rfl ?_
            refine qm_G.s1 rfl (qm_x_iload rfl) ?_
            refine qm_G.cs rfl rfl rfl ?_
            refine qm_C.go (cd := qm_P83) (lv := [(0, qm_I (qm_i 0))]) rfl rfl ?_
            refine qm_G.s1 rfl (qm_x_iload rfl) ?_
            refine qm_G.s1 rfl (qm_x_pushI 0 rfl) ?_
            refine qm_G.s1 rfl (qm_x_pushI 1 rfl) ?_
            refine qm_G.cs rfl rfl rfl ?_
            refine qm_v_within11_t ⟨by decide, by decide⟩ ⟨by decide, by decide⟩ ⟨by decide, by decide⟩ (by decide) ⟨_, rfl, ?_⟩
            refine qm_G.ret rfl rfl ⟨_, rfl, ?_⟩
            refine qm_G.s1 rfl (qm_x_if_ne_t ⟨by decide, by decide⟩ (by decide)) ?_
            refine qm_G.sp (lv1 := [(0, qm_R (some (0, 61, 0))), (1, qm_I (qm_i 0))]) rfl rfl (qm_x_aload rfl) ?_
            refine qm_G.s1 rfl (qm_x_getfR (q := (some (0, 62, 0))) (hS 61 rfl) (hR 61 0 62 rfl rfl)) ?_
            refine qm_G.s1 rfl (qm_x_pushI 8 rfl) ?_
            refine qm_G.s1 rfl (qm_x_iload rfl) ?_
            refine qm_G.s1 rfl (qm_x_iadd) ?_
            refine qm_G.s1 rfl (qm_x_iald (v := (J 62 0 8)) (qm_arS hS rfl rfl) rfl (by decide) (by decide) (by decide) rfl) ?_
            refine qm_G.s1 rfl (qm_x_istore (lv' := [(2, qm_I (qm_i (J 62 0 8))), (0, qm_R (some (0, 61, 0))), (1, qm_I (qm_i 0))]) rfl) ?_
            refine qm_G.s1 rfl (qm_x_iload rfl) ?_
            refine qm_G.s1 rfl (qm_x_if_ne_f ⟨by decide, by decide⟩ (by decide)) ?_
            refine qm_G.s1 rfl (qm_x_aload rfl) ?_
            refine qm_G.s1 rfl (qm_x_getfR (q := (some (0, 62, 0))) (hS 61 rfl) (hR 61 0 62 rfl rfl)) ?_
            refine qm_G.s1 rfl (qm_x_pushI 10 rfl) ?_
            refine qm_G.s1 rfl (qm_x_iald (v := (J 62 0 10)) (qm_arS hS rfl rfl) rfl (by decide) (by decide) (by decide) rfl) ?_
            refine qm_G.s1 rfl (qm_x_pushI 1 rfl) ?_
            refine qm_G.s1 rfl (qm_x_iadd) ?_
            refine qm_G.s1 rfl (qm_x_goto) ?_
            refine qm_G.sp (lv1 := [(0, qm_R (some (0, 61, 0))), (1, qm_I (qm_i 0)), (2, qm_I (qm_i (J 62 0 8)))]) rfl rfl (qm_x_istore (lv' := [(3, qm_I (qm_i ((J 62 0 10) + 1))), (0, qm_R (some (0, 61, 0))), (1, qm_I (qm_i 0)), (2, qm_I (qm_i (J 62 0 8)))]) rfl) ?_
            refine qm_G.s1 rfl (qm_x_iload rfl) ?_
            refine qm_G.s1 rfl (qm_x_pushI 6 rfl) ?_
            refine qm_G.s1 rfl (qm_x_icmp_eq_f ⟨by omega, by omega⟩ ⟨by decide, by decide⟩ (by omega)) ?_
            refine qm_G.s1 rfl (qm_x_aload rfl) ?_
            refine qm_G.s1 rfl (qm_x_iload rfl) ?_
            refine qm_G.cm rfl rfl (hS 61 rfl) rfl ?_
            refine qm_C.go (cd := qm_P85) (lv := [(0, qm_R (some (0, 61, 0))), (1, qm_I (qm_i ((J 62 0 10) + 1)))]) rfl rfl ?_
            refine qm_G.s1 rfl (qm_x_iload rfl) ?_
            refine qm_G.s1 rfl (qm_x_aload rfl) ?_
            refine qm_G.s1 rfl (qm_x_getfR (q := (some (0, 62, 0))) (hS 61 rfl) (hR 61 0 62 rfl rfl)) ?_
            refine qm_G.s1 rfl (qm_x_pushI 1 rfl) ?_
            refine qm_G.s1 rfl (qm_x_iald (v := (J 62 0 1)) (qm_arS hS rfl rfl) rfl (by decide) (by decide) (by decide) rfl) ?_
            refine qm_G.s1 rfl (qm_x_ineg) ?_
            refine qm_G.s1 rfl (qm_x_aload rfl) ?_
            refine qm_G.s1 rfl (qm_x_getfR (q := (some (0, 62, 0))) (hS 61 rfl) (hR 61 0 62 rfl rfl)) ?_
            refine qm_G.s1 rfl (qm_x_pushI 1 rfl) ?_
            refine qm_G.s1 rfl (qm_x_iald (v := (J 62 0 1)) (qm_arS hS rfl rfl) rfl (by decide) (by decide) (by decide) rfl) ?_
            refine qm_G.cs rfl rfl rfl ?_
            refine qm_v_within11_t ⟨by omega, by omega⟩ ⟨by omega, by omega⟩ ⟨by omega, by omega⟩ (by omega) ⟨_, rfl, ?_⟩
            refine qm_G.ret rfl rfl ⟨_, rfl, ?_⟩
            refine qm_G.s1 rfl (qm_x_if_ne_t ⟨by decide, by decide⟩ (by decide)) ?_
            refine qm_G.sp (lv1 := [(0, qm_R (some (0, 61, 0))), (1, qm_I (qm_i 0)), (2, qm_I (qm_i (J 62 0 8))), (3, qm_I (qm_i ((J 62 0 10) + 1)))]) rfl rfl (qm_x_iload rfl) ?_
            refine qm_G.s1 rfl (qm_x_if_ne_f ⟨by decide, by decide⟩ (by decide)) ?_
            refine qm_G.s1 rfl (qm_x_aload rfl) ?_
            refine qm_G.s1 rfl (qm_x_getfR (q := (some (0, 62, 0))) (hS 61 rfl) (hR 61 0 62 rfl rfl)) ?_
            refine qm_G.s1 rfl (qm_x_pushI 0 rfl) ?_
            refine qm_G.s1 rfl (qm_x_iald (v := (J 62 0 0)) (qm_arS hS rfl rfl) rfl (by decide) (by decide) (by decide) rfl) ?_
            refine qm_G.s1 rfl (qm_x_iload rfl) ?_
            refine qm_G.s1 rfl (qm_x_isub) ?_
            refine qm_G.s1 rfl (qm_x_goto) ?_
            refine qm_G.sp (lv1 := [(0, qm_R (some (0, 61, 0))), (1, qm_I (qm_i 0)), (3, qm_I (qm_i ((J 62 0 10) + 1)))]) rfl rfl (qm_x_istore (lv' := [(4, qm_I (qm_i ((J 62 0 0) - (J 62 0 8)))), (0, qm_R (some (0, 61, 0))), (1, qm_I (qm_i 0)), (3, qm_I (qm_i ((J 62 0 10) + 1)))]) rfl) ?_
            refine qm_G.s1 rfl (qm_x_iload rfl) ?_
            refine qm_G.s1 rfl (qm_x_i2l ⟨by omega, by omega⟩) ?_
            refine qm_G.s1 rfl (qm_x_aload rfl) ?_
            refine qm_G.s1 rfl (qm_x_getfR (q := (some (0, 62, 0))) (hS 61 rfl) (hR 61 0 62 rfl rfl)) ?_
            refine qm_G.s1 rfl (qm_x_pushI 5 rfl) ?_
            refine qm_G.s1 rfl (qm_x_iald (v := (J 62 0 5)) (qm_arS hS rfl rfl) rfl (by decide) (by decide) (by decide) rfl) ?_
            refine qm_G.s1 rfl (qm_x_i2l ⟨by omega, by omega⟩) ?_
            refine qm_G.s1 rfl (qm_x_lmule (w := W9) (by rw [eW9, show ((J 62 0 0) - (J 62 0 8)) = P9 by omega, show (J 62 0 5) = J 62 0 5 by omega])) ?_
            refine qm_G.s1 rfl (qm_x_lstore (lv' := [(5, qm_L (qm_l W9)), (4, qm_I (qm_i ((J 62 0 0) - (J 62 0 8)))), (0, qm_R (some (0, 61, 0))), (1, qm_I (qm_i 0)), (3, qm_I (qm_i ((J 62 0 10) + 1)))]) rfl) ?_
            refine qm_G.s1 rfl (qm_x_iload rfl) ?_
            refine qm_G.s1 rfl (qm_x_if_ne_f ⟨by decide, by decide⟩ (by decide)) ?_
            refine qm_G.s1 rfl (qm_x_aload rfl) ?_
            refine qm_G.s1 rfl (qm_x_getfR (q := (some (0, 62, 0))) (hS 61 rfl) (hR 61 0 62 rfl rfl)) ?_
            refine qm_G.s1 rfl (qm_x_pushI 11 rfl) ?_
            refine qm_G.s1 rfl (qm_x_iald (v := (J 62 0 11)) (qm_arS hS rfl rfl) rfl (by decide) (by decide) (by decide) rfl) ?_
            refine qm_G.s1 rfl (qm_x_i2l ⟨by omega, by omega⟩) ?_
            refine qm_G.s1 rfl (qm_x_lload rfl) ?_
            refine qm_G.s1 rfl (qm_x_lsubz) ?_
            refine qm_G.s1 rfl (qm_x_goto) ?_
            refine qm_G.sp (lv1 := [(0, qm_R (some (0, 61, 0))), (3, qm_I (qm_i ((J 62 0 10) + 1))), (4, qm_I (qm_i ((J 62 0 0) - (J 62 0 8)))), (5, qm_L (qm_l W9))]) rfl rfl (qm_x_lstore (lv' := [(7, qm_L (qm_l ((J 62 0 11) - W9))), (0, qm_R (some (0, 61, 0))), (3, qm_I (qm_i ((J 62 0 10) + 1))), (4, qm_I (qm_i ((J 62 0 0) - (J 62 0 8)))), (5, qm_L (qm_l W9))]) rfl) ?_
            refine qm_G.s1 rfl (qm_x_lload rfl) ?_
            refine qm_G.s1 rfl (qm_x_lload rfl) ?_
            refine qm_G.s1 rfl (qm_x_l2i ⟨by omega, by omega⟩) ?_
            refine qm_G.s1 rfl (qm_x_i2l ⟨by omega, by omega⟩) ?_
            refine qm_G.s1 rfl (qm_x_lcmp_eq rfl) ?_
            refine qm_G.s1 rfl (qm_x_if_ne_f ⟨by decide, by decide⟩ (by decide)) ?_
            refine qm_G.s1 rfl (qm_x_lload rfl) ?_
            refine qm_G.s1 rfl (qm_x_lload rfl) ?_
            refine qm_G.s1 rfl (qm_x_l2i ⟨by omega, by omega⟩) ?_
            refine qm_G.s1 rfl (qm_x_i2l ⟨by omega, by omega⟩) ?_
            refine qm_G.s1 rfl (qm_x_lcmp_eq rfl) ?_
            refine qm_G.s1 rfl (qm_x_if_eq_t ⟨by decide, by decide⟩ (by decide)) ?_
            refine qm_G.sp (lv1 := [(0, qm_R (some (0, 61, 0))), (3, qm_I (qm_i ((J 62 0 10) + 1))), (4, qm_I (qm_i ((J 62 0 0) - (J 62 0 8)))), (7, qm_L (qm_l ((J 62 0 11) - W9)))]) rfl rfl (qm_x_aload rfl) ?_
            refine qm_G.s1 rfl (qm_x_getfR (q := (some (0, 62, 0))) (hS 61 rfl) (hR 61 0 62 rfl rfl)) ?_
            refine qm_G.s1 rfl (qm_x_pushI 10 rfl) ?_
            refine qm_G.s1 rfl (qm_x_iload rfl) ?_
            refine qm_G.s1 rfl (qm_x_iast (qm_arS hS rfl rfl) rfl (by decide) (by decide) (by decide)) ?_
            refine qm_G.s1 rfl (qm_x_aload rfl) ?_
            refine qm_G.s1 rfl (qm_x_getfR (q := (some (0, 62, 0))) (hS 61 rfl) (hR 61 0 62 rfl rfl)) ?_
            refine qm_G.s1 rfl (qm_x_pushI 11 rfl) ?_
            refine qm_G.s1 rfl (qm_x_lload rfl) ?_
            refine qm_G.s1 rfl (qm_x_l2i ⟨by omega, by omega⟩) ?_
            refine qm_G.s1 rfl (qm_x_iast (qm_arS hS rfl rfl) rfl (by decide) (by decide) (by decide)) ?_
            refine qm_G.s1 rfl (qm_x_iload rfl) ?_
            refine qm_G.s1 rfl (qm_x_i2de (y := P9) (by omega)) ?_
            refine qm_G.s1 rfl (qm_x_dstore (lv' := [(9, qm_D (FP.i2d (qm_i P9))), (0, qm_R (some (0, 61, 0))), (3, qm_I (qm_i ((J 62 0 10) + 1))), (4, qm_I (qm_i ((J 62 0 0) - (J 62 0 8)))), (7, qm_L (qm_l ((J 62 0 11) - W9)))]) rfl) ?_
            refine qm_G.s1 rfl (qm_x_aload rfl) ?_
            refine qm_G.s1 rfl (qm_x_aload rfl) ?_
            refine qm_G.s1 rfl (qm_x_getfD (a := (D 61 0 3)) (hS 61 rfl) rfl) ?_
            refine qm_G.s1 rfl (qm_x_push) ?_
            refine qm_G.s1 rfl (qm_x_dmuls t2) ?_
            refine qm_G.s1 rfl (qm_x_dload rfl) ?_
            refine qm_G.s1 rfl (qm_x_aload rfl) ?_
            refine qm_G.s1 rfl (qm_x_getfD (a := (D 61 0 2)) (hS 61 rfl) rfl) ?_
            refine qm_G.s1 rfl (qm_x_dsubs t1) ?_
            refine qm_G.s1 rfl (qm_x_dload rfl) ?_
            refine qm_G.s1 rfl (qm_x_aload rfl) ?_
            refine qm_G.s1 rfl (qm_x_getfD (a := (D 61 0 2)) (hS 61 rfl) rfl) ?_
            refine qm_G.s1 rfl (qm_x_dsubs t1) ?_
            refine qm_G.s1 rfl (qm_x_dmuls t3) ?_
            refine qm_G.s1 rfl (qm_x_push) ?_
            refine qm_G.s1 rfl (qm_x_dmuls t4) ?_
            refine qm_G.s1 rfl (qm_x_dadds t5) ?_
            refine qm_G.s1 rfl (qm_x_putfD (hS 61 rfl)) ?_
            refine qm_G.s1 rfl (qm_x_aload rfl) ?_
            refine qm_G.s1 rfl (qm_x_aload rfl) ?_
            refine qm_G.s1 rfl (qm_x_getfD (a := (D 61 0 2)) (hS 61 rfl) rfl) ?_
            refine qm_G.s1 rfl (qm_x_dload rfl) ?_
            refine qm_G.s1 rfl (qm_x_aload rfl) ?_
            refine qm_G.s1 rfl (qm_x_getfD (a := (D 61 0 2)) (hS 61 rfl) rfl) ?_
            refine qm_G.s1 rfl (qm_x_dsubs t1) ?_
            refine qm_G.s1 rfl (qm_x_push) ?_
            refine qm_G.s1 rfl (qm_x_dmuls t6) ?_
            refine qm_G.s1 rfl (qm_x_dadds t7) ?_
            refine qm_G.s1 rfl (qm_x_putfD (hS 61 rfl)) ?_
            refine qm_G.s1 rfl (qm_x_iload rfl) ?_
            refine qm_G.s1 rfl (qm_x_pushI 100 rfl) ?_
            refine qm_G.s1 rfl (qm_x_iadd) ?_
            refine qm_G.ret rfl rfl ⟨_, rfl, ?_⟩
            refine qm_G.s1 rfl (qm_x_icmp_eq_t ⟨by omega, by omega⟩ ⟨by omega, by omega⟩ (by omega)) ?_
            rw [show (J 9 0 1) + 1 = (J 62 0 10) + 1 by omega]
            rw [show ((J 9 0 2) - W9) = ((J 62 0 11) - W9) by omega]
            exact ih _ _ _ _ _ _ (qm_U_trade (by omega) ⟨by omega, by omega⟩ ⟨c9 + 1, by omega, t8, t9⟩ hI)
          · refine qm_G.s1 rfl (qm_x_if_ne_f ⟨by decide, by decide⟩ (by decide)) ?_
            refine qm_G.sp (lv1 := []) rfl rfl (qm_x_pushI (-3) rfl) ?_
            refine qm_G.ret rfl rfl ⟨_, rfl, ?_⟩
            refine qm_G.ret rfl rfl ⟨_, rfl, ?_⟩
            refine qm_G.s1 rfl (qm_x_aload rfl) ?_
            refine qm_G.s1 rfl (qm_x_aload rfl) ?_
            refine qm_G.s1 rfl (qm_x_iload rfl) ?_
            refine qm_G.s1 rfl (qm_x_pushI 1 rfl) ?_
            refine qm_G.s1 rfl (qm_x_iadd) ?_
            refine qm_G.s1 rfl (qm_x_iald2v (v := 0) (by omega) (by omega) hX e1) ?_
            refine qm_G.cm rfl rfl (hS 61 rfl) rfl ?_
            refine qm_C.go (cd := qm_P143) (lv := [(0, qm_R (some (0, 61, 0))), (1, qm_I (qm_i 0))]) rfl rfl ?_
            refine qm_G.s1 rfl (qm_x_iload rfl) ?_
            refine qm_G.cs rfl rfl rfl ?_
            refine qm_C.go (cd := qm_P83) (lv := [(0, qm_I (qm_i 0))]) rfl rfl ?_
            refine qm_G.s1 rfl (qm_x_iload rfl) ?_
            refine qm_G.s1 rfl (qm_x_pushI 0 rfl) ?_
            refine qm_G.s1 rfl (qm_x_pushI 1 rfl) ?_
            refine qm_G.cs rfl rfl rfl ?_
            refine qm_v_within11_t ⟨by decide, by decide⟩ ⟨by decide, by decide⟩ ⟨by decide, by decide⟩ (by decide) ⟨_, rfl, ?_⟩
            refine qm_G.ret rfl rfl ⟨_, rfl, ?_⟩
            refine qm_G.s1 rfl (qm_x_if_ne_t ⟨by decide, by decide⟩ (by decide)) ?_
            refine qm_G.sp (lv1 := [(0, qm_R (some (0, 61, 0))), (1, qm_I (qm_i 0))]) rfl rfl (qm_x_aload rfl) ?_
            refine qm_G.s1 rfl (qm_x_getfR (q := (some (0, 62, 0))) (hS 61 rfl) (hR 61 0 62 rfl rfl)) ?_
            refine qm_G.s1 rfl (qm_x_pushI 8 rfl) ?_
            refine qm_G.s1 rfl (qm_x_iload rfl) ?_
            refine qm_G.s1 rfl (qm_x_iadd) ?_
            refine qm_G.s1 rfl (qm_x_iald (v := (J 62 0 8)) (qm_arS hS rfl rfl) rfl (by decide) (by decide) (by decide) rfl) ?_
            refine qm_G.s1 rfl (qm_x_istore (lv' := [(2, qm_I (qm_i (J 62 0 8))), (0, qm_R (some (0, 61, 0))), (1, qm_I (qm_i 0))]) rfl) ?_
            refine qm_G.s1 rfl (qm_x_iload rfl) ?_
            refine qm_G.s1 rfl (qm_x_if_ne_f ⟨by decide, by decide⟩ (by decide)) ?_
            refine qm_G.s1 rfl (qm_x_aload rfl) ?_
            refine qm_G.s1 rfl (qm_x_getfR (q := (some (0, 62, 0))) (hS 61 rfl) (hR 61 0 62 rfl rfl)) ?_
            refine qm_G.s1 rfl (qm_x_pushI 10 rfl) ?_
            refine qm_G.s1 rfl (qm_x_iald (v := (J 62 0 10)) (qm_arS hS rfl rfl) rfl (by decide) (by decide) (by decide) rfl) ?_
            refine qm_G.s1 rfl (qm_x_pushI 1 rfl) ?_
            refine qm_G.s1 rfl (qm_x_iadd) ?_
            refine qm_G.s1 rfl (qm_x_goto) ?_
            refine qm_G.sp (lv1 := [(0, qm_R (some (0, 61, 0))), (1, qm_I (qm_i 0)), (2, qm_I (qm_i (J 62 0 8)))]) rfl rfl (qm_x_istore (lv' := [(3, qm_I (qm_i ((J 62 0 10) + 1))), (0, qm_R (some (0, 61, 0))), (1, qm_I (qm_i 0)), (2, qm_I (qm_i (J 62 0 8)))]) rfl) ?_
            refine qm_G.s1 rfl (qm_x_iload rfl) ?_
            refine qm_G.s1 rfl (qm_x_pushI 6 rfl) ?_
            refine qm_G.s1 rfl (qm_x_icmp_eq_f ⟨by omega, by omega⟩ ⟨by decide, by decide⟩ (by omega)) ?_
            refine qm_G.s1 rfl (qm_x_aload rfl) ?_
            refine qm_G.s1 rfl (qm_x_iload rfl) ?_
            refine qm_G.cm rfl rfl (hS 61 rfl) rfl ?_
            refine qm_C.go (cd := qm_P85) (lv := [(0, qm_R (some (0, 61, 0))), (1, qm_I (qm_i ((J 62 0 10) + 1)))]) rfl rfl ?_
            refine qm_G.s1 rfl (qm_x_iload rfl) ?_
            refine qm_G.s1 rfl (qm_x_aload rfl) ?_
            refine qm_G.s1 rfl (qm_x_getfR (q := (some (0, 62, 0))) (hS 61 rfl) (hR 61 0 62 rfl rfl)) ?_
            refine qm_G.s1 rfl (qm_x_pushI 1 rfl) ?_
            refine qm_G.s1 rfl (qm_x_iald (v := (J 62 0 1)) (qm_arS hS rfl rfl) rfl (by decide) (by decide) (by decide) rfl) ?_
            refine qm_G.s1 rfl (qm_x_ineg) ?_
            refine qm_G.s1 rfl (qm_x_aload rfl) ?_
            refine qm_G.s1 rfl (qm_x_getfR (q := (some (0, 62, 0))) (hS 61 rfl) (hR 61 0 62 rfl rfl)) ?_
            refine qm_G.s1 rfl (qm_x_pushI 1 rfl) ?_
            refine qm_G.s1 rfl (qm_x_iald (v := (J 62 0 1)) (qm_arS hS rfl rfl) rfl (by decide) (by decide) (by decide) rfl) ?_
            refine qm_G.cs rfl rfl rfl ?_
            refine qm_v_within11_f ⟨by omega, by omega⟩ ⟨by omega, by omega⟩ ⟨by omega, by omega⟩ (by omega) ⟨_, rfl, ?_⟩
            refine qm_G.ret rfl rfl ⟨_, rfl, ?_⟩
            refine qm_G.s1 rfl (qm_x_if_ne_f ⟨by decide, by decide⟩ (by decide)) ?_
            refine qm_G.sp (lv1 := []) rfl rfl (qm_x_pushI (-3) rfl) ?_
            refine qm_G.ret rfl rfl ⟨_, rfl, ?_⟩
            refine qm_G.s1 rfl (qm_x_icmp_eq_t ⟨by decide, by decide⟩ ⟨by decide, by decide⟩ (by decide)) ?_
            exact ih _ _ _ _ _ _ hI.next
      · refine qm_G.sp (lv1 := [(0, qm_R (some (0, 0, 0))), (1, qm_I (qm_i 0))]) rfl rfl (qm_x_aload rfl) ?_
        refine qm_G.s1 rfl (qm_x_getfR (q := (some (0, 1, 0))) (hS 0 rfl) (hR 0 0 1 rfl rfl)) ?_
        refine qm_G.s1 rfl (qm_x_getfR (q := (some (0, 2, 0))) (hS 1 rfl) (hR 1 0 2 rfl rfl)) ?_
        refine qm_G.s1 rfl (qm_x_getfR (q := (some (0, 3, 0))) (hS 2 rfl) (hR 2 0 3 rfl rfl)) ?_
        refine qm_G.s1 rfl (qm_x_astore (lv' := [(2, qm_R (some (0, 3, 0))), (0, qm_R (some (0, 0, 0))), (1, qm_I (qm_i 0))]) rfl) ?_
        refine qm_G.s1 rfl (qm_x_aload rfl) ?_
        refine qm_G.s1 rfl (qm_x_getfR (q := (some (0, 1, 0))) (hS 0 rfl) (hR 0 0 1 rfl rfl)) ?_
        refine qm_G.s1 rfl (qm_x_getfR (q := (some (0, 9, 0))) (hS 1 rfl) (hR 1 1 9 rfl rfl)) ?_
        refine qm_G.s1 rfl (qm_x_iload rfl) ?_
        refine qm_G.s1 rfl (qm_x_aload rfl) ?_
        refine qm_G.s1 rfl (qm_x_pushI 0 rfl) ?_
        have f3_0 : J 3 0 0 = J 62 0 0 := hI.mk.set 0 (by decide)
        refine qm_G.s1 rfl (qm_x_iald (v := (J 3 0 0)) (qm_arS hS rfl rfl) rfl (by decide) (by decide) (by decide) rfl) ?_
        refine qm_G.s1 rfl (qm_x_aload rfl) ?_
        refine qm_G.s1 rfl (qm_x_pushI 1 rfl) ?_
        have f62_1 : 1 ≤ J 62 0 1 ∧ J 62 0 1 ≤ 8 := hI.mk.r1
        have f3_1 : J 3 0 1 = J 62 0 1 := hI.mk.set 1 (by decide)
        refine qm_G.s1 rfl (qm_x_iald (v := (J 3 0 1)) (qm_arS hS rfl rfl) rfl (by decide) (by decide) (by decide) rfl) ?_
        refine qm_G.s1 rfl (qm_x_aload rfl) ?_
        refine qm_G.s1 rfl (qm_x_pushI 5 rfl) ?_
        have f3_5 : J 3 0 5 = J 62 0 5 := hI.mk.set 5 (by decide)
        refine qm_G.s1 rfl (qm_x_iald (v := (J 3 0 5)) (qm_arS hS rfl rfl) rfl (by decide) (by decide) (by decide) rfl) ?_
        refine qm_G.cm rfl rfl (hS 9 rfl) rfl ?_
        refine qm_C.go (cd := qm_P96) (lv := [(0, qm_R (some (0, 9, 0))), (1, qm_I (qm_i 0)), (2, qm_I (qm_i (J 3 0 0))), (3, qm_I (qm_i (J 3 0 1))), (4, qm_I (qm_i (J 3 0 5)))]) rfl rfl ?_
        refine qm_G.s1 rfl (qm_x_iload rfl) ?_
        refine qm_G.s1 rfl (qm_x_if_ne_f ⟨by decide, by decide⟩ (by decide)) ?_
        refine qm_G.s1 rfl (qm_x_aload rfl) ?_
        have f9_1 : J 9 0 1 = J 62 0 10 := hI.tr.stk
        refine qm_G.s1 rfl (qm_x_getfI (v := (J 9 0 1)) (hS 9 rfl) rfl) ?_
        refine qm_G.s1 rfl (qm_x_pushI 1 rfl) ?_
        refine qm_G.s1 rfl (qm_x_iadd) ?_
        refine qm_G.s1 rfl (qm_x_goto) ?_
        refine qm_G.sp (lv1 := [(0, qm_R (some (0, 9, 0))), (1, qm_I (qm_i 0)), (2, qm_I (qm_i (J 3 0 0))), (3, qm_I (qm_i (J 3 0 1))), (4, qm_I (qm_i (J 3 0 5)))]) rfl rfl (qm_x_istore (lv' := [(5, qm_I (qm_i ((J 9 0 1) + 1))), (0, qm_R (some (0, 9, 0))), (1, qm_I (qm_i 0)), (2, qm_I (qm_i (J 3 0 0))), (3, qm_I (qm_i (J 3 0 1))), (4, qm_I (qm_i (J 3 0 5)))]) rfl) ?_
        refine qm_G.s1 rfl (qm_x_aload rfl) ?_
        refine qm_G.s1 rfl (qm_x_getfR (q := (some (0, 10, 0))) (hS 9 rfl) (hR 9 0 10 rfl rfl)) ?_
        refine qm_G.s1 rfl (qm_x_iload rfl) ?_
        have f10_0 : J 10 0 0 = J 62 0 8 := hI.tr.qb
        refine qm_G.s1 rfl (qm_x_iald (v := (J 10 0 0)) (qm_arS hS rfl rfl) rfl (by decide) (by decide) (by decide) rfl) ?_
        refine qm_G.s1 rfl (qm_x_pushI 6 rfl) ?_
        refine qm_y_icmp_eq rfl ⟨by omega, by omega⟩ ⟨by decide, by decide⟩ (fun c9 => ?_) (fun c9 => ?_)
        · refine qm_G.sp (lv1 := []) rfl rfl (qm_x_pushI (-3) rfl) ?_
          refine qm_G.ret rfl rfl ⟨_, rfl, ?_⟩
          refine qm_G.ret rfl rfl ⟨_, rfl, ?_⟩
          refine qm_G.s1 rfl (qm_x_aload rfl) ?_
          refine qm_G.s1 rfl (qm_x_aload rfl) ?_
          refine qm_G.s1 rfl (qm_x_iload rfl) ?_
          refine qm_G.s1 rfl (qm_x_pushI 1 rfl) ?_
          refine qm_G.s1 rfl (qm_x_iadd) ?_
          refine qm_G.s1 rfl (qm_x_iald2v (v := 0) (by omega) (by omega) hX e1) ?_
          refine qm_G.cm rfl rfl (hS 61 rfl) rfl ?_
          refine qm_C.go (cd := qm_P143) (lv := [(0, qm_R (some (0, 61, 0))), (1, qm_I (qm_i 0))]) rfl rfl ?_
          refine qm_G.s1 rfl (qm_x_iload rfl) ?_
          refine qm_G.cs rfl rfl rfl ?_
          refine qm_C.go (cd := qm_P83) (lv := [(0, qm_I (qm_i 0))]) rfl rfl ?_
          refine qm_G.s1 rfl (qm_x_iload rfl) ?_
          refine qm_G.s1 rfl (qm_x_pushI 0 rfl) ?_
          refine qm_G.s1 rfl (qm_x_pushI 1 rfl) ?_
          refine qm_G.cs rfl rfl rfl ?_
          refine qm_v_within11_t ⟨by decide, by decide⟩ ⟨by decide, by decide⟩ ⟨by decide, by decide⟩ (by decide) ⟨_, rfl, ?_⟩
          refine qm_G.ret rfl rfl ⟨_, rfl, ?_⟩
          refine qm_G.s1 rfl (qm_x_if_ne_t ⟨by decide, by decide⟩ (by decide)) ?_
          refine qm_G.sp (lv1 := [(0, qm_R (some (0, 61, 0))), (1, qm_I (qm_i 0))]) rfl rfl (qm_x_aload rfl) ?_
          refine qm_G.s1 rfl (qm_x_getfR (q := (some (0, 62, 0))) (hS 61 rfl) (hR 61 0 62 rfl rfl)) ?_
          refine qm_G.s1 rfl (qm_x_pushI 8 rfl) ?_
          refine qm_G.s1 rfl (qm_x_iload rfl) ?_
          refine qm_G.s1 rfl (qm_x_iadd) ?_
          refine qm_G.s1 rfl (qm_x_iald (v := (J 62 0 8)) (qm_arS hS rfl rfl) rfl (by decide) (by decide) (by decide) rfl) ?_
          refine qm_G.s1 rfl (qm_x_istore (lv' := [(2, qm_I (qm_i (J 62 0 8))), (0, qm_R (some (0, 61, 0))), (1, qm_I (qm_i 0))]) rfl) ?_
          refine qm_G.s1 rfl (qm_x_iload rfl) ?_
          refine qm_G.s1 rfl (qm_x_if_ne_f ⟨by decide, by decide⟩ (by decide)) ?_
          refine qm_G.s1 rfl (qm_x_aload rfl) ?_
          refine qm_G.s1 rfl (qm_x_getfR (q := (some (0, 62, 0))) (hS 61 rfl) (hR 61 0 62 rfl rfl)) ?_
          refine qm_G.s1 rfl (qm_x_pushI 10 rfl) ?_
          refine qm_G.s1 rfl (qm_x_iald (v := (J 62 0 10)) (qm_arS hS rfl rfl) rfl (by decide) (by decide) (by decide) rfl) ?_
          refine qm_G.s1 rfl (qm_x_pushI 1 rfl) ?_
          refine qm_G.s1 rfl (qm_x_iadd) ?_
          refine qm_G.s1 rfl (qm_x_goto) ?_
          refine qm_G.sp (lv1 := [(0, qm_R (some (0, 61, 0))), (1, qm_I (qm_i 0)), (2, qm_I (qm_i (J 62 0 8)))]) rfl rfl (qm_x_istore (lv' := [(3, qm_I (qm_i ((J 62 0 10) + 1))), (0, qm_R (some (0, 61, 0))), (1, qm_I (qm_i 0)), (2, qm_I (qm_i (J 62 0 8)))]) rfl) ?_
          refine qm_G.s1 rfl (qm_x_iload rfl) ?_
          refine qm_G.s1 rfl (qm_x_pushI 6 rfl) ?_
          refine qm_G.s1 rfl (qm_x_icmp_eq_t ⟨by omega, by omega⟩ ⟨by decide, by decide⟩ (by omega)) ?_
          refine qm_G.sp (lv1 := []) rfl rfl (qm_x_pushI (-3) rfl) ?_
          refine qm_G.ret rfl rfl ⟨_, rfl, ?_⟩
          refine qm_G.s1 rfl (qm_x_icmp_eq_t ⟨by decide, by decide⟩ ⟨by decide, by decide⟩ (by decide)) ?_
          exact ih _ _ _ _ _ _ hI.next
        · refine qm_G.s1 rfl (qm_x_iload rfl) ?_
          refine qm_G.s1 rfl (qm_x_iload rfl) ?_
          refine qm_G.s1 rfl (qm_x_ineg) ?_
          refine qm_G.s1 rfl (qm_x_iload rfl) ?_
          refine qm_G.cs rfl rfl rfl ?_
          refine qm_v_within10 ⟨by omega, by omega⟩ ⟨by omega, by omega⟩ ⟨by omega, by omega⟩ (fun c11 => ⟨_, rfl, ?_⟩) (fun c11 => ⟨_, rfl, ?_⟩)
          · refine qm_G.s1 rfl (qm_x_if_ne_t ⟨by decide, by decide⟩ (by decide)) ?_
            refine qm_G.sp (lv1 := [(0, qm_R (some (0, 9, 0))), (1, qm_I (qm_i 0)), (2, qm_I (qm_i (J 3 0 0))), (4, qm_I (qm_i (J 3 0 5))), (5, qm_I (qm_i ((J 9 0 1) + 1)))]) rfl rfl (qm_x_iload rfl) ?_
            refine qm_G.s1 rfl (qm_x_if_ne_f ⟨by decide, by decide⟩ (by decide)) ?_
            refine qm_G.s1 rfl (qm_x_iload rfl) ?_
            refine qm_G.s1 rfl (qm_x_aload rfl) ?_
            refine qm_G.s1 rfl (qm_x_getfR (q := (some (0, 10, 0))) (hS 9 rfl) (hR 9 0 10 rfl rfl)) ?_
            refine qm_G.s1 rfl (qm_x_pushI 0 rfl) ?_
            refine qm_G.s1 rfl (qm_x_iald (v := (J 10 0 0)) (qm_arS hS rfl rfl) rfl (by decide) (by decide) (by decide) rfl) ?_
            refine qm_G.s1 rfl (qm_x_isub) ?_
            refine qm_G.s1 rfl (qm_x_goto) ?_
            refine qm_G.sp (lv1 := [(0, qm_R (some (0, 9, 0))), (1, qm_I (qm_i 0)), (4, qm_I (qm_i (J 3 0 5))), (5, qm_I (qm_i ((J 9 0 1) + 1)))]) rfl rfl (qm_x_istore (lv' := [(6, qm_I (qm_i ((J 3 0 0) - (J 10 0 0)))), (0, qm_R (some (0, 9, 0))), (1, qm_I (qm_i 0)), (4, qm_I (qm_i (J 3 0 5))), (5, qm_I (qm_i ((J 9 0 1) + 1)))]) rfl) ?_
            refine qm_G.s1 rfl (qm_x_iload rfl) ?_
            refine qm_G.s1 rfl (qm_x_i2l ⟨by omega, by omega⟩) ?_
            refine qm_G.s1 rfl (qm_x_iload rfl) ?_
            refine qm_G.s1 rfl (qm_x_i2l ⟨by omega, by omega⟩) ?_
            refine qm_G.s1 rfl (qm_x_lmule (w := W9) (by rw [eW9, show ((J 3 0 0) - (J 10 0 0)) = P9 by omega, show (J 3 0 5) = J 62 0 5 by omega])) ?_
            refine qm_G.s1 rfl (qm_x_lstore (lv' := [(7, qm_L (qm_l W9)), (6, qm_I (qm_i ((J 3 0 0) - (J 10 0 0)))), (0, qm_R (some (0, 9, 0))), (1, qm_I (qm_i 0)), (4, qm_I (qm_i (J 3 0 5))), (5, qm_I (qm_i ((J 9 0 1) + 1)))]) rfl) ?_
            refine qm_G.s1 rfl (qm_x_iload rfl) ?_
            refine qm_G.s1 rfl (qm_x_if_ne_f ⟨by decide, by decide⟩ (by decide)) ?_
            refine qm_G.s1 rfl (qm_x_aload rfl) ?_
            have f9_2 : J 9 0 2 = J 62 0 11 := hI.tr.csh
            refine qm_G.s1 rfl (qm_x_getfI (v := (J 9 0 2)) (hS 9 rfl) rfl) ?_
            refine qm_G.s1 rfl (qm_x_i2l ⟨by omega, by omega⟩) ?_
            refine qm_G.s1 rfl (qm_x_lload rfl) ?_
            refine qm_G.s1 rfl (qm_x_lsubz) ?_
            refine qm_G.s1 rfl (qm_x_goto) ?_
            refine qm_G.sp (lv1 := [(0, qm_R (some (0, 9, 0))), (5, qm_I (qm_i ((J 9 0 1) + 1))), (6, qm_I (qm_i ((J 3 0 0) - (J 10 0 0)))), (7, qm_L (qm_l W9))]) rfl rfl (qm_x_lstore (lv' := [(9, qm_L (qm_l ((J 9 0 2) - W9))), (0, qm_R (some (0, 9, 0))), (5, qm_I (qm_i ((J 9 0 1) + 1))), (6, qm_I (qm_i ((J 3 0 0) - (J 10 0 0)))), (7, qm_L (qm_l W9))]) rfl) ?_
            refine qm_G.s1 rfl (qm_x_lload rfl) ?_
            refine qm_G.cs rfl rfl rfl ?_
            refine qm_C.go (cd := qm_P51) (lv := [(0, qm_L (qm_l W9))]) rfl rfl ?_
            refine qm_G.s1 rfl (qm_x_lload rfl) ?_
            refine qm_G.s1 rfl (qm_x_lload rfl) ?_
            refine qm_G.s1 rfl (qm_x_l2i ⟨by omega, by omega⟩) ?_
            refine qm_G.s1 rfl (qm_x_i2l ⟨by omega, by omega⟩) ?_
            refine qm_G.s1 rfl (qm_x_lcmp_eq rfl) ?_
            refine qm_G.s1 rfl (qm_x_if_ne_f ⟨by decide, by decide⟩ (by decide)) ?_
            refine qm_G.s1 rfl (qm_x_pushI 1 rfl) ?_
            refine qm_G.s1 rfl (qm_x_goto) ?_
            refine qm_G.ret rfl rfl ⟨_, rfl, ?_⟩
            refine qm_G.s1 rfl (qm_x_if_eq_f ⟨by decide, by decide⟩ (by decide)) ?_
            refine qm_G.s1 rfl (qm_x_lload rfl) ?_
            refine qm_G.cs rfl rfl rfl ?_
            refine qm_C.go (cd := qm_P51) (lv := [(0, qm_L (qm_l ((J 9 0 2) - W9)))]) rfl rfl ?_
            refine qm_G.s1 rfl (qm_x_lload rfl) ?_
            refine qm_G.s1 rfl (qm_x_lload rfl) ?_
            refine qm_G.s1 rfl (qm_x_l2ir) ?_
            have g12 : qm_sm ((qm_l ((J 9 0 2) - W9)).toInt32.toInt) := qm_i_sml _
            refine qm_G.s1 rfl (qm_x_i2l ⟨by omega, by omega⟩) ?_
            refine qm_G.s1 rfl (qm_x_lcmpz_lt ⟨by omega, by omega⟩ ⟨by omega, by omega⟩ (by omega)) ?_
            refine qm_G.s1 rfl (qm_x_if_ne_t ⟨by decide, by decide⟩ (by decide)) ?_
            refine qm_G.sp (lv1 := []) rfl rfl (qm_x_pushI 0 rfl) ?_
            refine qm_G.ret rfl rfl ⟨_, rfl, ?_⟩
            refine qm_G.s1 rfl (qm_x_if_ne_f ⟨by decide, by decide⟩ (by decide)) ?_
            refine qm_G.sp (lv1 := []) rfl rfl (qm_x_pushI (-15) rfl) ?_
            refine qm_G.ret rfl rfl ⟨_, rfl, ?_⟩
            refine qm_G.ret rfl rfl ⟨_, rfl, ?_⟩
            refine qm_G.s1 rfl (qm_x_aload rfl) ?_
            refine qm_G.s1 rfl (qm_x_aload rfl) ?_
            refine qm_G.s1 rfl (qm_x_iload rfl) ?_
            refine qm_G.s1 rfl (qm_x_pushI 1 rfl) ?_
            refine qm_G.s1 rfl (qm_x_iadd) ?_
            refine qm_G.s1 rfl (qm_x_iald2v (v := 0) (by omega) (by omega) hX e1) ?_
            refine qm_G.cm rfl rfl (hS 61 rfl) rfl ?_
            refine qm_C.go (cd := qm_P143) (lv := [(0, qm_R (some (0, 61, 0))), (1, qm_I (qm_i 0))]) rfl rfl ?_
            refine qm_G.s1 rfl (qm_x_iload rfl) ?_
            refine qm_G.cs rfl rfl rfl ?_
            refine qm_C.go (cd := qm_P83) (lv := [(0, qm_I (qm_i 0))]) rfl rfl ?_
            refine qm_G.s1 rfl (qm_x_iload rfl) ?_
            refine qm_G.s1 rfl (qm_x_pushI 0 rfl) ?_
            refine qm_G.s1 rfl (qm_x_pushI 1 rfl) ?_
            refine qm_G.cs rfl rfl rfl ?_
            refine qm_v_within11_t ⟨by decide, by decide⟩ ⟨by decide, by decide⟩ ⟨by decide, by decide⟩ (by decide) ⟨_, rfl, ?_⟩
            refine qm_G.ret rfl rfl ⟨_, rfl, ?_⟩
            refine qm_G.s1 rfl (qm_x_if_ne_t ⟨by decide, by decide⟩ (by decide)) ?_
            refine qm_G.sp (lv1 := [(0, qm_R (some (0, 61, 0))), (1, qm_I (qm_i 0))]) rfl rfl (qm_x_aload rfl) ?_
            refine qm_G.s1 rfl (qm_x_getfR (q := (some (0, 62, 0))) (hS 61 rfl) (hR 61 0 62 rfl rfl)) ?_
            refine qm_G.s1 rfl (qm_x_pushI 8 rfl) ?_
            refine qm_G.s1 rfl (qm_x_iload rfl) ?_
            refine qm_G.s1 rfl (qm_x_iadd) ?_
            refine qm_G.s1 rfl (qm_x_iald (v := (J 62 0 8)) (qm_arS hS rfl rfl) rfl (by decide) (by decide) (by decide) rfl) ?_
            refine qm_G.s1 rfl (qm_x_istore (lv' := [(2, qm_I (qm_i (J 62 0 8))), (0, qm_R (some (0, 61, 0))), (1, qm_I (qm_i 0))]) rfl) ?_
            refine qm_G.s1 rfl (qm_x_iload rfl) ?_
            refine qm_G.s1 rfl (qm_x_if_ne_f ⟨by decide, by decide⟩ (by decide)) ?_
            refine qm_G.s1 rfl (qm_x_aload rfl) ?_
            refine qm_G.s1 rfl (qm_x_getfR (q := (some (0, 62, 0))) (hS 61 rfl) (hR 61 0 62 rfl rfl)) ?_
            refine qm_G.s1 rfl (qm_x_pushI 10 rfl) ?_
            refine qm_G.s1 rfl (qm_x_iald (v := (J 62 0 10)) (qm_arS hS rfl rfl) rfl (by decide) (by decide) (by decide) rfl) ?_
            refine qm_G.s1 rfl (qm_x_pushI 1 rfl) ?_
            refine qm_G.s1 rfl (qm_x_iadd) ?_
            refine qm_G.s1 rfl (qm_x_goto) ?_
            refine qm_G.sp (lv1 := [(0, qm_R (some (0, 61, 0))), (1, qm_I (qm_i 0)), (2, qm_I (qm_i (J 62 0 8)))]) rfl rfl (qm_x_istore (lv' := [(3, qm_I (qm_i ((J 62 0 10) + 1))), (0, qm_R (some (0, 61, 0))), (1, qm_I (qm_i 0)), (2, qm_I (qm_i (J 62 0 8)))]) rfl) ?_
            refine qm_G.s1 rfl (qm_x_iload rfl) ?_
            refine qm_G.s1 rfl (qm_x_pushI 6 rfl) ?_
            refine qm_G.s1 rfl (qm_x_icmp_eq_f ⟨by omega, by omega⟩ ⟨by decide, by decide⟩ (by omega)) ?_
            refine qm_G.s1 rfl (qm_x_aload rfl) ?_
            refine qm_G.s1 rfl (qm_x_iload rfl) ?_
            refine qm_G.cm rfl rfl (hS 61 rfl) rfl ?_
            refine qm_C.go (cd := qm_P85) (lv := [(0, qm_R (some (0, 61, 0))), (1, qm_I (qm_i ((J 62 0 10) + 1)))]) rfl rfl ?_
            refine qm_G.s1 rfl (qm_x_iload rfl) ?_
            refine qm_G.s1 rfl (qm_x_aload rfl) ?_
            refine qm_G.s1 rfl (qm_x_getfR (q := (some (0, 62, 0))) (hS 61 rfl) (hR 61 0 62 rfl rfl)) ?_
            refine qm_G.s1 rfl (qm_x_pushI 1 rfl) ?_
            refine qm_G.s1 rfl (qm_x_iald (v := (J 62 0 1)) (qm_arS hS rfl rfl) rfl (by decide) (by decide) (by decide) rfl) ?_
            refine qm_G.s1 rfl (qm_x_ineg) ?_
            refine qm_G.s1 rfl (qm_x_aload rfl) ?_
            refine qm_G.s1 rfl (qm_x_getfR (q := (some (0, 62, 0))) (hS 61 rfl) (hR 61 0 62 rfl rfl)) ?_
            refine qm_G.s1 rfl (qm_x_pushI 1 rfl) ?_
            refine qm_G.s1 rfl (qm_x_iald (v := (J 62 0 1)) (qm_arS hS rfl rfl) rfl (by decide) (by decide) (by decide) rfl) ?_
            refine qm_G.cs rfl rfl rfl ?_
            refine qm_v_within11_t ⟨by omega, by omega⟩ ⟨by omega, by omega⟩ ⟨by omega, by omega⟩ (by omega) ⟨_, rfl, ?_⟩
            refine qm_G.ret rfl rfl ⟨_, rfl, ?_⟩
            refine qm_G.s1 rfl (qm_x_if_ne_t ⟨by decide, by decide⟩ (by decide)) ?_
            refine qm_G.sp (lv1 := [(0, qm_R (some (0, 61, 0))), (1, qm_I (qm_i 0)), (2, qm_I (qm_i (J 62 0 8))), (3, qm_I (qm_i ((J 62 0 10) + 1)))]) rfl rfl (qm_x_iload rfl) ?_
            refine qm_G.s1 rfl (qm_x_if_ne_f ⟨by decide, by decide⟩ (by decide)) ?_
            refine qm_G.s1 rfl (qm_x_aload rfl) ?_
            refine qm_G.s1 rfl (qm_x_getfR (q := (some (0, 62, 0))) (hS 61 rfl) (hR 61 0 62 rfl rfl)) ?_
            refine qm_G.s1 rfl (qm_x_pushI 0 rfl) ?_
            refine qm_G.s1 rfl (qm_x_iald (v := (J 62 0 0)) (qm_arS hS rfl rfl) rfl (by decide) (by decide) (by decide) rfl) ?_
            refine qm_G.s1 rfl (qm_x_iload rfl) ?_
            refine qm_G.s1 rfl (qm_x_isub) ?_
            refine qm_G.s1 rfl (qm_x_goto) ?_
            refine qm_G.sp (lv1 := [(0, qm_R (some (0, 61, 0))), (1, qm_I (qm_i 0)), (3, qm_I (qm_i ((J 62 0 10) + 1)))]) rfl rfl (qm_x_istore (lv' := [(4, qm_I (qm_i ((J 62 0 0) - (J 62 0 8)))), (0, qm_R (some (0, 61, 0))), (1, qm_I (qm_i 0)), (3, qm_I (qm_i ((J 62 0 10) + 1)))]) rfl) ?_
            refine qm_G.s1 rfl (qm_x_iload rfl) ?_
            refine qm_G.s1 rfl (qm_x_i2l ⟨by omega, by omega⟩) ?_
            refine qm_G.s1 rfl (qm_x_aload rfl) ?_
            refine qm_G.s1 rfl (qm_x_getfR (q := (some (0, 62, 0))) (hS 61 rfl) (hR 61 0 62 rfl rfl)) ?_
            refine qm_G.s1 rfl (qm_x_pushI 5 rfl) ?_
            refine qm_G.s1 rfl (qm_x_iald (v := (J 62 0 5)) (qm_arS hS rfl rfl) rfl (by decide) (by decide) (by decide) rfl) ?_
            refine qm_G.s1 rfl (qm_x_i2l ⟨by omega, by omega⟩) ?_
            refine qm_G.s1 rfl (qm_x_lmule (w := W9) (by rw [eW9, show ((J 62 0 0) - (J 62 0 8)) = P9 by omega, show (J 62 0 5) = J 62 0 5 by omega])) ?_
            refine qm_G.s1 rfl (qm_x_lstore (lv' := [(5, qm_L (qm_l W9)), (4, qm_I (qm_i ((J 62 0 0) - (J 62 0 8)))), (0, qm_R (some (0, 61, 0))), (1, qm_I (qm_i 0)), (3, qm_I (qm_i ((J 62 0 10) + 1)))]) rfl) ?_
            refine qm_G.s1 rfl (qm_x_iload rfl) ?_
            refine qm_G.s1 rfl (qm_x_if_ne_f ⟨by decide, by decide⟩ (by decide)) ?_
            refine qm_G.s1 rfl (qm_x_aload rfl) ?_
            refine qm_G.s1 rfl (qm_x_getfR (q := (some (0, 62, 0))) (hS 61 rfl) (hR 61 0 62 rfl rfl)) ?_
            refine qm_G.s1 rfl (qm_x_pushI 11 rfl) ?_
            refine qm_G.s1 rfl (qm_x_iald (v := (J 62 0 11)) (qm_arS hS rfl rfl) rfl (by decide) (by decide) (by decide) rfl) ?_
            refine qm_G.s1 rfl (qm_x_i2l ⟨by omega, by omega⟩) ?_
            refine qm_G.s1 rfl (qm_x_lload rfl) ?_
            refine qm_G.s1 rfl (qm_x_lsubz) ?_
            refine qm_G.s1 rfl (qm_x_goto) ?_
            refine qm_G.sp (lv1 := [(0, qm_R (some (0, 61, 0))), (3, qm_I (qm_i ((J 62 0 10) + 1))), (4, qm_I (qm_i ((J 62 0 0) - (J 62 0 8)))), (5, qm_L (qm_l W9))]) rfl rfl (qm_x_lstore (lv' := [(7, qm_L (qm_l ((J 62 0 11) - W9))), (0, qm_R (some (0, 61, 0))), (3, qm_I (qm_i ((J 62 0 10) + 1))), (4, qm_I (qm_i ((J 62 0 0) - (J 62 0 8)))), (5, qm_L (qm_l W9))]) rfl) ?_
            refine qm_G.s1 rfl (qm_x_lload rfl) ?_
            refine qm_G.s1 rfl (qm_x_lload rfl) ?_
            refine qm_G.s1 rfl (qm_x_l2i ⟨by omega, by omega⟩) ?_
            refine qm_G.s1 rfl (qm_x_i2l ⟨by omega, by omega⟩) ?_
            refine qm_G.s1 rfl (qm_x_lcmp_eq rfl) ?_
            refine qm_G.s1 rfl (qm_x_if_ne_f ⟨by decide, by decide⟩ (by decide)) ?_
            refine qm_G.s1 rfl (qm_x_lload rfl) ?_
            refine qm_G.s1 rfl (qm_x_lload rfl) ?_
            refine qm_G.s1 rfl (qm_x_l2ir) ?_
            have g15 : qm_sm ((qm_l ((J 62 0 11) - W9)).toInt32.toInt) := qm_i_sml _
            refine qm_G.s1 rfl (qm_x_i2l ⟨by omega, by omega⟩) ?_
            refine qm_G.s1 rfl (qm_x_lcmpz_lt ⟨by omega, by omega⟩ ⟨by omega, by omega⟩ (by omega)) ?_
            refine qm_G.s1 rfl (qm_x_if_eq_f ⟨by decide, by decide⟩ (by decide)) ?_
            refine qm_G.sp (lv1 := []) rfl rfl (qm_x_pushI (-15) rfl) ?_
            refine qm_G.ret rfl rfl ⟨_, rfl, ?_⟩
            refine qm_G.s1 rfl (qm_x_icmp_eq_t ⟨by decide, by decide⟩ ⟨by decide, by decide⟩ (by decide)) ?_
            exact ih _ _ _ _ _ _ hI.next
          · refine qm_G.s1 rfl (qm_x_if_ne_f ⟨by decide, by decide⟩ (by decide)) ?_
            refine qm_G.sp (lv1 := []) rfl rfl (qm_x_pushI (-3) rfl) ?_
            refine qm_G.ret rfl rfl ⟨_, rfl, ?_⟩
            refine qm_G.ret rfl rfl ⟨_, rfl, ?_⟩
            refine qm_G.s1 rfl (qm_x_aload rfl) ?_
            refine qm_G.s1 rfl (qm_x_aload rfl) ?_
            refine qm_G.s1 rfl (qm_x_iload rfl) ?_
            refine qm_G.s1 rfl (qm_x_pushI 1 rfl) ?_
            refine qm_G.s1 rfl (qm_x_iadd) ?_
            refine qm_G.s1 rfl (qm_x_iald2v (v := 0) (by omega) (by omega) hX e1) ?_
            refine qm_G.cm rfl rfl (hS 61 rfl) rfl ?_
            refine qm_C.go (cd := qm_P143) (lv := [(0, qm_R (some (0, 61, 0))), (1, qm_I (qm_i 0))]) rfl rfl ?_
            refine qm_G.s1 rfl (qm_x_iload rfl) ?_
            refine qm_G.cs rfl rfl rfl ?_
            refine qm_C.go (cd := qm_P83) (lv := [(0, qm_I (qm_i 0))]) rfl rfl ?_
            refine qm_G.s1 rfl (qm_x_iload rfl) ?_
            refine qm_G.s1 rfl (qm_x_pushI 0 rfl) ?_
            refine qm_G.s1 rfl (qm_x_pushI 1 rfl) ?_
            refine qm_G.cs rfl rfl rfl ?_
            refine qm_v_within11_t ⟨by decide, by decide⟩ ⟨by decide, by decide⟩ ⟨by decide, by decide⟩ (by decide) ⟨_, rfl, ?_⟩
            refine qm_G.ret rfl rfl ⟨_, rfl, ?_⟩
            refine qm_G.s1 rfl (qm_x_if_ne_t ⟨by decide, by decide⟩ (by decide)) ?_
            refine qm_G.sp (lv1 := [(0, qm_R (some (0, 61, 0))), (1, qm_I (qm_i 0))]) rfl rfl (qm_x_aload rfl) ?_
            refine qm_G.s1 rfl (qm_x_getfR (q := (some (0, 62, 0))) (hS 61 rfl) (hR 61 0 62 rfl rfl)) ?_
            refine qm_G.s1 rfl (qm_x_pushI 8 rfl) ?_
            refine qm_G.s1 rfl (qm_x_iload rfl) ?_
            refine qm_G.s1 rfl (qm_x_iadd) ?_
            refine qm_G.s1 rfl (qm_x_iald (v := (J 62 0 8)) (qm_arS hS rfl rfl) rfl (by decide) (by decide) (by decide) rfl) ?_
            refine qm_G.s1 rfl (qm_x_istore (lv' := [(2, qm_I (qm_i (J 62 0 8))), (0, qm_R (some (0, 61, 0))), (1, qm_I (qm_i 0))]) rfl) ?_
            refine qm_G.s1 rfl (qm_x_iload rfl) ?_
            refine qm_G.s1 rfl (qm_x_if_ne_f ⟨by decide, by decide⟩ (by decide)) ?_
            refine qm_G.s1 rfl (qm_x_aload rfl) ?_
            refine qm_G.s1 rfl (qm_x_getfR (q := (some (0, 62, 0))) (hS 61 rfl) (hR 61 0 62 rfl rfl)) ?_
            refine qm_G.s1 rfl (qm_x_pushI 10 rfl) ?_
            refine qm_G.s1 rfl (qm_x_iald (v := (J 62 0 10)) (qm_arS hS rfl rfl) rfl (by decide) (by decide) (by decide) rfl) ?_
            refine qm_G.s1 rfl (qm_x_pushI 1 rfl) ?_
            refine qm_G.s1 rfl (qm_x_iadd) ?_
            refine qm_G.s1 rfl (qm_x_goto) ?_
            refine qm_G.sp (lv1 := [(0, qm_R (some (0, 61, 0))), (1, qm_I (qm_i 0)), (2, qm_I (qm_i (J 62 0 8)))]) rfl rfl (qm_x_istore (lv' := [(3, qm_I (qm_i ((J 62 0 10) + 1))), (0, qm_R (some (0, 61, 0))), (1, qm_I (qm_i 0)), (2, qm_I (qm_i (J 62 0 8)))]) rfl) ?_
            refine qm_G.s1 rfl (qm_x_iload rfl) ?_
            refine qm_G.s1 rfl (qm_x_pushI 6 rfl) ?_
            refine qm_G.s1 rfl (qm_x_icmp_eq_f ⟨by omega, by omega⟩ ⟨by decide, by decide⟩ (by omega)) ?_
            refine qm_G.s1 rfl (qm_x_aload rfl) ?_
            refine qm_G.s1 rfl (qm_x_iload rfl) ?_
            refine qm_G.cm rfl rfl (hS 61 rfl) rfl ?_
            refine qm_C.go (cd := qm_P85) (lv := [(0, qm_R (some (0, 61, 0))), (1, qm_I (qm_i ((J 62 0 10) + 1)))]) rfl rfl ?_
            refine qm_G.s1 rfl (qm_x_iload rfl) ?_
            refine qm_G.s1 rfl (qm_x_aload rfl) ?_
            refine qm_G.s1 rfl (qm_x_getfR (q := (some (0, 62, 0))) (hS 61 rfl) (hR 61 0 62 rfl rfl)) ?_
            refine qm_G.s1 rfl (qm_x_pushI 1 rfl) ?_
            refine qm_G.s1 rfl (qm_x_iald (v := (J 62 0 1)) (qm_arS hS rfl rfl) rfl (by decide) (by decide) (by decide) rfl) ?_
            refine qm_G.s1 rfl (qm_x_ineg) ?_
            refine qm_G.s1 rfl (qm_x_aload rfl) ?_
            refine qm_G.s1 rfl (qm_x_getfR (q := (some (0, 62, 0))) (hS 61 rfl) (hR 61 0 62 rfl rfl)) ?_
            refine qm_G.s1 rfl (qm_x_pushI 1 rfl) ?_
            refine qm_G.s1 rfl (qm_x_iald (v := (J 62 0 1)) (qm_arS hS rfl rfl) rfl (by decide) (by decide) (by decide) rfl) ?_
            refine qm_G.cs rfl rfl rfl ?_
            refine qm_v_within11_f ⟨by omega, by omega⟩ ⟨by omega, by omega⟩ ⟨by omega, by omega⟩ (by omega) ⟨_, rfl, ?_⟩
            refine qm_G.ret rfl rfl ⟨_, rfl, ?_⟩
            refine qm_G.s1 rfl (qm_x_if_ne_f ⟨by decide, by decide⟩ (by decide)) ?_
            refine qm_G.sp (lv1 := []) rfl rfl (qm_x_pushI (-3) rfl) ?_
            refine qm_G.ret rfl rfl ⟨_, rfl, ?_⟩
            refine qm_G.s1 rfl (qm_x_icmp_eq_t ⟨by decide, by decide⟩ ⟨by decide, by decide⟩ (by decide)) ?_
            exact ih _ _ _ _ _ _ hI.next
      · exact absurd cc (by omega)
    · refine qm_G.sp (lv1 := [(0, qm_R (some (0, 0, 0))), (1, qm_I (qm_i 0))]) rfl rfl (qm_x_aload rfl) ?_
      refine qm_G.s1 rfl (qm_x_getfR (q := (some (0, 1, 0))) (hS 0 rfl) (hR 0 0 1 rfl rfl)) ?_
      refine qm_G.s1 rfl (qm_x_getfR (q := (some (0, 2, 0))) (hS 1 rfl) (hR 1 0 2 rfl rfl)) ?_
      refine qm_G.s1 rfl (qm_x_getfR (q := (some (0, 3, 0))) (hS 2 rfl) (hR 2 0 3 rfl rfl)) ?_
      refine qm_G.s1 rfl (qm_x_astore (lv' := [(2, qm_R (some (0, 3, 0))), (0, qm_R (some (0, 0, 0))), (1, qm_I (qm_i 0))]) rfl) ?_
      refine qm_G.s1 rfl (qm_x_aload rfl) ?_
      refine qm_G.s1 rfl (qm_x_getfR (q := (some (0, 1, 0))) (hS 0 rfl) (hR 0 0 1 rfl rfl)) ?_
      refine qm_G.s1 rfl (qm_x_getfR (q := (some (0, 9, 0))) (hS 1 rfl) (hR 1 1 9 rfl rfl)) ?_
      refine qm_G.s1 rfl (qm_x_iload rfl) ?_
      refine qm_G.s1 rfl (qm_x_aload rfl) ?_
      refine qm_G.s1 rfl (qm_x_pushI 0 rfl) ?_
      have f3_0 : J 3 0 0 = J 62 0 0 := hI.mk.set 0 (by decide)
      refine qm_G.s1 rfl (qm_x_iald (v := (J 3 0 0)) (qm_arS hS rfl rfl) rfl (by decide) (by decide) (by decide) rfl) ?_
      refine qm_G.s1 rfl (qm_x_aload rfl) ?_
      refine qm_G.s1 rfl (qm_x_pushI 1 rfl) ?_
      have f62_1 : 1 ≤ J 62 0 1 ∧ J 62 0 1 ≤ 8 := hI.mk.r1
      have f3_1 : J 3 0 1 = J 62 0 1 := hI.mk.set 1 (by decide)
      refine qm_G.s1 rfl (qm_x_iald (v := (J 3 0 1)) (qm_arS hS rfl rfl) rfl (by decide) (by decide) (by decide) rfl) ?_
      refine qm_G.s1 rfl (qm_x_aload rfl) ?_
      refine qm_G.s1 rfl (qm_x_pushI 5 rfl) ?_
      have f3_5 : J 3 0 5 = J 62 0 5 := hI.mk.set 5 (by decide)
      refine qm_G.s1 rfl (qm_x_iald (v := (J 3 0 5)) (qm_arS hS rfl rfl) rfl (by decide) (by decide) (by decide) rfl) ?_
      refine qm_G.cm rfl rfl (hS 9 rfl) rfl ?_
      refine qm_C.go (cd := qm_P96) (lv := [(0, qm_R (some (0, 9, 0))), (1, qm_I (qm_i 0)), (2, qm_I (qm_i (J 3 0 0))), (3, qm_I (qm_i (J 3 0 1))), (4, qm_I (qm_i (J 3 0 5)))]) rfl rfl ?_
      refine qm_G.s1 rfl (qm_x_iload rfl) ?_
      refine qm_G.s1 rfl (qm_x_if_ne_f ⟨by decide, by decide⟩ (by decide)) ?_
      refine qm_G.s1 rfl (qm_x_aload rfl) ?_
      have f9_1 : J 9 0 1 = J 62 0 10 := hI.tr.stk
      refine qm_G.s1 rfl (qm_x_getfI (v := (J 9 0 1)) (hS 9 rfl) rfl) ?_
      refine qm_G.s1 rfl (qm_x_pushI 1 rfl) ?_
      refine qm_G.s1 rfl (qm_x_iadd) ?_
      refine qm_G.s1 rfl (qm_x_goto) ?_
      refine qm_G.sp (lv1 := [(0, qm_R (some (0, 9, 0))), (1, qm_I (qm_i 0)), (2, qm_I (qm_i (J 3 0 0))), (3, qm_I (qm_i (J 3 0 1))), (4, qm_I (qm_i (J 3 0 5)))]) rfl rfl (qm_x_istore (lv' := [(5, qm_I (qm_i ((J 9 0 1) + 1))), (0, qm_R (some (0, 9, 0))), (1, qm_I (qm_i 0)), (2, qm_I (qm_i (J 3 0 0))), (3, qm_I (qm_i (J 3 0 1))), (4, qm_I (qm_i (J 3 0 5)))]) rfl) ?_
      refine qm_G.s1 rfl (qm_x_aload rfl) ?_
      refine qm_G.s1 rfl (qm_x_getfR (q := (some (0, 10, 0))) (hS 9 rfl) (hR 9 0 10 rfl rfl)) ?_
      refine qm_G.s1 rfl (qm_x_iload rfl) ?_
      have f10_0 : J 10 0 0 = J 62 0 8 := hI.tr.qb
      refine qm_G.s1 rfl (qm_x_iald (v := (J 10 0 0)) (qm_arS hS rfl rfl) rfl (by decide) (by decide) (by decide) rfl) ?_
      refine qm_G.s1 rfl (qm_x_pushI 6 rfl) ?_
      refine qm_y_icmp_eq rfl ⟨by omega, by omega⟩ ⟨by decide, by decide⟩ (fun c18 => ?_) (fun c18 => ?_)
      · refine qm_G.sp (lv1 := []) rfl rfl (qm_x_pushI (-3) rfl) ?_
        refine qm_G.ret rfl rfl ⟨_, rfl, ?_⟩
        refine qm_G.ret rfl rfl ⟨_, rfl, ?_⟩
        refine qm_G.s1 rfl (qm_x_aload rfl) ?_
        refine qm_G.s1 rfl (qm_x_aload rfl) ?_
        refine qm_G.s1 rfl (qm_x_iload rfl) ?_
        refine qm_G.s1 rfl (qm_x_pushI 1 rfl) ?_
        refine qm_G.s1 rfl (qm_x_iadd) ?_
        refine qm_G.s1 rfl (qm_x_iald2v (v := 0) (by omega) (by omega) hX e1) ?_
        refine qm_G.cm rfl rfl (hS 61 rfl) rfl ?_
        refine qm_C.go (cd := qm_P143) (lv := [(0, qm_R (some (0, 61, 0))), (1, qm_I (qm_i 0))]) rfl rfl ?_
        refine qm_G.s1 rfl (qm_x_iload rfl) ?_
        refine qm_G.cs rfl rfl rfl ?_
        refine qm_C.go (cd := qm_P83) (lv := [(0, qm_I (qm_i 0))]) rfl rfl ?_
        refine qm_G.s1 rfl (qm_x_iload rfl) ?_
        refine qm_G.s1 rfl (qm_x_pushI 0 rfl) ?_
        refine qm_G.s1 rfl (qm_x_pushI 1 rfl) ?_
        refine qm_G.cs rfl rfl rfl ?_
        refine qm_v_within11_t ⟨by decide, by decide⟩ ⟨by decide, by decide⟩ ⟨by decide, by decide⟩ (by decide) ⟨_, rfl, ?_⟩
        refine qm_G.ret rfl rfl ⟨_, rfl, ?_⟩
        refine qm_G.s1 rfl (qm_x_if_ne_t ⟨by decide, by decide⟩ (by decide)) ?_
        refine qm_G.sp (lv1 := [(0, qm_R (some (0, 61, 0))), (1, qm_I (qm_i 0))]) rfl rfl (qm_x_aload rfl) ?_
        refine qm_G.s1 rfl (qm_x_getfR (q := (some (0, 62, 0))) (hS 61 rfl) (hR 61 0 62 rfl rfl)) ?_
        refine qm_G.s1 rfl (qm_x_pushI 8 rfl) ?_
        refine qm_G.s1 rfl (qm_x_iload rfl) ?_
        refine qm_G.s1 rfl (qm_x_iadd) ?_
        refine qm_G.s1 rfl (qm_x_iald (v := (J 62 0 8)) (qm_arS hS rfl rfl) rfl (by decide) (by decide) (by decide) rfl) ?_
        refine qm_G.s1 rfl (qm_x_istore (lv' := [(2, qm_I (qm_i (J 62 0 8))), (0, qm_R (some (0, 61, 0))), (1, qm_I (qm_i 0))]) rfl) ?_
        refine qm_G.s1 rfl (qm_x_iload rfl) ?_
        refine qm_G.s1 rfl (qm_x_if_ne_f ⟨by decide, by decide⟩ (by decide)) ?_
        refine qm_G.s1 rfl (qm_x_aload rfl) ?_
        refine qm_G.s1 rfl (qm_x_getfR (q := (some (0, 62, 0))) (hS 61 rfl) (hR 61 0 62 rfl rfl)) ?_
        refine qm_G.s1 rfl (qm_x_pushI 10 rfl) ?_
        refine qm_G.s1 rfl (qm_x_iald (v := (J 62 0 10)) (qm_arS hS rfl rfl) rfl (by decide) (by decide) (by decide) rfl) ?_
        refine qm_G.s1 rfl (qm_x_pushI 1 rfl) ?_
        refine qm_G.s1 rfl (qm_x_iadd) ?_
        refine qm_G.s1 rfl (qm_x_goto) ?_
        refine qm_G.sp (lv1 := [(0, qm_R (some (0, 61, 0))), (1, qm_I (qm_i 0)), (2, qm_I (qm_i (J 62 0 8)))]) rfl rfl (qm_x_istore (lv' := [(3, qm_I (qm_i ((J 62 0 10) + 1))), (0, qm_R (some (0, 61, 0))), (1, qm_I (qm_i 0)), (2, qm_I (qm_i (J 62 0 8)))]) rfl) ?_
        refine qm_G.s1 rfl (qm_x_iload rfl) ?_
        refine qm_G.s1 rfl (qm_x_pushI 6 rfl) ?_
        refine qm_G.s1 rfl (qm_x_icmp_eq_t ⟨by omega, by omega⟩ ⟨by decide, by decide⟩ (by omega)) ?_
        refine qm_G.sp (lv1 := []) rfl rfl (qm_x_pushI (-3) rfl) ?_
        refine qm_G.ret rfl rfl ⟨_, rfl, ?_⟩
        refine qm_G.s1 rfl (qm_x_icmp_eq_t ⟨by decide, by decide⟩ ⟨by decide, by decide⟩ (by decide)) ?_
        exact ih _ _ _ _ _ _ hI.next
      · refine qm_G.s1 rfl (qm_x_iload rfl) ?_
        refine qm_G.s1 rfl (qm_x_iload rfl) ?_
        refine qm_G.s1 rfl (qm_x_ineg) ?_
        refine qm_G.s1 rfl (qm_x_iload rfl) ?_
        refine qm_G.cs rfl rfl rfl ?_
        refine qm_v_within10 ⟨by omega, by omega⟩ ⟨by omega, by omega⟩ ⟨by omega, by omega⟩ (fun c20 => ⟨_, rfl, ?_⟩) (fun c20 => ⟨_, rfl, ?_⟩)
        · refine qm_G.s1 rfl (qm_x_if_ne_t ⟨by decide, by decide⟩ (by decide)) ?_
          refine qm_G.sp (lv1 := [(0, qm_R (some (0, 9, 0))), (1, qm_I (qm_i 0)), (2, qm_I (qm_i (J 3 0 0))), (4, qm_I (qm_i (J 3 0 5))), (5, qm_I (qm_i ((J 9 0 1) + 1)))]) rfl rfl (qm_x_iload rfl) ?_
          refine qm_G.s1 rfl (qm_x_if_ne_f ⟨by decide, by decide⟩ (by decide)) ?_
          refine qm_G.s1 rfl (qm_x_iload rfl) ?_
          refine qm_G.s1 rfl (qm_x_aload rfl) ?_
          refine qm_G.s1 rfl (qm_x_getfR (q := (some (0, 10, 0))) (hS 9 rfl) (hR 9 0 10 rfl rfl)) ?_
          refine qm_G.s1 rfl (qm_x_pushI 0 rfl) ?_
          refine qm_G.s1 rfl (qm_x_iald (v := (J 10 0 0)) (qm_arS hS rfl rfl) rfl (by decide) (by decide) (by decide) rfl) ?_
          refine qm_G.s1 rfl (qm_x_isub) ?_
          refine qm_G.s1 rfl (qm_x_goto) ?_
          refine qm_G.sp (lv1 := [(0, qm_R (some (0, 9, 0))), (1, qm_I (qm_i 0)), (4, qm_I (qm_i (J 3 0 5))), (5, qm_I (qm_i ((J 9 0 1) + 1)))]) rfl rfl (qm_x_istore (lv' := [(6, qm_I (qm_i ((J 3 0 0) - (J 10 0 0)))), (0, qm_R (some (0, 9, 0))), (1, qm_I (qm_i 0)), (4, qm_I (qm_i (J 3 0 5))), (5, qm_I (qm_i ((J 9 0 1) + 1)))]) rfl) ?_
          refine qm_G.s1 rfl (qm_x_iload rfl) ?_
          refine qm_G.s1 rfl (qm_x_i2l ⟨by omega, by omega⟩) ?_
          refine qm_G.s1 rfl (qm_x_iload rfl) ?_
          refine qm_G.s1 rfl (qm_x_i2l ⟨by omega, by omega⟩) ?_
          refine qm_G.s1 rfl (qm_x_lmule (w := W9) (by rw [eW9, show ((J 3 0 0) - (J 10 0 0)) = P9 by omega, show (J 3 0 5) = J 62 0 5 by omega])) ?_
          refine qm_G.s1 rfl (qm_x_lstore (lv' := [(7, qm_L (qm_l W9)), (6, qm_I (qm_i ((J 3 0 0) - (J 10 0 0)))), (0, qm_R (some (0, 9, 0))), (1, qm_I (qm_i 0)), (4, qm_I (qm_i (J 3 0 5))), (5, qm_I (qm_i ((J 9 0 1) + 1)))]) rfl) ?_
          refine qm_G.s1 rfl (qm_x_iload rfl) ?_
          refine qm_G.s1 rfl (qm_x_if_ne_f ⟨by decide, by decide⟩ (by decide)) ?_
          refine qm_G.s1 rfl (qm_x_aload rfl) ?_
          have f9_2 : J 9 0 2 = J 62 0 11 := hI.tr.csh
          refine qm_G.s1 rfl (qm_x_getfI (v := (J 9 0 2)) (hS 9 rfl) rfl) ?_
          refine qm_G.s1 rfl (qm_x_i2l ⟨by omega, by omega⟩) ?_
          refine qm_G.s1 rfl (qm_x_lload rfl) ?_
          refine qm_G.s1 rfl (qm_x_lsubz) ?_
          refine qm_G.s1 rfl (qm_x_goto) ?_
          refine qm_G.sp (lv1 := [(0, qm_R (some (0, 9, 0))), (5, qm_I (qm_i ((J 9 0 1) + 1))), (6, qm_I (qm_i ((J 3 0 0) - (J 10 0 0)))), (7, qm_L (qm_l W9))]) rfl rfl (qm_x_lstore (lv' := [(9, qm_L (qm_l ((J 9 0 2) - W9))), (0, qm_R (some (0, 9, 0))), (5, qm_I (qm_i ((J 9 0 1) + 1))), (6, qm_I (qm_i ((J 3 0 0) - (J 10 0 0)))), (7, qm_L (qm_l W9))]) rfl) ?_
          refine qm_G.s1 rfl (qm_x_lload rfl) ?_
          refine qm_G.cs rfl rfl rfl ?_
          refine qm_C.go (cd := qm_P51) (lv := [(0, qm_L (qm_l W9))]) rfl rfl ?_
          refine qm_G.s1 rfl (qm_x_lload rfl) ?_
          refine qm_G.s1 rfl (qm_x_lload rfl) ?_
          refine qm_G.s1 rfl (qm_x_l2ir) ?_
          have g21 : qm_sm ((qm_l W9).toInt32.toInt) := qm_i_sml _
          refine qm_G.s1 rfl (qm_x_i2l ⟨by omega, by omega⟩) ?_
          refine qm_G.s1 rfl (qm_x_lcmpz_gt ⟨by omega, by omega⟩ ⟨by omega, by omega⟩ (by omega)) ?_
          refine qm_G.s1 rfl (qm_x_if_ne_t ⟨by decide, by decide⟩ (by decide)) ?_
          refine qm_G.sp (lv1 := []) rfl rfl (qm_x_pushI 0 rfl) ?_
          refine qm_G.ret rfl rfl ⟨_, rfl, ?_⟩
          refine qm_G.s1 rfl (qm_x_if_eq_t ⟨by decide, by decide⟩ (by decide)) ?_
          refine qm_G.sp (lv1 := []) rfl rfl (qm_x_pushI (-15) rfl) ?_
          refine qm_G.ret rfl rfl ⟨_, rfl, ?_⟩
          refine qm_G.ret rfl rfl ⟨_, rfl, ?_⟩
          refine qm_G.s1 rfl (qm_x_aload rfl) ?_
          refine qm_G.s1 rfl (qm_x_aload rfl) ?_
          refine qm_G.s1 rfl (qm_x_iload rfl) ?_
          refine qm_G.s1 rfl (qm_x_pushI 1 rfl) ?_
          refine qm_G.s1 rfl (qm_x_iadd) ?_
          refine qm_G.s1 rfl (qm_x_iald2v (v := 0) (by omega) (by omega) hX e1) ?_
          refine qm_G.cm rfl rfl (hS 61 rfl) rfl ?_
          refine qm_C.go (cd := qm_P143) (lv := [(0, qm_R (some (0, 61, 0))), (1, qm_I (qm_i 0))]) rfl rfl ?_
          refine qm_G.s1 rfl (qm_x_iload rfl) ?_
          refine qm_G.cs rfl rfl rfl ?_
          refine qm_C.go (cd := qm_P83) (lv := [(0, qm_I (qm_i 0))]) rfl rfl ?_
          refine qm_G.s1 rfl (qm_x_iload rfl) ?_
          refine qm_G.s1 rfl (qm_x_pushI 0 rfl) ?_
          refine qm_G.s1 rfl (qm_x_pushI 1 rfl) ?_
          refine qm_G.cs rfl rfl rfl ?_
          refine qm_v_within11_t ⟨by decide, by decide⟩ ⟨by decide, by decide⟩ ⟨by decide, by decide⟩ (by decide) ⟨_, rfl, ?_⟩
          refine qm_G.ret rfl rfl ⟨_, rfl, ?_⟩
          refine qm_G.s1 rfl (qm_x_if_ne_t ⟨by decide, by decide⟩ (by decide)) ?_
          refine qm_G.sp (lv1 := [(0, qm_R (some (0, 61, 0))), (1, qm_I (qm_i 0))]) rfl rfl (qm_x_aload rfl) ?_
          refine qm_G.s1 rfl (qm_x_getfR (q := (some (0, 62, 0))) (hS 61 rfl) (hR 61 0 62 rfl rfl)) ?_
          refine qm_G.s1 rfl (qm_x_pushI 8 rfl) ?_
          refine qm_G.s1 rfl (qm_x_iload rfl) ?_
          refine qm_G.s1 rfl (qm_x_iadd) ?_
          refine qm_G.s1 rfl (qm_x_iald (v := (J 62 0 8)) (qm_arS hS rfl rfl) rfl (by decide) (by decide) (by decide) rfl) ?_
          refine qm_G.s1 rfl (qm_x_istore (lv' := [(2, qm_I (qm_i (J 62 0 8))), (0, qm_R (some (0, 61, 0))), (1, qm_I (qm_i 0))]) rfl) ?_
          refine qm_G.s1 rfl (qm_x_iload rfl) ?_
          refine qm_G.s1 rfl (qm_x_if_ne_f ⟨by decide, by decide⟩ (by decide)) ?_
          refine qm_G.s1 rfl (qm_x_aload rfl) ?_
          refine qm_G.s1 rfl (qm_x_getfR (q := (some (0, 62, 0))) (hS 61 rfl) (hR 61 0 62 rfl rfl)) ?_
          refine qm_G.s1 rfl (qm_x_pushI 10 rfl) ?_
          refine qm_G.s1 rfl (qm_x_iald (v := (J 62 0 10)) (qm_arS hS rfl rfl) rfl (by decide) (by decide) (by decide) rfl) ?_
          refine qm_G.s1 rfl (qm_x_pushI 1 rfl) ?_
          refine qm_G.s1 rfl (qm_x_iadd) ?_
          refine qm_G.s1 rfl (qm_x_goto) ?_
          refine qm_G.sp (lv1 := [(0, qm_R (some (0, 61, 0))), (1, qm_I (qm_i 0)), (2, qm_I (qm_i (J 62 0 8)))]) rfl rfl (qm_x_istore (lv' := [(3, qm_I (qm_i ((J 62 0 10) + 1))), (0, qm_R (some (0, 61, 0))), (1, qm_I (qm_i 0)), (2, qm_I (qm_i (J 62 0 8)))]) rfl) ?_
          refine qm_G.s1 rfl (qm_x_iload rfl) ?_
          refine qm_G.s1 rfl (qm_x_pushI 6 rfl) ?_
          refine qm_G.s1 rfl (qm_x_icmp_eq_f ⟨by omega, by omega⟩ ⟨by decide, by decide⟩ (by omega)) ?_
          refine qm_G.s1 rfl (qm_x_aload rfl) ?_
          refine qm_G.s1 rfl (qm_x_iload rfl) ?_
          refine qm_G.cm rfl rfl (hS 61 rfl) rfl ?_
          refine qm_C.go (cd := qm_P85) (lv := [(0, qm_R (some (0, 61, 0))), (1, qm_I (qm_i ((J 62 0 10) + 1)))]) rfl rfl ?_
          refine qm_G.s1 rfl (qm_x_iload rfl) ?_
          refine qm_G.s1 rfl (qm_x_aload rfl) ?_
          refine qm_G.s1 rfl (qm_x_getfR (q := (some (0, 62, 0))) (hS 61 rfl) (hR 61 0 62 rfl rfl)) ?_
          refine qm_G.s1 rfl (qm_x_pushI 1 rfl) ?_
          refine qm_G.s1 rfl (qm_x_iald (v := (J 62 0 1)) (qm_arS hS rfl rfl) rfl (by decide) (by decide) (by decide) rfl) ?_
          refine qm_G.s1 rfl (qm_x_ineg) ?_
          refine qm_G.s1 rfl (qm_x_aload rfl) ?_
          refine qm_G.s1 rfl (qm_x_getfR (q := (some (0, 62, 0))) (hS 61 rfl) (hR 61 0 62 rfl rfl)) ?_
          refine qm_G.s1 rfl (qm_x_pushI 1 rfl) ?_
          refine qm_G.s1 rfl (qm_x_iald (v := (J 62 0 1)) (qm_arS hS rfl rfl) rfl (by decide) (by decide) (by decide) rfl) ?_
          refine qm_G.cs rfl rfl rfl ?_
          refine qm_v_within11_t ⟨by omega, by omega⟩ ⟨by omega, by omega⟩ ⟨by omega, by omega⟩ (by omega) ⟨_, rfl, ?_⟩
          refine qm_G.ret rfl rfl ⟨_, rfl, ?_⟩
          refine qm_G.s1 rfl (qm_x_if_ne_t ⟨by decide, by decide⟩ (by decide)) ?_
          refine qm_G.sp (lv1 := [(0, qm_R (some (0, 61, 0))), (1, qm_I (qm_i 0)), (2, qm_I (qm_i (J 62 0 8))), (3, qm_I (qm_i ((J 62 0 10) + 1)))]) rfl rfl (qm_x_iload rfl) ?_
          refine qm_G.s1 rfl (qm_x_if_ne_f ⟨by decide, by decide⟩ (by decide)) ?_
          refine qm_G.s1 rfl (qm_x_aload rfl) ?_
          refine qm_G.s1 rfl (qm_x_getfR (q := (some (0, 62, 0))) (hS 61 rfl) (hR 61 0 62 rfl rfl)) ?_
          refine qm_G.s1 rfl (qm_x_pushI 0 rfl) ?_
          refine qm_G.s1 rfl (qm_x_iald (v := (J 62 0 0)) (qm_arS hS rfl rfl) rfl (by decide) (by decide) (by decide) rfl) ?_
          refine qm_G.s1 rfl (qm_x_iload rfl) ?_
          refine qm_G.s1 rfl (qm_x_isub) ?_
          refine qm_G.s1 rfl (qm_x_goto) ?_
          refine qm_G.sp (lv1 := [(0, qm_R (some (0, 61, 0))), (1, qm_I (qm_i 0)), (3, qm_I (qm_i ((J 62 0 10) + 1)))]) rfl rfl (qm_x_istore (lv' := [(4, qm_I (qm_i ((J 62 0 0) - (J 62 0 8)))), (0, qm_R (some (0, 61, 0))), (1, qm_I (qm_i 0)), (3, qm_I (qm_i ((J 62 0 10) + 1)))]) rfl) ?_
          refine qm_G.s1 rfl (qm_x_iload rfl) ?_
          refine qm_G.s1 rfl (qm_x_i2l ⟨by omega, by omega⟩) ?_
          refine qm_G.s1 rfl (qm_x_aload rfl) ?_
          refine qm_G.s1 rfl (qm_x_getfR (q := (some (0, 62, 0))) (hS 61 rfl) (hR 61 0 62 rfl rfl)) ?_
          refine qm_G.s1 rfl (qm_x_pushI 5 rfl) ?_
          refine qm_G.s1 rfl (qm_x_iald (v := (J 62 0 5)) (qm_arS hS rfl rfl) rfl (by decide) (by decide) (by decide) rfl) ?_
          refine qm_G.s1 rfl (qm_x_i2l ⟨by omega, by omega⟩) ?_
          refine qm_G.s1 rfl (qm_x_lmule (w := W9) (by rw [eW9, show ((J 62 0 0) - (J 62 0 8)) = P9 by omega, show (J 62 0 5) = J 62 0 5 by omega])) ?_
          refine qm_G.s1 rfl (qm_x_lstore (lv' := [(5, qm_L (qm_l W9)), (4, qm_I (qm_i ((J 62 0 0) - (J 62 0 8)))), (0, qm_R (some (0, 61, 0))), (1, qm_I (qm_i 0)), (3, qm_I (qm_i ((J 62 0 10) + 1)))]) rfl) ?_
          refine qm_G.s1 rfl (qm_x_iload rfl) ?_
          refine qm_G.s1 rfl (qm_x_if_ne_f ⟨by decide, by decide⟩ (by decide)) ?_
          refine qm_G.s1 rfl (qm_x_aload rfl) ?_
          refine qm_G.s1 rfl (qm_x_getfR (q := (some (0, 62, 0))) (hS 61 rfl) (hR 61 0 62 rfl rfl)) ?_
          refine qm_G.s1 rfl (qm_x_pushI 11 rfl) ?_
          refine qm_G.s1 rfl (qm_x_iald (v := (J 62 0 11)) (qm_arS hS rfl rfl) rfl (by decide) (by decide) (by decide) rfl) ?_
          refine qm_G.s1 rfl (qm_x_i2l ⟨by omega, by omega⟩) ?_
          refine qm_G.s1 rfl (qm_x_lload rfl) ?_
          refine qm_G.s1 rfl (qm_x_lsubz) ?_
          refine qm_G.s1 rfl (qm_x_goto) ?_
          refine qm_G.sp (lv1 := [(0, qm_R (some (0, 61, 0))), (3, qm_I (qm_i ((J 62 0 10) + 1))), (4, qm_I (qm_i ((J 62 0 0) - (J 62 0 8)))), (5, qm_L (qm_l W9))]) rfl rfl (qm_x_lstore (lv' := [(7, qm_L (qm_l ((J 62 0 11) - W9))), (0, qm_R (some (0, 61, 0))), (3, qm_I (qm_i ((J 62 0 10) + 1))), (4, qm_I (qm_i ((J 62 0 0) - (J 62 0 8)))), (5, qm_L (qm_l W9))]) rfl) ?_
          refine qm_G.s1 rfl (qm_x_lload rfl) ?_
          refine qm_G.s1 rfl (qm_x_lload rfl) ?_
          refine qm_G.s1 rfl (qm_x_l2ir) ?_
          have g24 : qm_sm ((qm_l W9).toInt32.toInt) := qm_i_sml _
          refine qm_G.s1 rfl (qm_x_i2l ⟨by omega, by omega⟩) ?_
          refine qm_G.s1 rfl (qm_x_lcmpz_gt ⟨by omega, by omega⟩ ⟨by omega, by omega⟩ (by omega)) ?_
          refine qm_G.s1 rfl (qm_x_if_ne_t ⟨by decide, by decide⟩ (by decide)) ?_
          refine qm_G.sp (lv1 := []) rfl rfl (qm_x_pushI (-15) rfl) ?_
          refine qm_G.ret rfl rfl ⟨_, rfl, ?_⟩
          refine qm_G.s1 rfl (qm_x_icmp_eq_t ⟨by decide, by decide⟩ ⟨by decide, by decide⟩ (by decide)) ?_
          exact ih _ _ _ _ _ _ hI.next
        · refine qm_G.s1 rfl (qm_x_if_ne_f ⟨by decide, by decide⟩ (by decide)) ?_
          refine qm_G.sp (lv1 := []) rfl rfl (qm_x_pushI (-3) rfl) ?_
          refine qm_G.ret rfl rfl ⟨_, rfl, ?_⟩
          refine qm_G.ret rfl rfl ⟨_, rfl, ?_⟩
          refine qm_G.s1 rfl (qm_x_aload rfl) ?_
          refine qm_G.s1 rfl (qm_x_aload rfl) ?_
          refine qm_G.s1 rfl (qm_x_iload rfl) ?_
          refine qm_G.s1 rfl (qm_x_pushI 1 rfl) ?_
          refine qm_G.s1 rfl (qm_x_iadd) ?_
          refine qm_G.s1 rfl (qm_x_iald2v (v := 0) (by omega) (by omega) hX e1) ?_
          refine qm_G.cm rfl rfl (hS 61 rfl) rfl ?_
          refine qm_C.go (cd := qm_P143) (lv := [(0, qm_R (some (0, 61, 0))), (1, qm_I (qm_i 0))]) rfl rfl ?_
          refine qm_G.s1 rfl (qm_x_iload rfl) ?_
          refine qm_G.cs rfl rfl rfl ?_
          refine qm_C.go (cd := qm_P83) (lv := [(0, qm_I (qm_i 0))]) rfl rfl ?_
          refine qm_G.s1 rfl (qm_x_iload rfl) ?_
          refine qm_G.s1 rfl (qm_x_pushI 0 rfl) ?_
          refine qm_G.s1 rfl (qm_x_pushI 1 rfl) ?_
          refine qm_G.cs rfl rfl rfl ?_
          refine qm_v_within11_t ⟨by decide, by decide⟩ ⟨by decide, by decide⟩ ⟨by decide, by decide⟩ (by decide) ⟨_, rfl, ?_⟩
          refine qm_G.ret rfl rfl ⟨_, rfl, ?_⟩
          refine qm_G.s1 rfl (qm_x_if_ne_t ⟨by decide, by decide⟩ (by decide)) ?_
          refine qm_G.sp (lv1 := [(0, qm_R (some (0, 61, 0))), (1, qm_I (qm_i 0))]) rfl rfl (qm_x_aload rfl) ?_
          refine qm_G.s1 rfl (qm_x_getfR (q := (some (0, 62, 0))) (hS 61 rfl) (hR 61 0 62 rfl rfl)) ?_
          refine qm_G.s1 rfl (qm_x_pushI 8 rfl) ?_
          refine qm_G.s1 rfl (qm_x_iload rfl) ?_
          refine qm_G.s1 rfl (qm_x_iadd) ?_
          refine qm_G.s1 rfl (qm_x_iald (v := (J 62 0 8)) (qm_arS hS rfl rfl) rfl (by decide) (by decide) (by decide) rfl) ?_
          refine qm_G.s1 rfl (qm_x_istore (lv' := [(2, qm_I (qm_i (J 62 0 8))), (0, qm_R (some (0, 61, 0))), (1, qm_I (qm_i 0))]) rfl) ?_
          refine qm_G.s1 rfl (qm_x_iload rfl) ?_
          refine qm_G.s1 rfl (qm_x_if_ne_f ⟨by decide, by decide⟩ (by decide)) ?_
          refine qm_G.s1 rfl (qm_x_aload rfl) ?_
          refine qm_G.s1 rfl (qm_x_getfR (q := (some (0, 62, 0))) (hS 61 rfl) (hR 61 0 62 rfl rfl)) ?_
          refine qm_G.s1 rfl (qm_x_pushI 10 rfl) ?_
          refine qm_G.s1 rfl (qm_x_iald (v := (J 62 0 10)) (qm_arS hS rfl rfl) rfl (by decide) (by decide) (by decide) rfl) ?_
          refine qm_G.s1 rfl (qm_x_pushI 1 rfl) ?_
          refine qm_G.s1 rfl (qm_x_iadd) ?_
          refine qm_G.s1 rfl (qm_x_goto) ?_
          refine qm_G.sp (lv1 := [(0, qm_R (some (0, 61, 0))), (1, qm_I (qm_i 0)), (2, qm_I (qm_i (J 62 0 8)))]) rfl rfl (qm_x_istore (lv' := [(3, qm_I (qm_i ((J 62 0 10) + 1))), (0, qm_R (some (0, 61, 0))), (1, qm_I (qm_i 0)), (2, qm_I (qm_i (J 62 0 8)))]) rfl) ?_
          refine qm_G.s1 rfl (qm_x_iload rfl) ?_
          refine qm_G.s1 rfl (qm_x_pushI 6 rfl) ?_
          refine qm_G.s1 rfl (qm_x_icmp_eq_f ⟨by omega, by omega⟩ ⟨by decide, by decide⟩ (by omega)) ?_
          refine qm_G.s1 rfl (qm_x_aload rfl) ?_
          refine qm_G.s1 rfl (qm_x_iload rfl) ?_
          refine qm_G.cm rfl rfl (hS 61 rfl) rfl ?_
          refine qm_C.go (cd := qm_P85) (lv := [(0, qm_R (some (0, 61, 0))), (1, qm_I (qm_i ((J 62 0 10) + 1)))]) rfl rfl ?_
          refine qm_G.s1 rfl (qm_x_iload rfl) ?_
          refine qm_G.s1 rfl (qm_x_aload rfl) ?_
          refine qm_G.s1 rfl (qm_x_getfR (q := (some (0, 62, 0))) (hS 61 rfl) (hR 61 0 62 rfl rfl)) ?_
          refine qm_G.s1 rfl (qm_x_pushI 1 rfl) ?_
          refine qm_G.s1 rfl (qm_x_iald (v := (J 62 0 1)) (qm_arS hS rfl rfl) rfl (by decide) (by decide) (by decide) rfl) ?_
          refine qm_G.s1 rfl (qm_x_ineg) ?_
          refine qm_G.s1 rfl (qm_x_aload rfl) ?_
          refine qm_G.s1 rfl (qm_x_getfR (q := (some (0, 62, 0))) (hS 61 rfl) (hR 61 0 62 rfl rfl)) ?_
          refine qm_G.s1 rfl (qm_x_pushI 1 rfl) ?_
          refine qm_G.s1 rfl (qm_x_iald (v := (J 62 0 1)) (qm_arS hS rfl rfl) rfl (by decide) (by decide) (by decide) rfl) ?_
          refine qm_G.cs rfl rfl rfl ?_
          refine qm_v_within11_f ⟨by omega, by omega⟩ ⟨by omega, by omega⟩ ⟨by omega, by omega⟩ (by omega) ⟨_, rfl, ?_⟩
          refine qm_G.ret rfl rfl ⟨_, rfl, ?_⟩
          refine qm_G.s1 rfl (qm_x_if_ne_f ⟨by decide, by decide⟩ (by decide)) ?_
          refine qm_G.sp (lv1 := []) rfl rfl (qm_x_pushI (-3) rfl) ?_
          refine qm_G.ret rfl rfl ⟨_, rfl, ?_⟩
          refine qm_G.s1 rfl (qm_x_icmp_eq_t ⟨by decide, by decide⟩ ⟨by decide, by decide⟩ (by decide)) ?_
          exact ih _ _ _ _ _ _ hI.next
  · subst d1
    refine qm_G.sp (lv1 := [(0, qm_R (some (2, 0, 0))), (1, qm_R (some (0, 0, 0))), (2, qm_R (some (0, 61, 0))), (3, qm_I (qm_i z))]) rfl rfl (qm_x_aload rfl) ?_
    refine qm_G.s1 rfl (qm_x_aload rfl) ?_
    refine qm_G.s1 rfl (qm_x_iload rfl) ?_
    refine qm_G.s1 rfl (qm_x_pushI 1 rfl) ?_
    refine qm_G.s1 rfl (qm_x_iadd) ?_
    refine qm_G.s1 rfl (qm_x_iald2v (v := 1) (by omega) (by omega) hX e1) ?_
    refine qm_G.cm rfl rfl (hS 0 rfl) rfl ?_
    refine qm_C.go (cd := qm_P155) (lv := [(0, qm_R (some (0, 0, 0))), (1, qm_I (qm_i 1))]) rfl rfl ?_
    refine qm_G.s1 rfl (qm_x_iload rfl) ?_
    refine qm_G.cs rfl rfl rfl ?_
    refine qm_C.go (cd := qm_P18) (lv := [(0, qm_I (qm_i 1))]) rfl rfl ?_
    refine qm_G.s1 rfl (qm_x_iload rfl) ?_
    refine qm_G.s1 rfl (qm_x_if_eq_f ⟨by decide, by decide⟩ (by decide)) ?_
    refine qm_G.s1 rfl (qm_x_iload rfl) ?_
    refine qm_G.s1 rfl (qm_x_pushI 1 rfl) ?_
    refine qm_G.s1 rfl (qm_x_icmp_ne_f ⟨by decide, by decide⟩ ⟨by decide, by decide⟩ (by decide)) ?_
    refine qm_G.sp (lv1 := []) rfl rfl (qm_x_pushI 1 rfl) ?_
    refine qm_G.s1 rfl (qm_x_goto) ?_
    refine qm_G.ret rfl rfl ⟨_, rfl, ?_⟩
    refine qm_G.s1 rfl (qm_x_if_ne_t ⟨by decide, by decide⟩ (by decide)) ?_
    have f62_0 : 100 ≤ J 62 0 0 ∧ J 62 0 0 ≤ 9999 := hI.mk.r0
    have f62_5 : 1 ≤ J 62 0 5 ∧ J 62 0 5 ≤ 1000000 := hI.mk.r5
    have f62_9 : 0 ≤ J 62 0 9 ∧ J 62 0 9 ≤ 6 := hI.tr.rqa
    have f62_10 : -8 ≤ J 62 0 10 ∧ J 62 0 10 ≤ 8 := hI.tr.rstk
    have f62_11 : -2147483648 ≤ J 62 0 11 ∧ J 62 0 11 ≤ 2147483647 := hI.tr.rcsh
    have f61_12 : 0 ≤ J 61 0 12 ∧ J 61 0 12 ≤ 100 := hI.rtx
    obtain ⟨P9, eP9⟩ : ∃ P : Int, P = J 62 0 0 + J 62 0 9 := ⟨_, rfl⟩
    obtain ⟨W9, eW9⟩ : ∃ W : Int, W = P9 * J 62 0 5 := ⟨_, rfl⟩
    have hW9 : 0 ≤ W9 ∧ W9 ≤ 10005000000 := by rw [eW9]; exact ⟨Int.mul_nonneg (by omega) (by omega), Int.le_trans (Int.mul_le_mul (show P9 ≤ 10005 by omega) (show J 62 0 5 ≤ 1000000 by omega) (by omega) (by omega)) (by decide)⟩
    obtain ⟨t1, t2, t3, t4, t5, t6, t7, t8, t9⟩ := qm_trn (P := P9) ⟨by omega, by omega⟩ (show c9 ≤ 900 by omega) hm9 hs9
    rcases (show W9 ≤ 2147483647 ∨ 2147483648 ≤ W9 by omega) with cw | cw
    · rcases (show (-2147483648 ≤ J 62 0 11 + W9 ∧ J 62 0 11 + W9 ≤ 2147483647) ∨ J 62 0 11 + W9 < -2147483648 ∨ 2147483647 < J 62 0 11 + W9 by omega) with cc | cc | cc
      · refine qm_G.sp (lv1 := [(0, qm_R (some (0, 0, 0))), (1, qm_I (qm_i 1))]) rfl rfl (qm_x_aload rfl) ?_
        refine qm_G.s1 rfl (qm_x_getfR (q := (some (0, 1, 0))) (hS 0 rfl) (hR 0 0 1 rfl rfl)) ?_
        refine qm_G.s1 rfl (qm_x_getfR (q := (some (0, 2, 0))) (hS 1 rfl) (hR 1 0 2 rfl rfl)) ?_
        refine qm_G.s1 rfl (qm_x_getfR (q := (some (0, 3, 0))) (hS 2 rfl) (hR 2 0 3 rfl rfl)) ?_
        refine qm_G.s1 rfl (qm_x_astore (lv' := [(2, qm_R (some (0, 3, 0))), (0, qm_R (some (0, 0, 0))), (1, qm_I (qm_i 1))]) rfl) ?_
        refine qm_G.s1 rfl (qm_x_aload rfl) ?_
        refine qm_G.s1 rfl (qm_x_getfR (q := (some (0, 1, 0))) (hS 0 rfl) (hR 0 0 1 rfl rfl)) ?_
        refine qm_G.s1 rfl (qm_x_getfR (q := (some (0, 9, 0))) (hS 1 rfl) (hR 1 1 9 rfl rfl)) ?_
        refine qm_G.s1 rfl (qm_x_iload rfl) ?_
        refine qm_G.s1 rfl (qm_x_aload rfl) ?_
        refine qm_G.s1 rfl (qm_x_pushI 0 rfl) ?_
        have f3_0 : J 3 0 0 = J 62 0 0 := hI.mk.set 0 (by decide)
        refine qm_G.s1 rfl (qm_x_iald (v := (J 3 0 0)) (qm_arS hS rfl rfl) rfl (by decide) (by decide) (by decide) rfl) ?_
        refine qm_G.s1 rfl (qm_x_aload rfl) ?_
        refine qm_G.s1 rfl (qm_x_pushI 1 rfl) ?_
        have f62_1 : 1 ≤ J 62 0 1 ∧ J 62 0 1 ≤ 8 := hI.mk.r1
        have f3_1 : J 3 0 1 = J 62 0 1 := hI.mk.set 1 (by decide)
        refine qm_G.s1 rfl (qm_x_iald (v := (J 3 0 1)) (qm_arS hS rfl rfl) rfl (by decide) (by decide) (by decide) rfl) ?_
        refine qm_G.s1 rfl (qm_x_aload rfl) ?_
        refine qm_G.s1 rfl (qm_x_pushI 5 rfl) ?_
        have f3_5 : J 3 0 5 = J 62 0 5 := hI.mk.set 5 (by decide)
        refine qm_G.s1 rfl (qm_x_iald (v := (J 3 0 5)) (qm_arS hS rfl rfl) rfl (by decide) (by decide) (by decide) rfl) ?_
        refine qm_G.cm rfl rfl (hS 9 rfl) rfl ?_
        refine qm_C.go (cd := qm_P96) (lv := [(0, qm_R (some (0, 9, 0))), (1, qm_I (qm_i 1)), (2, qm_I (qm_i (J 3 0 0))), (3, qm_I (qm_i (J 3 0 1))), (4, qm_I (qm_i (J 3 0 5)))]) rfl rfl ?_
        refine qm_G.s1 rfl (qm_x_iload rfl) ?_
        refine qm_G.s1 rfl (qm_x_if_ne_t ⟨by decide, by decide⟩ (by decide)) ?_
        refine qm_G.sp (lv1 := [(0, qm_R (some (0, 9, 0))), (1, qm_I (qm_i 1)), (2, qm_I (qm_i (J 3 0 0))), (3, qm_I (qm_i (J 3 0 1))), (4, qm_I (qm_i (J 3 0 5)))]) rfl rfl (qm_x_aload rfl) ?_
        have f9_1 : J 9 0 1 = J 62 0 10 := hI.tr.stk
        refine qm_G.s1 rfl (qm_x_getfI (v := (J 9 0 1)) (hS 9 rfl) rfl) ?_
        refine qm_G.s1 rfl (qm_x_pushI 1 rfl) ?_
        refine qm_G.s1 rfl (qm_x_isub) ?_
        refine qm_G.sp (lv1 := [(0, qm_R (some (0, 9, 0))), (1, qm_I (qm_i 1)), (2, qm_I (qm_i (J 3 0 0))), (3, qm_I (qm_i (J 3 0 1))), (4, qm_I (qm_i (J 3 0 5)))]) rfl rfl (qm_x_istore (lv' := [(5, qm_I (qm_i ((J 9 0 1) - 1))), (0, qm_R (some (0, 9, 0))), (1, qm_I (qm_i 1)), (2, qm_I (qm_i (J 3 0 0))), (3, qm_I (qm_i (J 3 0 1))), (4, qm_I (qm_i (J 3 0 5)))]) rfl) ?_
        refine qm_G.s1 rfl (qm_x_aload rfl) ?_
        refine qm_G.s1 rfl (qm_x_getfR (q := (some (0, 10, 0))) (hS 9 rfl) (hR 9 0 10 rfl rfl)) ?_
        refine qm_G.s1 rfl (qm_x_iload rfl) ?_
        have f10_1 : J 10 0 1 = J 62 0 9 := hI.tr.qa
        refine qm_G.s1 rfl (qm_x_iald (v := (J 10 0 1)) (qm_arS hS rfl rfl) rfl (by decide) (by decide) (by decide) rfl) ?_
        refine qm_G.s1 rfl (qm_x_pushI 6 rfl) ?_
        refine qm_y_icmp_eq rfl ⟨by omega, by omega⟩ ⟨by decide, by decide⟩ (fun c27 => ?_) (fun c27 => ?_)
        · refine qm_G.sp (lv1 := []) rfl rfl (qm_x_pushI (-3) rfl) ?_
          refine qm_G.ret rfl rfl ⟨_, rfl, ?_⟩
          refine qm_G.ret rfl rfl ⟨_, rfl, ?_⟩
          refine qm_G.s1 rfl (qm_x_aload rfl) ?_
          refine qm_G.s1 rfl (qm_x_aload rfl) ?_
          refine qm_G.s1 rfl (qm_x_iload rfl) ?_
          refine qm_G.s1 rfl (qm_x_pushI 1 rfl) ?_
          refine qm_G.s1 rfl (qm_x_iadd) ?_
          refine qm_G.s1 rfl (qm_x_iald2v (v := 1) (by omega) (by omega) hX e1) ?_
          refine qm_G.cm rfl rfl (hS 61 rfl) rfl ?_
          refine qm_C.go (cd := qm_P143) (lv := [(0, qm_R (some (0, 61, 0))), (1, qm_I (qm_i 1))]) rfl rfl ?_
          refine qm_G.s1 rfl (qm_x_iload rfl) ?_
          refine qm_G.cs rfl rfl rfl ?_
          refine qm_C.go (cd := qm_P83) (lv := [(0, qm_I (qm_i 1))]) rfl rfl ?_
          refine qm_G.s1 rfl (qm_x_iload rfl) ?_
          refine qm_G.s1 rfl (qm_x_pushI 0 rfl) ?_
          refine qm_G.s1 rfl (qm_x_pushI 1 rfl) ?_
          refine qm_G.cs rfl rfl rfl ?_
          refine qm_v_within11_t ⟨by decide, by decide⟩ ⟨by decide, by decide⟩ ⟨by decide, by decide⟩ (by decide) ⟨_, rfl, ?_⟩
          refine qm_G.ret rfl rfl ⟨_, rfl, ?_⟩
          refine qm_G.s1 rfl (qm_x_if_ne_t ⟨by decide, by decide⟩ (by decide)) ?_
          refine qm_G.sp (lv1 := [(0, qm_R (some (0, 61, 0))), (1, qm_I (qm_i 1))]) rfl rfl (qm_x_aload rfl) ?_
          refine qm_G.s1 rfl (qm_x_getfR (q := (some (0, 62, 0))) (hS 61 rfl) (hR 61 0 62 rfl rfl)) ?_
          refine qm_G.s1 rfl (qm_x_pushI 8 rfl) ?_
          refine qm_G.s1 rfl (qm_x_iload rfl) ?_
          refine qm_G.s1 rfl (qm_x_iadd) ?_
          refine qm_G.s1 rfl (qm_x_iald (v := (J 62 0 9)) (qm_arS hS rfl rfl) rfl (by decide) (by decide) (by decide) rfl) ?_
          refine qm_G.s1 rfl (qm_x_istore (lv' := [(2, qm_I (qm_i (J 62 0 9))), (0, qm_R (some (0, 61, 0))), (1, qm_I (qm_i 1))]) rfl) ?_
          refine qm_G.s1 rfl (qm_x_iload rfl) ?_
          refine qm_G.s1 rfl (qm_x_if_ne_t ⟨by decide, by decide⟩ (by decide)) ?_
          refine qm_G.sp (lv1 := [(0, qm_R (some (0, 61, 0))), (1, qm_I (qm_i 1)), (2, qm_I (qm_i (J 62 0 9)))]) rfl rfl (qm_x_aload rfl) ?_
          refine qm_G.s1 rfl (qm_x_getfR (q := (some (0, 62, 0))) (hS 61 rfl) (hR 61 0 62 rfl rfl)) ?_
          refine qm_G.s1 rfl (qm_x_pushI 10 rfl) ?_
          refine qm_G.s1 rfl (qm_x_iald (v := (J 62 0 10)) (qm_arS hS rfl rfl) rfl (by decide) (by decide) (by decide) rfl) ?_
          refine qm_G.s1 rfl (qm_x_pushI 1 rfl) ?_
          refine qm_G.s1 rfl (qm_x_isub) ?_
          refine qm_G.sp (lv1 := [(0, qm_R (some (0, 61, 0))), (1, qm_I (qm_i 1)), (2, qm_I (qm_i (J 62 0 9)))]) rfl rfl (qm_x_istore (lv' := [(3, qm_I (qm_i ((J 62 0 10) - 1))), (0, qm_R (some (0, 61, 0))), (1, qm_I (qm_i 1)), (2, qm_I (qm_i (J 62 0 9)))]) rfl) ?_
          refine qm_G.s1 rfl (qm_x_iload rfl) ?_
          refine qm_G.s1 rfl (qm_x_pushI 6 rfl) ?_
          refine qm_G.s1 rfl (qm_x_icmp_eq_t ⟨by omega, by omega⟩ ⟨by decide, by decide⟩ (by omega)) ?_
          refine qm_G.sp (lv1 := []) rfl rfl (qm_x_pushI (-3) rfl) ?_
          refine qm_G.ret rfl rfl ⟨_, rfl, ?_⟩
          refine qm_G.s1 rfl (qm_x_icmp_eq_t ⟨by decide, by decide⟩ ⟨by decide, by decide⟩ (by decide)) ?_
          exact ih _ _ _ _ _ _ hI.next
        · refine qm_G.s1 rfl (qm_x_iload rfl) ?_
          refine qm_G.s1 rfl (qm_x_iload rfl) ?_
          refine qm_G.s1 rfl (qm_x_ineg) ?_
          refine qm_G.s1 rfl (qm_x_iload rfl) ?_
          refine qm_G.cs rfl rfl rfl ?_
          refine qm_v_within10 ⟨by omega, by omega⟩ ⟨by omega, by omega⟩ ⟨by omega, by omega⟩ (fun c29 => ⟨_, rfl, ?_⟩) (fun c29 => ⟨_, rfl, ?_⟩)
          · refine qm_G.s1 rfl (qm_x_if_ne_t ⟨by decide, by decide⟩ (by decide)) ?_
            refine qm_G.sp (lv1 := [(0, qm_R (some (0, 9, 0))), (1, qm_I (qm_i 1)), (2, qm_I (qm_i (J 3 0 0))), (4, qm_I (qm_i (J 3 0 5))), (5, qm_I (qm_i ((J 9 0 1) - 1)))]) rfl rfl (qm_x_iload rfl) ?_
            refine qm_G.s1 rfl (qm_x_if_ne_t ⟨by decide, by decide⟩ (by decide)) ?_
            refine qm_G.sp (lv1 := [(0, qm_R (some (0, 9, 0))), (1, qm_I (qm_i 1)), (2, qm_I (qm_i (J 3 0 0))), (4, qm_I (qm_i (J 3 0 5))), (5, qm_I (qm_i ((J 9 0 1) - 1)))]) rfl rfl (qm_x_iload rfl) ?_
            refine qm_G.s1 rfl (qm_x_aload rfl) ?_
            refine qm_G.s1 rfl (qm_x_getfR (q := (some (0, 10, 0))) (hS 9 rfl) (hR 9 0 10 rfl rfl)) ?_
            refine qm_G.s1 rfl (qm_x_pushI 1 rfl) ?_
            refine qm_G.s1 rfl (qm_x_iald (v := (J 10 0 1)) (qm_arS hS rfl rfl) rfl (by decide) (by decide) (by decide) rfl) ?_
            refine qm_G.s1 rfl (qm_x_iadd) ?_
            refine qm_G.sp (lv1 := [(0, qm_R (some (0, 9, 0))), (1, qm_I (qm_i 1)), (4, qm_I (qm_i (J 3 0 5))), (5, qm_I (qm_i ((J 9 0 1) - 1)))]) rfl rfl (qm_x_istore (lv' := [(6, qm_I (qm_i ((J 3 0 0) + (J 10 0 1)))), (0, qm_R (some (0, 9, 0))), (1, qm_I (qm_i 1)), (4, qm_I (qm_i (J 3 0 5))), (5, qm_I (qm_i ((J 9 0 1) - 1)))]) rfl) ?_
            refine qm_G.s1 rfl (qm_x_iload rfl) ?_
            refine qm_G.s1 rfl (qm_x_i2l ⟨by omega, by omega⟩) ?_
            refine qm_G.s1 rfl (qm_x_iload rfl) ?_
            refine qm_G.s1 rfl (qm_x_i2l ⟨by omega, by omega⟩) ?_
            refine qm_G.s1 rfl (qm_x_lmule (w := W9) (by rw [eW9, show ((J 3 0 0) + (J 10 0 1)) = P9 by omega, show (J 3 0 5) = J 62 0 5 by omega])) ?_
            refine qm_G.s1 rfl (qm_x_lstore (lv' := [(7, qm_L (qm_l W9)), (6, qm_I (qm_i ((J 3 0 0) + (J 10 0 1)))), (0, qm_R (some (0, 9, 0))), (1, qm_I (qm_i 1)), (4, qm_I (qm_i (J 3 0 5))), (5, qm_I (qm_i ((J 9 0 1) - 1)))]) rfl) ?_
            refine qm_G.s1 rfl (qm_x_iload rfl) ?_
            refine qm_G.s1 rfl (qm_x_if_ne_t ⟨by decide, by decide⟩ (by decide)) ?_
            refine qm_G.sp (lv1 := [(0, qm_R (some (0, 9, 0))), (5, qm_I (qm_i ((J 9 0 1) - 1))), (6, qm_I (qm_i ((J 3 0 0) + (J 10 0 1)))), (7, qm_L (qm_l W9))]) rfl rfl (qm_x_aload rfl) ?_
            have f9_2 : J 9 0 2 = J 62 0 11 := hI.tr.csh
            refine qm_G.s1 rfl (qm_x_getfI (v := (J 9 0 2)) (hS 9 rfl) rfl) ?_
            refine qm_G.s1 rfl (qm_x_i2l ⟨by omega, by omega⟩) ?_
            refine qm_G.s1 rfl (qm_x_lload rfl) ?_
            refine qm_G.s1 rfl (qm_x_laddz) ?_
            refine qm_G.sp (lv1 := [(0, qm_R (some (0, 9, 0))), (5, qm_I (qm_i ((J 9 0 1) - 1))), (6, qm_I (qm_i ((J 3 0 0) + (J 10 0 1)))), (7, qm_L (qm_l W9))]) rfl rfl (qm_x_lstore (lv' := [(9, qm_L (qm_l ((J 9 0 2) + W9))), (0, qm_R (some (0, 9, 0))), (5, qm_I (qm_i ((J 9 0 1) - 1))), (6, qm_I (qm_i ((J 3 0 0) + (J 10 0 1)))), (7, qm_L (qm_l W9))]) rfl) ?_
            refine qm_G.s1 rfl (qm_x_lload rfl) ?_
            refine qm_G.cs rfl rfl rfl ?_
            refine qm_C.go (cd := qm_P51) (lv := [(0, qm_L (qm_l W9))]) rfl rfl ?_
            refine qm_G.s1 rfl (qm_x_lload rfl) ?_
            refine qm_G.s1 rfl (qm_x_lload rfl) ?_
            refine qm_G.s1 rfl (qm_x_l2i ⟨by omega, by omega⟩) ?_
            refine qm_G.s1 rfl (qm_x_i2l ⟨by omega, by omega⟩) ?_
            refine qm_G.s1 rfl (qm_x_lcmp_eq rfl) ?_
            refine qm_G.s1 rfl (qm_x_if_ne_f ⟨by decide, by decide⟩ (by decide)) ?_
            refine qm_G.s1 rfl (qm_x_pushI 1 rfl) ?_
            refine qm_G.s1 rfl (qm_x_goto) ?_
            refine qm_G.ret rfl rfl ⟨_, rfl, ?_⟩
            refine qm_G.s1 rfl (qm_x_if_eq_f ⟨by decide, by decide⟩ (by decide)) ?_
            refine qm_G.s1 rfl (qm_x_lload rfl) ?_
            refine qm_G.cs rfl rfl rfl ?_
            refine qm_C.go (cd := qm_P51) (lv := [(0, qm_L (qm_l ((J 9 0 2) + W9)))]) rfl rfl ?_
            refine qm_G.s1 rfl (qm_x_lload rfl) ?_
            refine qm_G.s1 rfl (qm_x_lload rfl) ?_
            refine qm_G.s1 rfl (qm_x_l2i ⟨by omega, by omega⟩) ?_
            refine qm_G.s1 rfl (qm_x_i2l ⟨by omega, by omega⟩) ?_
            refine qm_G.s1 rfl (qm_x_lcmp_eq rfl) ?_
            refine qm_G.s1 rfl (qm_x_if_ne_f ⟨by decide, by decide⟩ (by decide)) ?_
            refine qm_G.s1 rfl (qm_x_pushI 1 rfl) ?_
            refine qm_G.s1 rfl (qm_x_goto) ?_
            refine qm_G.ret rfl rfl ⟨_, rfl, ?_⟩
            refine qm_G.s1 rfl (qm_x_if_ne_t ⟨by decide, by decide⟩ (by decide)) ?_
            refine qm_G.sp (lv1 := [(0, qm_R (some (0, 9, 0))), (5, qm_I (qm_i ((J 9 0 1) - 1))), (6, qm_I (qm_i ((J 3 0 0) + (J 10 0 1)))), (9, qm_L (qm_l ((J 9 0 2) + W9)))]) rfl rfl (qm_x_aload rfl) ?_
            refine qm_G.s1 rfl (qm_x_iload rfl) ?_
            refine qm_G.s1 rfl (qm_x_putfI (hS 9 rfl)) ?_
            refine qm_G.s1 rfl (qm_x_aload rfl) ?_
            refine qm_G.s1 rfl (qm_x_lload rfl) ?_
            refine qm_G.s1 rfl (qm_x_l2i ⟨by omega, by omega⟩) ?_
            refine qm_G.s1 rfl (qm_x_putfI (hS 9 rfl)) ?_
            refine qm_G.s1 rfl (qm_x_aload rfl) ?_
            refine qm_G.s1 rfl (qm_x_iload rfl) ?_
            refine qm_G.s1 rfl (qm_x_i2de (y := P9) (by omega)) ?_
            refine qm_G.cmv rfl rfl (hS 9 rfl) rfl ?_
            refine qm_C.go (cd := qm_P52) (lv := [(0, qm_R (some (0, 9, 0))), (1, qm_D (FP.i2d (qm_i P9)))]) rfl rfl ?_
            refine qm_G.s1 rfl (qm_x_aload rfl) ?_
            refine qm_G.s1 rfl (qm_x_aload rfl) ?_
            refine qm_G.s1 rfl (qm_x_getfD (a := (D 61 0 3)) (hS 9 rfl) hI.tr.spr) ?_
            refine qm_G.s1 rfl (qm_x_push) ?_
            refine qm_G.s1 rfl (qm_x_dmuls t2) ?_
            refine qm_G.s1 rfl (qm_x_dload rfl) ?_
            refine qm_G.s1 rfl (qm_x_aload rfl) ?_
            refine qm_G.s1 rfl (qm_x_getfD (a := (D 61 0 2)) (hS 9 rfl) hI.tr.mid) ?_
            refine qm_G.s1 rfl (qm_x_dsubs t1) ?_
            refine qm_G.s1 rfl (qm_x_dload rfl) ?_
            refine qm_G.s1 rfl (qm_x_aload rfl) ?_
            refine qm_G.s1 rfl (qm_x_getfD (a := (D 61 0 2)) (hS 9 rfl) hI.tr.mid) ?_
            refine qm_G.s1 rfl (qm_x_dsubs t1) ?_
            refine qm_G.s1 rfl (qm_x_dmuls t3) ?_
            refine qm_G.s1 rfl (qm_x_push) ?_
            refine qm_G.s1 rfl (qm_x_dmuls t4) ?_
            refine qm_G.s1 rfl (qm_x_dadds t5) ?_
            refine qm_G.s1 rfl (qm_x_putfD (hS 9 rfl)) ?_
            refine qm_G.s1 rfl (qm_x_aload rfl) ?_
            refine qm_G.s1 rfl (qm_x_aload rfl) ?_
            refine qm_G.s1 rfl (qm_x_getfD (a := (D 61 0 2)) (hS 9 rfl) hI.tr.mid) ?_
            refine qm_G.s1 rfl (qm_x_dload rfl) ?_
            refine qm_G.s1 rfl (qm_x_aload rfl) ?_
            refine qm_G.s1 rfl (qm_x_getfD (a := (D 61 0 2)) (hS 9 rfl) hI.tr.mid) ?_
            refine qm_G.s1 rfl (qm_x_dsubs t1) ?_
            refine qm_G.s1 rfl (qm_x_push) ?_
            refine qm_G.s1 rfl (qm_x_dmuls t6) ?_
            refine qm_G.s1 rfl (qm_x_dadds t7) ?_
            refine qm_G.s1 rfl (qm_x_putfD (hS 9 rfl)) ?_
            refine qm_G.retv rfl ⟨rfl, ?_⟩
            refine qm_G.s1 rfl (qm_x_pushI 100 rfl) ?_
            refine qm_G.s1 rfl (qm_x_aload rfl) ?_
            refine qm_G.s1 rfl (qm_x_getfI (v := ((J 9 0 1) - 1)) (hS 9 rfl) rfl) ?_
            refine qm_G.s1 rfl (qm_x_iadd) ?_
            refine qm_G.ret rfl rfl ⟨_, rfl, ?_⟩
            refine qm_G.ret rfl rfl ⟨_, rfl, ?_⟩
            refine qm_G.s1 rfl (qm_x_aload rfl) ?_
            refine qm_G.s1 rfl (qm_x_aload rfl) ?_
            refine qm_G.s1 rfl (qm_x_iload rfl) ?_
            refine qm_G.s1 rfl (qm_x_pushI 1 rfl) ?_
            refine qm_G.s1 rfl (qm_x_iadd) ?_
            refine qm_G.s1 rfl (qm_x_iald2v (v := 1) (by omega) (by omega) hX e1) ?_
            refine qm_G.cm rfl rfl (hS 61 rfl) rfl ?_
            refine qm_C.go (cd := qm_P143) (lv := [(0, qm_R (some (0, 61, 0))), (1, qm_I (qm_i 1))]) rfl rfl ?_
            refine qm_G.s1 rfl (qm_x_iload rfl) ?_
            refine qm_G.cs rfl rfl rfl ?_
            refine qm_C.go (cd := qm_P83) (lv := [(0, qm_I (qm_i 1))]) rfl rfl ?_
            refine qm_G.s1 rfl (qm_x_iload rfl) ?_
            refine qm_G.s1 rfl (qm_x_pushI 0 rfl) ?_
            refine qm_G.s1 rfl (qm_x_pushI 1 rfl) ?_
            refine qm_G.cs rfl rfl rfl ?_
            refine qm_v_within11_t ⟨by decide, by decide⟩ ⟨by decide, by decide⟩ ⟨by decide, by decide⟩ (by decide) ⟨_, rfl, ?_⟩
            refine qm_G.ret rfl rfl ⟨_, rfl, ?_⟩
            refine qm_G.s1 rfl (qm_x_if_ne_t ⟨by decide, by decide⟩ (by decide)) ?_
            refine qm_G.sp (lv1 := [(0, qm_R (some (0, 61, 0))), (1, qm_I (qm_i 1))]) rfl rfl (qm_x_aload rfl) ?_
            refine qm_G.s1 rfl (qm_x_getfR (q := (some (0, 62, 0))) (hS 61 rfl) (hR 61 0 62 rfl rfl)) ?_
            refine qm_G.s1 rfl (qm_x_pushI 8 rfl) ?_
            refine qm_G.s1 rfl (qm_x_iload rfl) ?_
            refine qm_G.s1 rfl (qm_x_iadd) ?_
            refine qm_G.s1 rfl (qm_x_iald (v := (J 62 0 9)) (qm_arS hS rfl rfl) rfl (by decide) (by decide) (by decide) rfl) ?_
            refine qm_G.s1 rfl (qm_x_istore (lv' := [(2, qm_I (qm_i (J 62 0 9))), (0, qm_R (some (0, 61, 0))), (1, qm_I (qm_i 1))]) rfl) ?_
            refine qm_G.s1 rfl (qm_x_iload rfl) ?_
            refine qm_G.s1 rfl (qm_x_if_ne_t ⟨by decide, by decide⟩ (by decide)) ?_
            refine qm_G.sp (lv1 := [(0, qm_R (some (0, 61, 0))), (1, qm_I (qm_i 1)), (2, qm_I (qm_i (J 62 0 9)))]) rfl rfl (qm_x_aload rfl) ?_
            refine qm_G.s1 rfl (qm_x_getfR (q := (some (0, 62, 0))) (hS 61 rfl) (hR 61 0 62 rfl rfl)) ?_
            refine qm_G.s1 rfl (qm_x_pushI 10 rfl) ?_
            refine qm_G.s1 rfl (qm_x_iald (v := (J 62 0 10)) (qm_arS hS rfl rfl) rfl (by decide) (by decide) (by decide) rfl) ?_
            refine qm_G.s1 rfl (qm_x_pushI 1 rfl) ?_
            refine qm_G.s1 rfl (qm_x_isub) ?_
            refine qm_G.sp (lv1 := [(0, qm_R (some (0, 61, 0))), (1, qm_I (qm_i 1)), (2, qm_I (qm_i (J 62 0 9)))]) rfl rfl (qm_x_istore (lv' := [(3, qm_I (qm_i ((J 62 0 10) - 1))), (0, qm_R (some (0, 61, 0))), (1, qm_I (qm_i 1)), (2, qm_I (qm_i (J 62 0 9)))]) rfl) ?_
            refine qm_G.s1 rfl (qm_x_iload rfl) ?_
            refine qm_G.s1 rfl (qm_x_pushI 6 rfl) ?_
            refine qm_G.s1 rfl (qm_x_icmp_eq_f ⟨by omega, by omega⟩ ⟨by decide, by decide⟩ (by omega)) ?_
            refine qm_G.s1 rfl (qm_x_aload rfl) ?_
            refine qm_G.s1 rfl (qm_x_iload rfl) ?_
            refine qm_G.cm rfl rfl (hS 61 rfl) rfl ?_
            refine qm_C.go (cd := qm_P85) (lv := [(0, qm_R (some (0, 61, 0))), (1, qm_I (qm_i ((J 62 0 10) - 1)))]) rfl rfl ?_
            refine qm_G.s1 rfl (qm_x_iload rfl) ?_
            refine qm_G.s1 rfl (qm_x_aload rfl) ?_
            refine qm_G.s1 rfl (qm_x_getfR (q := (some (0, 62, 0))) (hS 61 rfl) (hR 61 0 62 rfl rfl)) ?_
            refine qm_G.s1 rfl (qm_x_pushI 1 rfl) ?_
            refine qm_G.s1 rfl (qm_x_iald (v := (J 62 0 1)) (qm_arS hS rfl rfl) rfl (by decide) (by decide) (by decide) rfl) ?_
            refine qm_G.s1 rfl (qm_x_ineg) ?_
            refine qm_G.s1 rfl (qm_x_aload rfl) ?_
            refine qm_G.s1 rfl (qm_x_getfR (q := (some (0, 62, 0))) (hS 61 rfl) (hR 61 0 62 rfl rfl)) ?_
            refine qm_G.s1 rfl (qm_x_pushI 1 rfl) ?_
            refine qm_G.s1 rfl (qm_x_iald (v := (J 62 0 1)) (qm_arS hS rfl rfl) rfl (by decide) (by decide) (by decide) rfl) ?_
            refine qm_G.cs rfl rfl rfl ?_
            refine qm_v_within11_t ⟨by omega, by omega⟩ ⟨by omega, by omega⟩ ⟨by omega, by omega⟩ (by omega) ⟨_, rfl, ?_⟩
            refine qm_G.ret rfl rfl ⟨_, rfl, ?_⟩
            refine qm_G.s1 rfl (qm_x_if_ne_t ⟨by decide, by decide⟩ (by decide)) ?_
            refine qm_G.sp (lv1 := [(0, qm_R (some (0, 61, 0))), (1, qm_I (qm_i 1)), (2, qm_I (qm_i (J 62 0 9))), (3, qm_I (qm_i ((J 62 0 10) - 1)))]) rfl rfl (qm_x_iload rfl) ?_
            refine qm_G.s1 rfl (qm_x_if_ne_t ⟨by decide, by decide⟩ (by decide)) ?_
            refine qm_G.sp (lv1 := [(0, qm_R (some (0, 61, 0))), (1, qm_I (qm_i 1)), (2, qm_I (qm_i (J 62 0 9))), (3, qm_I (qm_i ((J 62 0 10) - 1)))]) rfl rfl (qm_x_aload rfl) ?_
            refine qm_G.s1 rfl (qm_x_getfR (q := (some (0, 62, 0))) (hS 61 rfl) (hR 61 0 62 rfl rfl)) ?_
            refine qm_G.s1 rfl (qm_x_pushI 0 rfl) ?_
            refine qm_G.s1 rfl (qm_x_iald (v := (J 62 0 0)) (qm_arS hS rfl rfl) rfl (by decide) (by decide) (by decide) rfl) ?_
            refine qm_G.s1 rfl (qm_x_iload rfl) ?_
            refine qm_G.s1 rfl (qm_x_iadd) ?_
            refine qm_G.sp (lv1 := [(0, qm_R (some (0, 61, 0))), (1, qm_I (qm_i 1)), (3, qm_I (qm_i ((J 62 0 10) - 1)))]) rfl rfl (qm_x_istore (lv' := [(4, qm_I (qm_i ((J 62 0 0) + (J 62 0 9)))), (0, qm_R (some (0, 61, 0))), (1, qm_I (qm_i 1)), (3, qm_I (qm_i ((J 62 0 10) - 1)))]) rfl) ?_
            refine qm_G.s1 rfl (qm_x_iload rfl) ?_
            refine qm_G.s1 rfl (qm_x_i2l ⟨by omega, by omega⟩) ?_
            refine qm_G.s1 rfl (qm_x_aload rfl) ?_
            refine qm_G.s1 rfl (qm_x_getfR (q := (some (0, 62, 0))) (hS 61 rfl) (hR 61 0 62 rfl rfl)) ?_
            refine qm_G.s1 rfl (qm_x_pushI 5 rfl) ?_
            refine qm_G.s1 rfl (qm_x_iald (v := (J 62 0 5)) (qm_arS hS rfl rfl) rfl (by decide) (by decide) (by decide) rfl) ?_
            refine qm_G.s1 rfl (qm_x_i2l ⟨by omega, by omega⟩) ?_
            refine qm_G.s1 rfl (qm_x_lmule (w := W9) (by rw [eW9, show ((J 62 0 0) + (J 62 0 9)) = P9 by omega, show (J 62 0 5) = J 62 0 5 by omega])) ?_
            refine qm_G.s1 rfl (qm_x_lstore (lv' := [(5, qm_L (qm_l W9)), (4, qm_I (qm_i ((J 62 0 0) + (J 62 0 9)))), (0, qm_R (some (0, 61, 0))), (1, qm_I (qm_i 1)), (3, qm_I (qm_i ((J 62 0 10) - 1)))]) rfl) ?_
            refine qm_G.s1 rfl (qm_x_iload rfl) ?_
            refine qm_G.s1 rfl (qm_x_if_ne_t ⟨by decide, by decide⟩ (by decide)) ?_
            refine qm_G.sp (lv1 := [(0, qm_R (some (0, 61, 0))), (3, qm_I (qm_i ((J 62 0 10) - 1))), (4, qm_I (qm_i ((J 62 0 0) + (J 62 0 9)))), (5, qm_L (qm_l W9))]) rfl rfl (qm_x_aload rfl) ?_
            refine qm_G.s1 rfl (qm_x_getfR (q := (some (0, 62, 0))) (hS 61 rfl) (hR 61 0 62 rfl rfl)) ?_
            refine qm_G.s1 rfl (qm_x_pushI 11 rfl) ?_
            refine qm_G.s1 rfl (qm_x_iald (v := (J 62 0 11)) (qm_arS hS rfl rfl) rfl (by decide) (by decide) (by decide) rfl) ?_
            refine qm_G.s1 rfl (qm_x_i2l ⟨by omega, by omega⟩) ?_
            refine qm_G.s1 rfl (qm_x_lload rfl) ?_
            refine qm_G.s1 rfl (qm_x_laddz) ?_
            refine qm_G.sp (lv1 := [(0, qm_R (some (0, 61, 0))), (3, qm_I (qm_i ((J 62 0 10) - 1))), (4, qm_I (qm_i ((J 62 0 0) + (J 62 0 9)))), (5, qm_L (qm_l W9))]) rfl rfl (qm_x_lstore (lv' := [(7, qm_L (qm_l ((J 62 0 11) + W9))), (0, qm_R (some (0, 61, 0))), (3, qm_I (qm_i ((J 62 0 10) - 1))), (4, qm_I (qm_i ((J 62 0 0) + (J 62 0 9)))), (5, qm_L (qm_l W9))]) rfl) ?_
            refine qm_G.s1 rfl (qm_x_lload rfl) ?_
            refine qm_G.s1 rfl (qm_x_lload rfl) ?_
            refine qm_G.s1 rfl (qm_x_l2i ⟨by omega, by omega⟩) ?_
            refine qm_G.s1 rfl (qm_x_i2l ⟨by omega, by omega⟩) ?_
            refine qm_G.s1 rfl (qm_x_lcmp_eq rfl) ?_
            refine qm_G.s1 rfl (qm_x_if_ne_f ⟨by decide, by decide⟩ (by decide)) ?_
            refine qm_G.s1 rfl (qm_x_lload rfl) ?_
            refine qm_G.s1 rfl (qm_x_lload rfl) ?_
            refine qm_G.s1 rfl (qm_x_l2i ⟨by omega, by omega⟩) ?_
            refine qm_G.s1 rfl (qm_x_i2l ⟨by omega, by omega⟩) ?_
            refine qm_G.s1 rfl (qm_x_lcmp_eq rfl) ?_
            refine qm_G.s1 rfl (qm_x_if_eq_t ⟨by decide, by decide⟩ (by decide)) ?_
            refine qm_G.sp (lv1 := [(0, qm_R (some (0, 61, 0))), (3, qm_I (qm_i ((J 62 0 10) - 1))), (4, qm_I (qm_i ((J 62 0 0) + (J 62 0 9)))), (7, qm_L (qm_l ((J 62 0 11) + W9)))]) rfl rfl (qm_x_aload rfl) ?_
            refine qm_G.s1 rfl (qm_x_getfR (q := (some (0, 62, 0))) (hS 61 rfl) (hR 61 0 62 rfl rfl)) ?_
            refine qm_G.s1 rfl (qm_x_pushI 10 rfl) ?_
            refine qm_G.s1 rfl (qm_x_iload rfl) ?_
            refine qm_G.s1 rfl (qm_x_iast (qm_arS hS rfl rfl) rfl (by decide) (by decide) (by decide)) ?_
            refine qm_G.s1 rfl (qm_x_aload rfl) ?_
            refine qm_G.s1 rfl (qm_x_getfR (q := (some (0, 62, 0))) (hS 61 rfl) (hR 61 0 62 rfl rfl)) ?_
            refine qm_G.s1 rfl (qm_x_pushI 11 rfl) ?_
            refine qm_G.s1 rfl (qm_x_lload rfl) ?_
            refine qm_G.s1 rfl (qm_x_l2i ⟨by omega, by omega⟩) ?_
            refine qm_G.s1 rfl (qm_x_iast (qm_arS hS rfl rfl) rfl (by decide) (by decide) (by decide)) ?_
            refine qm_G.s1 rfl (qm_x_iload rfl) ?_
            refine qm_G.s1 rfl (qm_x_i2de (y := P9) (by omega)) ?_
            refine qm_G.s1 rfl (qm_x_dstore (lv' := [(9, qm_D (FP.i2d (qm_i P9))), (0, qm_R (some (0, 61, 0))), (3, qm_I (qm_i ((J 62 0 10) - 1))), (4, qm_I (qm_i ((J 62 0 0) + (J 62 0 9)))), (7, qm_L (qm_l ((J 62 0 11) + W9)))]) rfl) ?_
            refine qm_G.s1 rfl (qm_x_aload rfl) ?_
            refine qm_G.s1 rfl (qm_x_aload rfl) ?_
            refine qm_G.s1 rfl (qm_x_getfD (a := (D 61 0 3)) (hS 61 rfl) rfl) ?_
            refine qm_G.s1 rfl (qm_x_push) ?_
            refine qm_G.s1 rfl (qm_x_dmuls t2) ?_
            refine qm_G.s1 rfl (qm_x_dload rfl) ?_
            refine qm_G.s1 rfl (qm_x_aload rfl) ?_
            refine qm_G.s1 rfl (qm_x_getfD (a := (D 61 0 2)) (hS 61 rfl) rfl) ?_
            refine qm_G.s1 rfl (qm_x_dsubs t1) ?_
            refine qm_G.s1 rfl (qm_x_dload rfl) ?_
            refine qm_G.s1 rfl (qm_x_aload rfl) ?_
            refine qm_G.s1 rfl (qm_x_getfD (a := (D 61 0 2)) (hS 61 rfl) rfl) ?_
            refine qm_G.s1 rfl (qm_x_dsubs t1) ?_
            refine qm_G.s1 rfl (qm_x_dmuls t3) ?_
            refine qm_G.s1 rfl (qm_x_push) ?_
            refine qm_G.s1 rfl (qm_x_dmuls t4) ?_
            refine qm_G.s1 rfl (qm_x_dadds t5) ?_
            refine qm_G.s1 rfl (qm_x_putfD (hS 61 rfl)) ?_
            refine qm_G.s1 rfl (qm_x_aload rfl) ?_
            refine qm_G.s1 rfl (qm_x_aload rfl) ?_
            refine qm_G.s1 rfl (qm_x_getfD (a := (D 61 0 2)) (hS 61 rfl) rfl) ?_
            refine qm_G.s1 rfl (qm_x_dload rfl) ?_
            refine qm_G.s1 rfl (qm_x_aload rfl) ?_
            refine qm_G.s1 rfl (qm_x_getfD (a := (D 61 0 2)) (hS 61 rfl) rfl) ?_
            refine qm_G.s1 rfl (qm_x_dsubs t1) ?_
            refine qm_G.s1 rfl (qm_x_push) ?_
            refine qm_G.s1 rfl (qm_x_dmuls t6) ?_
            refine qm_G.s1 rfl (qm_x_dadds t7) ?_
            refine qm_G.s1 rfl (qm_x_putfD (hS 61 rfl)) ?_
            refine qm_G.s1 rfl (qm_x_iload rfl) ?_
            refine qm_G.s1 rfl (qm_x_pushI 100 rfl) ?_
            refine qm_G.s1 rfl (qm_x_iadd) ?_
            refine qm_G.ret rfl rfl ⟨_, rfl, ?_⟩
            refine qm_G.s1 rfl (qm_x_icmp_eq_t ⟨by omega, by omega⟩ ⟨by omega, by omega⟩ (by omega)) ?_
            rw [show (J 9 0 1) - 1 = (J 62 0 10) - 1 by omega]
            rw [show ((J 9 0 2) + W9) = ((J 62 0 11) + W9) by omega]
            exact ih _ _ _ _ _ _ (qm_U_trade (by omega) ⟨by omega, by omega⟩ ⟨c9 + 1, by omega, t8, t9⟩ hI)
          · refine qm_G.s1 rfl (qm_x_if_ne_f ⟨by decide, by decide⟩ (by decide)) ?_
            refine qm_G.sp (lv1 := []) rfl rfl (qm_x_pushI (-3) rfl) ?_
            refine qm_G.ret rfl rfl ⟨_, rfl, ?_⟩
            refine qm_G.ret rfl rfl ⟨_, rfl, ?_⟩
            refine qm_G.s1 rfl (qm_x_aload rfl) ?_
            refine qm_G.s1 rfl (qm_x_aload rfl) ?_
            refine qm_G.s1 rfl (qm_x_iload rfl) ?_
            refine qm_G.s1 rfl (qm_x_pushI 1 rfl) ?_
            refine qm_G.s1 rfl (qm_x_iadd) ?_
            refine qm_G.s1 rfl (qm_x_iald2v (v := 1) (by omega) (by omega) hX e1) ?_
            refine qm_G.cm rfl rfl (hS 61 rfl) rfl ?_
            refine qm_C.go (cd := qm_P143) (lv := [(0, qm_R (some (0, 61, 0))), (1, qm_I (qm_i 1))]) rfl rfl ?_
            refine qm_G.s1 rfl (qm_x_iload rfl) ?_
            refine qm_G.cs rfl rfl rfl ?_
            refine qm_C.go (cd := qm_P83) (lv := [(0, qm_I (qm_i 1))]) rfl rfl ?_
            refine qm_G.s1 rfl (qm_x_iload rfl) ?_
            refine qm_G.s1 rfl (qm_x_pushI 0 rfl) ?_
            refine qm_G.s1 rfl (qm_x_pushI 1 rfl) ?_
            refine qm_G.cs rfl rfl rfl ?_
            refine qm_v_within11_t ⟨by decide, by decide⟩ ⟨by decide, by decide⟩ ⟨by decide, by decide⟩ (by decide) ⟨_, rfl, ?_⟩
            refine qm_G.ret rfl rfl ⟨_, rfl, ?_⟩
            refine qm_G.s1 rfl (qm_x_if_ne_t ⟨by decide, by decide⟩ (by decide)) ?_
            refine qm_G.sp (lv1 := [(0, qm_R (some (0, 61, 0))), (1, qm_I (qm_i 1))]) rfl rfl (qm_x_aload rfl) ?_
            refine qm_G.s1 rfl (qm_x_getfR (q := (some (0, 62, 0))) (hS 61 rfl) (hR 61 0 62 rfl rfl)) ?_
            refine qm_G.s1 rfl (qm_x_pushI 8 rfl) ?_
            refine qm_G.s1 rfl (qm_x_iload rfl) ?_
            refine qm_G.s1 rfl (qm_x_iadd) ?_
            refine qm_G.s1 rfl (qm_x_iald (v := (J 62 0 9)) (qm_arS hS rfl rfl) rfl (by decide) (by decide) (by decide) rfl) ?_
            refine qm_G.s1 rfl (qm_x_istore (lv' := [(2, qm_I (qm_i (J 62 0 9))), (0, qm_R (some (0, 61, 0))), (1, qm_I (qm_i 1))]) rfl) ?_
            refine qm_G.s1 rfl (qm_x_iload rfl) ?_
            refine qm_G.s1 rfl (qm_x_if_ne_t ⟨by decide, by decide⟩ (by decide)) ?_
            refine qm_G.sp (lv1 := [(0, qm_R (some (0, 61, 0))), (1, qm_I (qm_i 1)), (2, qm_I (qm_i (J 62 0 9)))]) rfl rfl (qm_x_aload rfl) ?_
            refine qm_G.s1 rfl (qm_x_getfR (q := (some (0, 62, 0))) (hS 61 rfl) (hR 61 0 62 rfl rfl)) ?_
            refine qm_G.s1 rfl (qm_x_pushI 10 rfl) ?_
            refine qm_G.s1 rfl (qm_x_iald (v := (J 62 0 10)) (qm_arS hS rfl rfl) rfl (by decide) (by decide) (by decide) rfl) ?_
            refine qm_G.s1 rfl (qm_x_pushI 1 rfl) ?_
            refine qm_G.s1 rfl (qm_x_isub) ?_
            refine qm_G.sp (lv1 := [(0, qm_R (some (0, 61, 0))), (1, qm_I (qm_i 1)), (2, qm_I (qm_i (J 62 0 9)))]) rfl rfl (qm_x_istore (lv' := [(3, qm_I (qm_i ((J 62 0 10) - 1))), (0, qm_R (some (0, 61, 0))), (1, qm_I (qm_i 1)), (2, qm_I (qm_i (J 62 0 9)))]) rfl) ?_
            refine qm_G.s1 rfl (qm_x_iload rfl) ?_
            refine qm_G.s1 rfl (qm_x_pushI 6 rfl) ?_
            refine qm_G.s1 rfl (qm_x_icmp_eq_f ⟨by omega, by omega⟩ ⟨by decide, by decide⟩ (by omega)) ?_
            refine qm_G.s1 rfl (qm_x_aload rfl) ?_
            refine qm_G.s1 rfl (qm_x_iload rfl) ?_
            refine qm_G.cm rfl rfl (hS 61 rfl) rfl ?_
            refine qm_C.go (cd := qm_P85) (lv := [(0, qm_R (some (0, 61, 0))), (1, qm_I (qm_i ((J 62 0 10) - 1)))]) rfl rfl ?_
            refine qm_G.s1 rfl (qm_x_iload rfl) ?_
            refine qm_G.s1 rfl (qm_x_aload rfl) ?_
            refine qm_G.s1 rfl (qm_x_getfR (q := (some (0, 62, 0))) (hS 61 rfl) (hR 61 0 62 rfl rfl)) ?_
            refine qm_G.s1 rfl (qm_x_pushI 1 rfl) ?_
            refine qm_G.s1 rfl (qm_x_iald (v := (J 62 0 1)) (qm_arS hS rfl rfl) rfl (by decide) (by decide) (by decide) rfl) ?_
            refine qm_G.s1 rfl (qm_x_ineg) ?_
            refine qm_G.s1 rfl (qm_x_aload rfl) ?_
            refine qm_G.s1 rfl (qm_x_getfR (q := (some (0, 62, 0))) (hS 61 rfl) (hR 61 0 62 rfl rfl)) ?_
            refine qm_G.s1 rfl (qm_x_pushI 1 rfl) ?_
            refine qm_G.s1 rfl (qm_x_iald (v := (J 62 0 1)) (qm_arS hS rfl rfl) rfl (by decide) (by decide) (by decide) rfl) ?_
            refine qm_G.cs rfl rfl rfl ?_
            refine qm_v_within11_f ⟨by omega, by omega⟩ ⟨by omega, by omega⟩ ⟨by omega, by omega⟩ (by omega) ⟨_, rfl, ?_⟩
            refine qm_G.ret rfl rfl ⟨_, rfl, ?_⟩
            refine qm_G.s1 rfl (qm_x_if_ne_f ⟨by decide, by decide⟩ (by decide)) ?_
            refine qm_G.sp (lv1 := []) rfl rfl (qm_x_pushI (-3) rfl) ?_
            refine qm_G.ret rfl rfl ⟨_, rfl, ?_⟩
            refine qm_G.s1 rfl (qm_x_icmp_eq_t ⟨by decide, by decide⟩ ⟨by decide, by decide⟩ (by decide)) ?_
            exact ih _ _ _ _ _ _ hI.next
      · exact absurd cc (by omega)
      · refine qm_G.sp (lv1 := [(0, qm_R (some (0, 0, 0))), (1, qm_I (qm_i 1))]) rfl rfl (qm_x_aload rfl) ?_
        refine qm_G.s1 rfl (qm_x_getfR (q := (some (0, 1, 0))) (hS 0 rfl) (hR 0 0 1 rfl rfl)) ?_
        refine qm_G.s1 rfl (qm_x_getfR (q := (some (0, 2, 0))) (hS 1 rfl) (hR 1 0 2 rfl rfl)) ?_
        refine qm_G.s1 rfl (qm_x_getfR (q := (some (0, 3, 0))) (hS 2 rfl) (hR 2 0 3 rfl rfl)) ?_
        refine qm_G.s1 rfl (qm_x_astore (lv' := [(2, qm_R (some (0, 3, 0))), (0, qm_R (some (0, 0, 0))), (1, qm_I (qm_i 1))]) rfl) ?_
        refine qm_G.s1 rfl (qm_x_aload rfl) ?_
        refine qm_G.s1 rfl (qm_x_getfR (q := (some (0, 1, 0))) (hS 0 rfl) (hR 0 0 1 rfl rfl)) ?_
        refine qm_G.s1 rfl (qm_x_getfR (q := (some (0, 9, 0))) (hS 1 rfl) (hR 1 1 9 rfl rfl)) ?_
        refine qm_G.s1 rfl (qm_x_iload rfl) ?_
        refine qm_G.s1 rfl (qm_x_aload rfl) ?_
        refine qm_G.s1 rfl (qm_x_pushI 0 rfl) ?_
        have f3_0 : J 3 0 0 = J 62 0 0 := hI.mk.set 0 (by decide)
        refine qm_G.s1 rfl (qm_x_iald (v := (J 3 0 0)) (qm_arS hS rfl rfl) rfl (by decide) (by decide) (by decide) rfl) ?_
        refine qm_G.s1 rfl (qm_x_aload rfl) ?_
        refine qm_G.s1 rfl (qm_x_pushI 1 rfl) ?_
        have f62_1 : 1 ≤ J 62 0 1 ∧ J 62 0 1 ≤ 8 := hI.mk.r1
        have f3_1 : J 3 0 1 = J 62 0 1 := hI.mk.set 1 (by decide)
        refine qm_G.s1 rfl (qm_x_iald (v := (J 3 0 1)) (qm_arS hS rfl rfl) rfl (by decide) (by decide) (by decide) rfl) ?_
        refine qm_G.s1 rfl (qm_x_aload rfl) ?_
        refine qm_G.s1 rfl (qm_x_pushI 5 rfl) ?_
        have f3_5 : J 3 0 5 = J 62 0 5 := hI.mk.set 5 (by decide)
        refine qm_G.s1 rfl (qm_x_iald (v := (J 3 0 5)) (qm_arS hS rfl rfl) rfl (by decide) (by decide) (by decide) rfl) ?_
        refine qm_G.cm rfl rfl (hS 9 rfl) rfl ?_
        refine qm_C.go (cd := qm_P96) (lv := [(0, qm_R (some (0, 9, 0))), (1, qm_I (qm_i 1)), (2, qm_I (qm_i (J 3 0 0))), (3, qm_I (qm_i (J 3 0 1))), (4, qm_I (qm_i (J 3 0 5)))]) rfl rfl ?_
        refine qm_G.s1 rfl (qm_x_iload rfl) ?_
        refine qm_G.s1 rfl (qm_x_if_ne_t ⟨by decide, by decide⟩ (by decide)) ?_
        refine qm_G.sp (lv1 := [(0, qm_R (some (0, 9, 0))), (1, qm_I (qm_i 1)), (2, qm_I (qm_i (J 3 0 0))), (3, qm_I (qm_i (J 3 0 1))), (4, qm_I (qm_i (J 3 0 5)))]) rfl rfl (qm_x_aload rfl) ?_
        have f9_1 : J 9 0 1 = J 62 0 10 := hI.tr.stk
        refine qm_G.s1 rfl (qm_x_getfI (v := (J 9 0 1)) (hS 9 rfl) rfl) ?_
        refine qm_G.s1 rfl (qm_x_pushI 1 rfl) ?_
        refine qm_G.s1 rfl (qm_x_isub) ?_
        refine qm_G.sp (lv1 := [(0, qm_R (some (0, 9, 0))), (1, qm_I (qm_i 1)), (2, qm_I (qm_i (J 3 0 0))), (3, qm_I (qm_i (J 3 0 1))), (4, qm_I (qm_i (J 3 0 5)))]) rfl rfl (qm_x_istore (lv' := [(5, qm_I (qm_i ((J 9 0 1) - 1))), (0, qm_R (some (0, 9, 0))), (1, qm_I (qm_i 1)), (2, qm_I (qm_i (J 3 0 0))), (3, qm_I (qm_i (J 3 0 1))), (4, qm_I (qm_i (J 3 0 5)))]) rfl) ?_
        refine qm_G.s1 rfl (qm_x_aload rfl) ?_
        refine qm_G.s1 rfl (qm_x_getfR (q := (some (0, 10, 0))) (hS 9 rfl) (hR 9 0 10 rfl rfl)) ?_
        refine qm_G.s1 rfl (qm_x_iload rfl) ?_
        have f10_1 : J 10 0 1 = J 62 0 9 := hI.tr.qa
        refine qm_G.s1 rfl (qm_x_iald (v := (J 10 0 1)) (qm_arS hS rfl rfl) rfl (by decide) (by decide) (by decide) rfl) ?_
        refine qm_G.s1 rfl (qm_x_pushI 6 rfl) ?_
        refine qm_y_icmp_eq rfl ⟨by omega, by omega⟩ ⟨by decide, by decide⟩ (fun c34 => ?_) (fun c34 => ?_)
        · refine qm_G.sp (lv1 := []) rfl rfl (qm_x_pushI (-3) rfl) ?_
          refine qm_G.ret rfl rfl ⟨_, rfl, ?_⟩
          refine qm_G.ret rfl rfl ⟨_, rfl, ?_⟩
          refine qm_G.s1 rfl (qm_x_aload rfl) ?_
          refine qm_G.s1 rfl (qm_x_aload rfl) ?_
          refine qm_G.s1 rfl (qm_x_iload rfl) ?_
          refine qm_G.s1 rfl (qm_x_pushI 1 rfl) ?_
          refine qm_G.s1 rfl (qm_x_iadd) ?_
          refine qm_G.s1 rfl (qm_x_iald2v (v := 1) (by omega) (by omega) hX e1) ?_
          refine qm_G.cm rfl rfl (hS 61 rfl) rfl ?_
          refine qm_C.go (cd := qm_P143) (lv := [(0, qm_R (some (0, 61, 0))), (1, qm_I (qm_i 1))]) rfl rfl ?_
          refine qm_G.s1 rfl (qm_x_iload rfl) ?_
          refine qm_G.cs rfl rfl rfl ?_
          refine qm_C.go (cd := qm_P83) (lv := [(0, qm_I (qm_i 1))]) rfl rfl ?_
          refine qm_G.s1 rfl (qm_x_iload rfl) ?_
          refine qm_G.s1 rfl (qm_x_pushI 0 rfl) ?_
          refine qm_G.s1 rfl (qm_x_pushI 1 rfl) ?_
          refine qm_G.cs rfl rfl rfl ?_
          refine qm_v_within11_t ⟨by decide, by decide⟩ ⟨by decide, by decide⟩ ⟨by decide, by decide⟩ (by decide) ⟨_, rfl, ?_⟩
          refine qm_G.ret rfl rfl ⟨_, rfl, ?_⟩
          refine qm_G.s1 rfl (qm_x_if_ne_t ⟨by decide, by decide⟩ (by decide)) ?_
          refine qm_G.sp (lv1 := [(0, qm_R (some (0, 61, 0))), (1, qm_I (qm_i 1))]) rfl rfl (qm_x_aload rfl) ?_
          refine qm_G.s1 rfl (qm_x_getfR (q := (some (0, 62, 0))) (hS 61 rfl) (hR 61 0 62 rfl rfl)) ?_
          refine qm_G.s1 rfl (qm_x_pushI 8 rfl) ?_
          refine qm_G.s1 rfl (qm_x_iload rfl) ?_
          refine qm_G.s1 rfl (qm_x_iadd) ?_
          refine qm_G.s1 rfl (qm_x_iald (v := (J 62 0 9)) (qm_arS hS rfl rfl) rfl (by decide) (by decide) (by decide) rfl) ?_
          refine qm_G.s1 rfl (qm_x_istore (lv' := [(2, qm_I (qm_i (J 62 0 9))), (0, qm_R (some (0, 61, 0))), (1, qm_I (qm_i 1))]) rfl) ?_
          refine qm_G.s1 rfl (qm_x_iload rfl) ?_
          refine qm_G.s1 rfl (qm_x_if_ne_t ⟨by decide, by decide⟩ (by decide)) ?_
          refine qm_G.sp (lv1 := [(0, qm_R (some (0, 61, 0))), (1, qm_I (qm_i 1)), (2, qm_I (qm_i (J 62 0 9)))]) rfl rfl (qm_x_aload rfl) ?_
          refine qm_G.s1 rfl (qm_x_getfR (q := (some (0, 62, 0))) (hS 61 rfl) (hR 61 0 62 rfl rfl)) ?_
          refine qm_G.s1 rfl (qm_x_pushI 10 rfl) ?_
          refine qm_G.s1 rfl (qm_x_iald (v := (J 62 0 10)) (qm_arS hS rfl rfl) rfl (by decide) (by decide) (by decide) rfl) ?_
          refine qm_G.s1 rfl (qm_x_pushI 1 rfl) ?_
          refine qm_G.s1 rfl (qm_x_isub) ?_
          refine qm_G.sp (lv1 := [(0, qm_R (some (0, 61, 0))), (1, qm_I (qm_i 1)), (2, qm_I (qm_i (J 62 0 9)))]) rfl rfl (qm_x_istore (lv' := [(3, qm_I (qm_i ((J 62 0 10) - 1))), (0, qm_R (some (0, 61, 0))), (1, qm_I (qm_i 1)), (2, qm_I (qm_i (J 62 0 9)))]) rfl) ?_
          refine qm_G.s1 rfl (qm_x_iload rfl) ?_
          refine qm_G.s1 rfl (qm_x_pushI 6 rfl) ?_
          refine qm_G.s1 rfl (qm_x_icmp_eq_t ⟨by omega, by omega⟩ ⟨by decide, by decide⟩ (by omega)) ?_
          refine qm_G.sp (lv1 := []) rfl rfl (qm_x_pushI (-3) rfl) ?_
          refine qm_G.ret rfl rfl ⟨_, rfl, ?_⟩
          refine qm_G.s1 rfl (qm_x_icmp_eq_t ⟨by decide, by decide⟩ ⟨by decide, by decide⟩ (by decide)) ?_
          exact ih _ _ _ _ _ _ hI.next
        · refine qm_G.s1 rfl (qm_x_iload rfl) ?_
          refine qm_G.s1 rfl (qm_x_iload rfl) ?_
          refine qm_G.s1 rfl (qm_x_ineg) ?_
          refine qm_G.s1 rfl (qm_x_iload rfl) ?_
          refine qm_G.cs rfl rfl rfl ?_
          refine qm_v_within10 ⟨by omega, by omega⟩ ⟨by omega, by omega⟩ ⟨by omega, by omega⟩ (fun c36 => ⟨_, rfl, ?_⟩) (fun c36 => ⟨_, rfl, ?_⟩)
          · refine qm_G.s1 rfl (qm_x_if_ne_t ⟨by decide, by decide⟩ (by decide)) ?_
            refine qm_G.sp (lv1 := [(0, qm_R (some (0, 9, 0))), (1, qm_I (qm_i 1)), (2, qm_I (qm_i (J 3 0 0))), (4, qm_I (qm_i (J 3 0 5))), (5, qm_I (qm_i ((J 9 0 1) - 1)))]) rfl rfl (qm_x_iload rfl) ?_
            refine qm_G.s1 rfl (qm_x_if_ne_t ⟨by decide, by decide⟩ (by decide)) ?_
            refine qm_G.sp (lv1 := [(0, qm_R (some (0, 9, 0))), (1, qm_I (qm_i 1)), (2, qm_I (qm_i (J 3 0 0))), (4, qm_I (qm_i (J 3 0 5))), (5, qm_I (qm_i ((J 9 0 1) - 1)))]) rfl rfl (qm_x_iload rfl) ?_
            refine qm_G.s1 rfl (qm_x_aload rfl) ?_
            refine qm_G.s1 rfl (qm_x_getfR (q := (some (0, 10, 0))) (hS 9 rfl) (hR 9 0 10 rfl rfl)) ?_
            refine qm_G.s1 rfl (qm_x_pushI 1 rfl) ?_
            refine qm_G.s1 rfl (qm_x_iald (v := (J 10 0 1)) (qm_arS hS rfl rfl) rfl (by decide) (by decide) (by decide) rfl) ?_
            refine qm_G.s1 rfl (qm_x_iadd) ?_
            refine qm_G.sp (lv1 := [(0, qm_R (some (0, 9, 0))), (1, qm_I (qm_i 1)), (4, qm_I (qm_i (J 3 0 5))), (5, qm_I (qm_i ((J 9 0 1) - 1)))]) rfl rfl (qm_x_istore (lv' := [(6, qm_I (qm_i ((J 3 0 0) + (J 10 0 1)))), (0, qm_R (some (0, 9, 0))), (1, qm_I (qm_i 1)), (4, qm_I (qm_i (J 3 0 5))), (5, qm_I (qm_i ((J 9 0 1) - 1)))]) rfl) ?_
            refine qm_G.s1 rfl (qm_x_iload rfl) ?_
            refine qm_G.s1 rfl (qm_x_i2l ⟨by omega, by omega⟩) ?_
            refine qm_G.s1 rfl (qm_x_iload rfl) ?_
            refine qm_G.s1 rfl (qm_x_i2l ⟨by omega, by omega⟩) ?_
            refine qm_G.s1 rfl (qm_x_lmule (w := W9) (by rw [eW9, show ((J 3 0 0) + (J 10 0 1)) = P9 by omega, show (J 3 0 5) = J 62 0 5 by omega])) ?_
            refine qm_G.s1 rfl (qm_x_lstore (lv' := [(7, qm_L (qm_l W9)), (6, qm_I (qm_i ((J 3 0 0) + (J 10 0 1)))), (0, qm_R (some (0, 9, 0))), (1, qm_I (qm_i 1)), (4, qm_I (qm_i (J 3 0 5))), (5, qm_I (qm_i ((J 9 0 1) - 1)))]) rfl) ?_
            refine qm_G.s1 rfl (qm_x_iload rfl) ?_
            refine qm_G.s1 rfl (qm_x_if_ne_t ⟨by decide, by decide⟩ (by decide)) ?_
            refine qm_G.sp (lv1 := [(0, qm_R (some (0, 9, 0))), (5, qm_I (qm_i ((J 9 0 1) - 1))), (6, qm_I (qm_i ((J 3 0 0) + (J 10 0 1)))), (7, qm_L (qm_l W9))]) rfl rfl (qm_x_aload rfl) ?_
            have f9_2 : J 9 0 2 = J 62 0 11 := hI.tr.csh
            refine qm_G.s1 rfl (qm_x_getfI (v := (J 9 0 2)) (hS 9 rfl) rfl) ?_
            refine qm_G.s1 rfl (qm_x_i2l ⟨by omega, by omega⟩) ?_
            refine qm_G.s1 rfl (qm_x_lload rfl) ?_
            refine qm_G.s1 rfl (qm_x_laddz) ?_
            refine qm_G.sp (lv1 := [(0, qm_R (some (0, 9, 0))), (5, qm_I (qm_i ((J 9 0 1) - 1))), (6, qm_I (qm_i ((J 3 0 0) + (J 10 0 1)))), (7, qm_L (qm_l W9))]) rfl rfl (qm_x_lstore (lv' := [(9, qm_L (qm_l ((J 9 0 2) + W9))), (0, qm_R (some (0, 9, 0))), (5, qm_I (qm_i ((J 9 0 1) - 1))), (6, qm_I (qm_i ((J 3 0 0) + (J 10 0 1)))), (7, qm_L (qm_l W9))]) rfl) ?_
            refine qm_G.s1 rfl (qm_x_lload rfl) ?_
            refine qm_G.cs rfl rfl rfl ?_
            refine qm_C.go (cd := qm_P51) (lv := [(0, qm_L (qm_l W9))]) rfl rfl ?_
            refine qm_G.s1 rfl (qm_x_lload rfl) ?_
            refine qm_G.s1 rfl (qm_x_lload rfl) ?_
            refine qm_G.s1 rfl (qm_x_l2i ⟨by omega, by omega⟩) ?_
            refine qm_G.s1 rfl (qm_x_i2l ⟨by omega, by omega⟩) ?_
            refine qm_G.s1 rfl (qm_x_lcmp_eq rfl) ?_
            refine qm_G.s1 rfl (qm_x_if_ne_f ⟨by decide, by decide⟩ (by decide)) ?_
            refine qm_G.s1 rfl (qm_x_pushI 1 rfl) ?_
            refine qm_G.s1 rfl (qm_x_goto) ?_
            refine qm_G.ret rfl rfl ⟨_, rfl, ?_⟩
            refine qm_G.s1 rfl (qm_x_if_eq_f ⟨by decide, by decide⟩ (by decide)) ?_
            refine qm_G.s1 rfl (qm_x_lload rfl) ?_
            refine qm_G.cs rfl rfl rfl ?_
            refine qm_C.go (cd := qm_P51) (lv := [(0, qm_L (qm_l ((J 9 0 2) + W9)))]) rfl rfl ?_
            refine qm_G.s1 rfl (qm_x_lload rfl) ?_
            refine qm_G.s1 rfl (qm_x_lload rfl) ?_
            refine qm_G.s1 rfl (qm_x_l2ir) ?_
            have g37 : qm_sm ((qm_l ((J 9 0 2) + W9)).toInt32.toInt) := qm_i_sml _
            refine qm_G.s1 rfl (qm_x_i2l ⟨by omega, by omega⟩) ?_
            refine qm_G.s1 rfl (qm_x_lcmpz_gt ⟨by omega, by omega⟩ ⟨by omega, by omega⟩ (by omega)) ?_
            refine qm_G.s1 rfl (qm_x_if_ne_t ⟨by decide, by decide⟩ (by decide)) ?_
            refine qm_G.sp (lv1 := []) rfl rfl (qm_x_pushI 0 rfl) ?_
            refine qm_G.ret rfl rfl ⟨_, rfl, ?_⟩
            refine qm_G.s1 rfl (qm_x_if_ne_f ⟨by decide, by decide⟩ (by decide)) ?_
            refine qm_G.sp (lv1 := []) rfl rfl (qm_x_pushI (-15) rfl) ?_
            refine qm_G.ret rfl rfl ⟨_, rfl, ?_⟩
            refine qm_G.ret rfl rfl ⟨_, rfl, ?_⟩
            refine qm_G.s1 rfl (qm_x_aload rfl) ?_
            refine qm_G.s1 rfl (qm_x_aload rfl) ?_
            refine qm_G.s1 rfl (qm_x_iload rfl) ?_
            refine qm_G.s1 rfl (qm_x_pushI 1 rfl) ?_
            refine qm_G.s1 rfl (qm_x_iadd) ?_
            refine qm_G.s1 rfl (qm_x_iald2v (v := 1) (by omega) (by omega) hX e1) ?_
            refine qm_G.cm rfl rfl (hS 61 rfl) rfl ?_
            refine qm_C.go (cd := qm_P143) (lv := [(0, qm_R (some (0, 61, 0))), (1, qm_I (qm_i 1))]) rfl rfl ?_
            refine qm_G.s1 rfl (qm_x_iload rfl) ?_
            refine qm_G.cs rfl rfl rfl ?_
            refine qm_C.go (cd := qm_P83) (lv := [(0, qm_I (qm_i 1))]) rfl rfl ?_
            refine qm_G.s1 rfl (qm_x_iload rfl) ?_
            refine qm_G.s1 rfl (qm_x_pushI 0 rfl) ?_
            refine qm_G.s1 rfl (qm_x_pushI 1 rfl) ?_
            refine qm_G.cs rfl rfl rfl ?_
            refine qm_v_within11_t ⟨by decide, by decide⟩ ⟨by decide, by decide⟩ ⟨by decide, by decide⟩ (by decide) ⟨_, rfl, ?_⟩
            refine qm_G.ret rfl rfl ⟨_, rfl, ?_⟩
            refine qm_G.s1 rfl (qm_x_if_ne_t ⟨by decide, by decide⟩ (by decide)) ?_
            refine qm_G.sp (lv1 := [(0, qm_R (some (0, 61, 0))), (1, qm_I (qm_i 1))]) rfl rfl (qm_x_aload rfl) ?_
            refine qm_G.s1 rfl (qm_x_getfR (q := (some (0, 62, 0))) (hS 61 rfl) (hR 61 0 62 rfl rfl)) ?_
            refine qm_G.s1 rfl (qm_x_pushI 8 rfl) ?_
            refine qm_G.s1 rfl (qm_x_iload rfl) ?_
            refine qm_G.s1 rfl (qm_x_iadd) ?_
            refine qm_G.s1 rfl (qm_x_iald (v := (J 62 0 9)) (qm_arS hS rfl rfl) rfl (by decide) (by decide) (by decide) rfl) ?_
            refine qm_G.s1 rfl (qm_x_istore (lv' := [(2, qm_I (qm_i (J 62 0 9))), (0, qm_R (some (0, 61, 0))), (1, qm_I (qm_i 1))]) rfl) ?_
            refine qm_G.s1 rfl (qm_x_iload rfl) ?_
            refine qm_G.s1 rfl (qm_x_if_ne_t ⟨by decide, by decide⟩ (by decide)) ?_
            refine qm_G.sp (lv1 := [(0, qm_R (some (0, 61, 0))), (1, qm_I (qm_i 1)), (2, qm_I (qm_i (J 62 0 9)))]) rfl rfl (qm_x_aload rfl) ?_
            refine qm_G.s1 rfl (qm_x_getfR (q := (some (0, 62, 0))) (hS 61 rfl) (hR 61 0 62 rfl rfl)) ?_
            refine qm_G.s1 rfl (qm_x_pushI 10 rfl) ?_
            refine qm_G.s1 rfl (qm_x_iald (v := (J 62 0 10)) (qm_arS hS rfl rfl) rfl (by decide) (by decide) (by decide) rfl) ?_
            refine qm_G.s1 rfl (qm_x_pushI 1 rfl) ?_
            refine qm_G.s1 rfl (qm_x_isub) ?_
            refine qm_G.sp (lv1 := [(0, qm_R (some (0, 61, 0))), (1, qm_I (qm_i 1)), (2, qm_I (qm_i (J 62 0 9)))]) rfl rfl (qm_x_istore (lv' := [(3, qm_I (qm_i ((J 62 0 10) - 1))), (0, qm_R (some (0, 61, 0))), (1, qm_I (qm_i 1)), (2, qm_I (qm_i (J 62 0 9)))]) rfl) ?_
            refine qm_G.s1 rfl (qm_x_iload rfl) ?_
            refine qm_G.s1 rfl (qm_x_pushI 6 rfl) ?_
            refine qm_G.s1 rfl (qm_x_icmp_eq_f ⟨by omega, by omega⟩ ⟨by decide, by decide⟩ (by omega)) ?_
            refine qm_G.s1 rfl (qm_x_aload rfl) ?_
            refine qm_G.s1 rfl (qm_x_iload rfl) ?_
            refine qm_G.cm rfl rfl (hS 61 rfl) rfl ?_
            refine qm_C.go (cd := qm_P85) (lv := [(0, qm_R (some (0, 61, 0))), (1, qm_I (qm_i ((J 62 0 10) - 1)))]) rfl rfl ?_
            refine qm_G.s1 rfl (qm_x_iload rfl) ?_
            refine qm_G.s1 rfl (qm_x_aload rfl) ?_
            refine qm_G.s1 rfl (qm_x_getfR (q := (some (0, 62, 0))) (hS 61 rfl) (hR 61 0 62 rfl rfl)) ?_
            refine qm_G.s1 rfl (qm_x_pushI 1 rfl) ?_
            refine qm_G.s1 rfl (qm_x_iald (v := (J 62 0 1)) (qm_arS hS rfl rfl) rfl (by decide) (by decide) (by decide) rfl) ?_
            refine qm_G.s1 rfl (qm_x_ineg) ?_
            refine qm_G.s1 rfl (qm_x_aload rfl) ?_
            refine qm_G.s1 rfl (qm_x_getfR (q := (some (0, 62, 0))) (hS 61 rfl) (hR 61 0 62 rfl rfl)) ?_
            refine qm_G.s1 rfl (qm_x_pushI 1 rfl) ?_
            refine qm_G.s1 rfl (qm_x_iald (v := (J 62 0 1)) (qm_arS hS rfl rfl) rfl (by decide) (by decide) (by decide) rfl) ?_
            refine qm_G.cs rfl rfl rfl ?_
            refine qm_v_within11_t ⟨by omega, by omega⟩ ⟨by omega, by omega⟩ ⟨by omega, by omega⟩ (by omega) ⟨_, rfl, ?_⟩
            refine qm_G.ret rfl rfl ⟨_, rfl, ?_⟩
            refine qm_G.s1 rfl (qm_x_if_ne_t ⟨by decide, by decide⟩ (by decide)) ?_
            refine qm_G.sp (lv1 := [(0, qm_R (some (0, 61, 0))), (1, qm_I (qm_i 1)), (2, qm_I (qm_i (J 62 0 9))), (3, qm_I (qm_i ((J 62 0 10) - 1)))]) rfl rfl (qm_x_iload rfl) ?_
            refine qm_G.s1 rfl (qm_x_if_ne_t ⟨by decide, by decide⟩ (by decide)) ?_
            refine qm_G.sp (lv1 := [(0, qm_R (some (0, 61, 0))), (1, qm_I (qm_i 1)), (2, qm_I (qm_i (J 62 0 9))), (3, qm_I (qm_i ((J 62 0 10) - 1)))]) rfl rfl (qm_x_aload rfl) ?_
            refine qm_G.s1 rfl (qm_x_getfR (q := (some (0, 62, 0))) (hS 61 rfl) (hR 61 0 62 rfl rfl)) ?_
            refine qm_G.s1 rfl (qm_x_pushI 0 rfl) ?_
            refine qm_G.s1 rfl (qm_x_iald (v := (J 62 0 0)) (qm_arS hS rfl rfl) rfl (by decide) (by decide) (by decide) rfl) ?_
            refine qm_G.s1 rfl (qm_x_iload rfl) ?_
            refine qm_G.s1 rfl (qm_x_iadd) ?_
            refine qm_G.sp (lv1 := [(0, qm_R (some (0, 61, 0))), (1, qm_I (qm_i 1)), (3, qm_I (qm_i ((J 62 0 10) - 1)))]) rfl rfl (qm_x_istore (lv' := [(4, qm_I (qm_i ((J 62 0 0) + (J 62 0 9)))), (0, qm_R (some (0, 61, 0))), (1, qm_I (qm_i 1)), (3, qm_I (qm_i ((J 62 0 10) - 1)))]) rfl) ?_
            refine qm_G.s1 rfl (qm_x_iload rfl) ?_
            refine qm_G.s1 rfl (qm_x_i2l ⟨by omega, by omega⟩) ?_
            refine qm_G.s1 rfl (qm_x_aload rfl) ?_
            refine qm_G.s1 rfl (qm_x_getfR (q := (some (0, 62, 0))) (hS 61 rfl) (hR 61 0 62 rfl rfl)) ?_
            refine qm_G.s1 rfl (qm_x_pushI 5 rfl) ?_
            refine qm_G.s1 rfl (qm_x_iald (v := (J 62 0 5)) (qm_arS hS rfl rfl) rfl (by decide) (by decide) (by decide) rfl) ?_
            refine qm_G.s1 rfl (qm_x_i2l ⟨by omega, by omega⟩) ?_
            refine qm_G.s1 rfl (qm_x_lmule (w := W9) (by rw [eW9, show ((J 62 0 0) + (J 62 0 9)) = P9 by omega, show (J 62 0 5) = J 62 0 5 by omega])) ?_
            refine qm_G.s1 rfl (qm_x_lstore (lv' := [(5, qm_L (qm_l W9)), (4, qm_I (qm_i ((J 62 0 0) + (J 62 0 9)))), (0, qm_R (some (0, 61, 0))), (1, qm_I (qm_i 1)), (3, qm_I (qm_i ((J 62 0 10) - 1)))]) rfl) ?_
            refine qm_G.s1 rfl (qm_x_iload rfl) ?_
            refine qm_G.s1 rfl (qm_x_if_ne_t ⟨by decide, by decide⟩ (by decide)) ?_
            refine qm_G.sp (lv1 := [(0, qm_R (some (0, 61, 0))), (3, qm_I (qm_i ((J 62 0 10) - 1))), (4, qm_I (qm_i ((J 62 0 0) + (J 62 0 9)))), (5, qm_L (qm_l W9))]) rfl rfl (qm_x_aload rfl) ?_
            refine qm_G.s1 rfl (qm_x_getfR (q := (some (0, 62, 0))) (hS 61 rfl) (hR 61 0 62 rfl rfl)) ?_
            refine qm_G.s1 rfl (qm_x_pushI 11 rfl) ?_
            refine qm_G.s1 rfl (qm_x_iald (v := (J 62 0 11)) (qm_arS hS rfl rfl) rfl (by decide) (by decide) (by decide) rfl) ?_
            refine qm_G.s1 rfl (qm_x_i2l ⟨by omega, by omega⟩) ?_
            refine qm_G.s1 rfl (qm_x_lload rfl) ?_
            refine qm_G.s1 rfl (qm_x_laddz) ?_
            refine qm_G.sp (lv1 := [(0, qm_R (some (0, 61, 0))), (3, qm_I (qm_i ((J 62 0 10) - 1))), (4, qm_I (qm_i ((J 62 0 0) + (J 62 0 9)))), (5, qm_L (qm_l W9))]) rfl rfl (qm_x_lstore (lv' := [(7, qm_L (qm_l ((J 62 0 11) + W9))), (0, qm_R (some (0, 61, 0))), (3, qm_I (qm_i ((J 62 0 10) - 1))), (4, qm_I (qm_i ((J 62 0 0) + (J 62 0 9)))), (5, qm_L (qm_l W9))]) rfl) ?_
            refine qm_G.s1 rfl (qm_x_lload rfl) ?_
            refine qm_G.s1 rfl (qm_x_lload rfl) ?_
            refine qm_G.s1 rfl (qm_x_l2i ⟨by omega, by omega⟩) ?_
            refine qm_G.s1 rfl (qm_x_i2l ⟨by omega, by omega⟩) ?_
            refine qm_G.s1 rfl (qm_x_lcmp_eq rfl) ?_
            refine qm_G.s1 rfl (qm_x_if_ne_f ⟨by decide, by decide⟩ (by decide)) ?_
            refine qm_G.s1 rfl (qm_x_lload rfl) ?_
            refine qm_G.s1 rfl (qm_x_lload rfl) ?_
            refine qm_G.s1 rfl (qm_x_l2ir) ?_
            have g40 : qm_sm ((qm_l ((J 62 0 11) + W9)).toInt32.toInt) := qm_i_sml _
            refine qm_G.s1 rfl (qm_x_i2l ⟨by omega, by omega⟩) ?_
            refine qm_G.s1 rfl (qm_x_lcmpz_gt ⟨by omega, by omega⟩ ⟨by omega, by omega⟩ (by omega)) ?_
            refine qm_G.s1 rfl (qm_x_if_eq_f ⟨by decide, by decide⟩ (by decide)) ?_
            refine qm_G.sp (lv1 := []) rfl rfl (qm_x_pushI (-15) rfl) ?_
            refine qm_G.ret rfl rfl ⟨_, rfl, ?_⟩
            refine qm_G.s1 rfl (qm_x_icmp_eq_t ⟨by decide, by decide⟩ ⟨by decide, by decide⟩ (by decide)) ?_
            exact ih _ _ _ _ _ _ hI.next
          · refine qm_G.s1 rfl (qm_x_if_ne_f ⟨by decide, by decide⟩ (by decide)) ?_
            refine qm_G.sp (lv1 := []) rfl rfl (qm_x_pushI (-3) rfl) ?_
            refine qm_G.ret rfl rfl ⟨_, rfl, ?_⟩
            refine qm_G.ret rfl rfl ⟨_, rfl, ?_⟩
            refine qm_G.s1 rfl (qm_x_aload rfl) ?_
            refine qm_G.s1 rfl (qm_x_aload rfl) ?_
            refine qm_G.s1 rfl (qm_x_iload rfl) ?_
            refine qm_G.s1 rfl (qm_x_pushI 1 rfl) ?_
            refine qm_G.s1 rfl (qm_x_iadd) ?_
            refine qm_G.s1 rfl (qm_x_iald2v (v := 1) (by omega) (by omega) hX e1) ?_
            refine qm_G.cm rfl rfl (hS 61 rfl) rfl ?_
            refine qm_C.go (cd := qm_P143) (lv := [(0, qm_R (some (0, 61, 0))), (1, qm_I (qm_i 1))]) rfl rfl ?_
            refine qm_G.s1 rfl (qm_x_iload rfl) ?_
            refine qm_G.cs rfl rfl rfl ?_
            refine qm_C.go (cd := qm_P83) (lv := [(0, qm_I (qm_i 1))]) rfl rfl ?_
            refine qm_G.s1 rfl (qm_x_iload rfl) ?_
            refine qm_G.s1 rfl (qm_x_pushI 0 rfl) ?_
            refine qm_G.s1 rfl (qm_x_pushI 1 rfl) ?_
            refine qm_G.cs rfl rfl rfl ?_
            refine qm_v_within11_t ⟨by decide, by decide⟩ ⟨by decide, by decide⟩ ⟨by decide, by decide⟩ (by decide) ⟨_, rfl, ?_⟩
            refine qm_G.ret rfl rfl ⟨_, rfl, ?_⟩
            refine qm_G.s1 rfl (qm_x_if_ne_t ⟨by decide, by decide⟩ (by decide)) ?_
            refine qm_G.sp (lv1 := [(0, qm_R (some (0, 61, 0))), (1, qm_I (qm_i 1))]) rfl rfl (qm_x_aload rfl) ?_
            refine qm_G.s1 rfl (qm_x_getfR (q := (some (0, 62, 0))) (hS 61 rfl) (hR 61 0 62 rfl rfl)) ?_
            refine qm_G.s1 rfl (qm_x_pushI 8 rfl) ?_
            refine qm_G.s1 rfl (qm_x_iload rfl) ?_
            refine qm_G.s1 rfl (qm_x_iadd) ?_
            refine qm_G.s1 rfl (qm_x_iald (v := (J 62 0 9)) (qm_arS hS rfl rfl) rfl (by decide) (by decide) (by decide) rfl) ?_
            refine qm_G.s1 rfl (qm_x_istore (lv' := [(2, qm_I (qm_i (J 62 0 9))), (0, qm_R (some (0, 61, 0))), (1, qm_I (qm_i 1))]) rfl) ?_
            refine qm_G.s1 rfl (qm_x_iload rfl) ?_
            refine qm_G.s1 rfl (qm_x_if_ne_t ⟨by decide, by decide⟩ (by decide)) ?_
            refine qm_G.sp (lv1 := [(0, qm_R (some (0, 61, 0))), (1, qm_I (qm_i 1)), (2, qm_I (qm_i (J 62 0 9)))]) rfl rfl (qm_x_aload rfl) ?_
            refine qm_G.s1 rfl (qm_x_getfR (q := (some (0, 62, 0))) (hS 61 rfl) (hR 61 0 62 rfl rfl)) ?_
            refine qm_G.s1 rfl (qm_x_pushI 10 rfl) ?_
            refine qm_G.s1 rfl (qm_x_iald (v := (J 62 0 10)) (qm_arS hS rfl rfl) rfl (by decide) (by decide) (by decide) rfl) ?_
            refine qm_G.s1 rfl (qm_x_pushI 1 rfl) ?_
            refine qm_G.s1 rfl (qm_x_isub) ?_
            refine qm_G.sp (lv1 := [(0, qm_R (some (0, 61, 0))), (1, qm_I (qm_i 1)), (2, qm_I (qm_i (J 62 0 9)))]) rfl rfl (qm_x_istore (lv' := [(3, qm_I (qm_i ((J 62 0 10) - 1))), (0, qm_R (some (0, 61, 0))), (1, qm_I (qm_i 1)), (2, qm_I (qm_i (J 62 0 9)))]) rfl) ?_
            refine qm_G.s1 rfl (qm_x_iload rfl) ?_
            refine qm_G.s1 rfl (qm_x_pushI 6 rfl) ?_
            refine qm_G.s1 rfl (qm_x_icmp_eq_f ⟨by omega, by omega⟩ ⟨by decide, by decide⟩ (by omega)) ?_
            refine qm_G.s1 rfl (qm_x_aload rfl) ?_
            refine qm_G.s1 rfl (qm_x_iload rfl) ?_
            refine qm_G.cm rfl rfl (hS 61 rfl) rfl ?_
            refine qm_C.go (cd := qm_P85) (lv := [(0, qm_R (some (0, 61, 0))), (1, qm_I (qm_i ((J 62 0 10) - 1)))]) rfl rfl ?_
            refine qm_G.s1 rfl (qm_x_iload rfl) ?_
            refine qm_G.s1 rfl (qm_x_aload rfl) ?_
            refine qm_G.s1 rfl (qm_x_getfR (q := (some (0, 62, 0))) (hS 61 rfl) (hR 61 0 62 rfl rfl)) ?_
            refine qm_G.s1 rfl (qm_x_pushI 1 rfl) ?_
            refine qm_G.s1 rfl (qm_x_iald (v := (J 62 0 1)) (qm_arS hS rfl rfl) rfl (by decide) (by decide) (by decide) rfl) ?_
            refine qm_G.s1 rfl (qm_x_ineg) ?_
            refine qm_G.s1 rfl (qm_x_aload rfl) ?_
            refine qm_G.s1 rfl (qm_x_getfR (q := (some (0, 62, 0))) (hS 61 rfl) (hR 61 0 62 rfl rfl)) ?_
            refine qm_G.s1 rfl (qm_x_pushI 1 rfl) ?_
            refine qm_G.s1 rfl (qm_x_iald (v := (J 62 0 1)) (qm_arS hS rfl rfl) rfl (by decide) (by decide) (by decide) rfl) ?_
            refine qm_G.cs rfl rfl rfl ?_
            refine qm_v_within11_f ⟨by omega, by omega⟩ ⟨by omega, by omega⟩ ⟨by omega, by omega⟩ (by omega) ⟨_, rfl, ?_⟩
            refine qm_G.ret rfl rfl ⟨_, rfl, ?_⟩
            refine qm_G.s1 rfl (qm_x_if_ne_f ⟨by decide, by decide⟩ (by decide)) ?_
            refine qm_G.sp (lv1 := []) rfl rfl (qm_x_pushI (-3) rfl) ?_
            refine qm_G.ret rfl rfl ⟨_, rfl, ?_⟩
            refine qm_G.s1 rfl (qm_x_icmp_eq_t ⟨by decide, by decide⟩ ⟨by decide, by decide⟩ (by decide)) ?_
            exact ih _ _ _ _ _ _ hI.next
    · refine qm_G.sp (lv1 := [(0, qm_R (some (0, 0, 0))), (1, qm_I (qm_i 1))]) rfl rfl (qm_x_aload rfl) ?_
      refine qm_G.s1 rfl (qm_x_getfR (q := (some (0, 1, 0))) (hS 0 rfl) (hR 0 0 1 rfl rfl)) ?_
      refine qm_G.s1 rfl (qm_x_getfR (q := (some (0, 2, 0))) (hS 1 rfl) (hR 1 0 2 rfl rfl)) ?_
      refine qm_G.s1 rfl (qm_x_getfR (q := (some (0, 3, 0))) (hS 2 rfl) (hR 2 0 3 rfl rfl)) ?_
      refine qm_G.s1 rfl (qm_x_astore (lv' := [(2, qm_R (some (0, 3, 0))), (0, qm_R (some (0, 0, 0))), (1, qm_I (qm_i 1))]) rfl) ?_
      refine qm_G.s1 rfl (qm_x_aload rfl) ?_
      refine qm_G.s1 rfl (qm_x_getfR (q := (some (0, 1, 0))) (hS 0 rfl) (hR 0 0 1 rfl rfl)) ?_
      refine qm_G.s1 rfl (qm_x_getfR (q := (some (0, 9, 0))) (hS 1 rfl) (hR 1 1 9 rfl rfl)) ?_
      refine qm_G.s1 rfl (qm_x_iload rfl) ?_
      refine qm_G.s1 rfl (qm_x_aload rfl) ?_
      refine qm_G.s1 rfl (qm_x_pushI 0 rfl) ?_
      have f3_0 : J 3 0 0 = J 62 0 0 := hI.mk.set 0 (by decide)
      refine qm_G.s1 rfl (qm_x_iald (v := (J 3 0 0)) (qm_arS hS rfl rfl) rfl (by decide) (by decide) (by decide) rfl) ?_
      refine qm_G.s1 rfl (qm_x_aload rfl) ?_
      refine qm_G.s1 rfl (qm_x_pushI 1 rfl) ?_
      have f62_1 : 1 ≤ J 62 0 1 ∧ J 62 0 1 ≤ 8 := hI.mk.r1
      have f3_1 : J 3 0 1 = J 62 0 1 := hI.mk.set 1 (by decide)
      refine qm_G.s1 rfl (qm_x_iald (v := (J 3 0 1)) (qm_arS hS rfl rfl) rfl (by decide) (by decide) (by decide) rfl) ?_
      refine qm_G.s1 rfl (qm_x_aload rfl) ?_
      refine qm_G.s1 rfl (qm_x_pushI 5 rfl) ?_
      have f3_5 : J 3 0 5 = J 62 0 5 := hI.mk.set 5 (by decide)
      refine qm_G.s1 rfl (qm_x_iald (v := (J 3 0 5)) (qm_arS hS rfl rfl) rfl (by decide) (by decide) (by decide) rfl) ?_
      refine qm_G.cm rfl rfl (hS 9 rfl) rfl ?_
      refine qm_C.go (cd := qm_P96) (lv := [(0, qm_R (some (0, 9, 0))), (1, qm_I (qm_i 1)), (2, qm_I (qm_i (J 3 0 0))), (3, qm_I (qm_i (J 3 0 1))), (4, qm_I (qm_i (J 3 0 5)))]) rfl rfl ?_
      refine qm_G.s1 rfl (qm_x_iload rfl) ?_
      refine qm_G.s1 rfl (qm_x_if_ne_t ⟨by decide, by decide⟩ (by decide)) ?_
      refine qm_G.sp (lv1 := [(0, qm_R (some (0, 9, 0))), (1, qm_I (qm_i 1)), (2, qm_I (qm_i (J 3 0 0))), (3, qm_I (qm_i (J 3 0 1))), (4, qm_I (qm_i (J 3 0 5)))]) rfl rfl (qm_x_aload rfl) ?_
      have f9_1 : J 9 0 1 = J 62 0 10 := hI.tr.stk
      refine qm_G.s1 rfl (qm_x_getfI (v := (J 9 0 1)) (hS 9 rfl) rfl) ?_
      refine qm_G.s1 rfl (qm_x_pushI 1 rfl) ?_
      refine qm_G.s1 rfl (qm_x_isub) ?_
      refine qm_G.sp (lv1 := [(0, qm_R (some (0, 9, 0))), (1, qm_I (qm_i 1)), (2, qm_I (qm_i (J 3 0 0))), (3, qm_I (qm_i (J 3 0 1))), (4, qm_I (qm_i (J 3 0 5)))]) rfl rfl (qm_x_istore (lv' := [(5, qm_I (qm_i ((J 9 0 1) - 1))), (0, qm_R (some (0, 9, 0))), (1, qm_I (qm_i 1)), (2, qm_I (qm_i (J 3 0 0))), (3, qm_I (qm_i (J 3 0 1))), (4, qm_I (qm_i (J 3 0 5)))]) rfl) ?_
      refine qm_G.s1 rfl (qm_x_aload rfl) ?_
      refine qm_G.s1 rfl (qm_x_getfR (q := (some (0, 10, 0))) (hS 9 rfl) (hR 9 0 10 rfl rfl)) ?_
      refine qm_G.s1 rfl (qm_x_iload rfl) ?_
      have f10_1 : J 10 0 1 = J 62 0 9 := hI.tr.qa
      refine qm_G.s1 rfl (qm_x_iald (v := (J 10 0 1)) (qm_arS hS rfl rfl) rfl (by decide) (by decide) (by decide) rfl) ?_
      refine qm_G.s1 rfl (qm_x_pushI 6 rfl) ?_
      refine qm_y_icmp_eq rfl ⟨by omega, by omega⟩ ⟨by decide, by decide⟩ (fun c43 => ?_) (fun c43 => ?_)
      · refine qm_G.sp (lv1 := []) rfl rfl (qm_x_pushI (-3) rfl) ?_
        refine qm_G.ret rfl rfl ⟨_, rfl, ?_⟩
        refine qm_G.ret rfl rfl ⟨_, rfl, ?_⟩
        refine qm_G.s1 rfl (qm_x_aload rfl) ?_
        refine qm_G.s1 rfl (qm_x_aload rfl) ?_
        refine qm_G.s1 rfl (qm_x_iload rfl) ?_
        refine qm_G.s1 rfl (qm_x_pushI 1 rfl) ?_
        refine qm_G.s1 rfl (qm_x_iadd) ?_
        refine qm_G.s1 rfl (qm_x_iald2v (v := 1) (by omega) (by omega) hX e1) ?_
        refine qm_G.cm rfl rfl (hS 61 rfl) rfl ?_
        refine qm_C.go (cd := qm_P143) (lv := [(0, qm_R (some (0, 61, 0))), (1, qm_I (qm_i 1))]) rfl rfl ?_
        refine qm_G.s1 rfl (qm_x_iload rfl) ?_
        refine qm_G.cs rfl rfl rfl ?_
        refine qm_C.go (cd := qm_P83) (lv := [(0, qm_I (qm_i 1))]) rfl rfl ?_
        refine qm_G.s1 rfl (qm_x_iload rfl) ?_
        refine qm_G.s1 rfl (qm_x_pushI 0 rfl) ?_
        refine qm_G.s1 rfl (qm_x_pushI 1 rfl) ?_
        refine qm_G.cs rfl rfl rfl ?_
        refine qm_v_within11_t ⟨by decide, by decide⟩ ⟨by decide, by decide⟩ ⟨by decide, by decide⟩ (by decide) ⟨_, rfl, ?_⟩
        refine qm_G.ret rfl rfl ⟨_, rfl, ?_⟩
        refine qm_G.s1 rfl (qm_x_if_ne_t ⟨by decide, by decide⟩ (by decide)) ?_
        refine qm_G.sp (lv1 := [(0, qm_R (some (0, 61, 0))), (1, qm_I (qm_i 1))]) rfl rfl (qm_x_aload rfl) ?_
        refine qm_G.s1 rfl (qm_x_getfR (q := (some (0, 62, 0))) (hS 61 rfl) (hR 61 0 62 rfl rfl)) ?_
        refine qm_G.s1 rfl (qm_x_pushI 8 rfl) ?_
        refine qm_G.s1 rfl (qm_x_iload rfl) ?_
        refine qm_G.s1 rfl (qm_x_iadd) ?_
        refine qm_G.s1 rfl (qm_x_iald (v := (J 62 0 9)) (qm_arS hS rfl rfl) rfl (by decide) (by decide) (by decide) rfl) ?_
        refine qm_G.s1 rfl (qm_x_istore (lv' := [(2, qm_I (qm_i (J 62 0 9))), (0, qm_R (some (0, 61, 0))), (1, qm_I (qm_i 1))]) rfl) ?_
        refine qm_G.s1 rfl (qm_x_iload rfl) ?_
        refine qm_G.s1 rfl (qm_x_if_ne_t ⟨by decide, by decide⟩ (by decide)) ?_
        refine qm_G.sp (lv1 := [(0, qm_R (some (0, 61, 0))), (1, qm_I (qm_i 1)), (2, qm_I (qm_i (J 62 0 9)))]) rfl rfl (qm_x_aload rfl) ?_
        refine qm_G.s1 rfl (qm_x_getfR (q := (some (0, 62, 0))) (hS 61 rfl) (hR 61 0 62 rfl rfl)) ?_
        refine qm_G.s1 rfl (qm_x_pushI 10 rfl) ?_
        refine qm_G.s1 rfl (qm_x_iald (v := (J 62 0 10)) (qm_arS hS rfl rfl) rfl (by decide) (by decide) (by decide) rfl) ?_
        refine qm_G.s1 rfl (qm_x_pushI 1 rfl) ?_
        refine qm_G.s1 rfl (qm_x_isub) ?_
        refine qm_G.sp (lv1 := [(0, qm_R (some (0, 61, 0))), (1, qm_I (qm_i 1)), (2, qm_I (qm_i (J 62 0 9)))]) rfl rfl (qm_x_istore (lv' := [(3, qm_I (qm_i ((J 62 0 10) - 1))), (0, qm_R (some (0, 61, 0))), (1, qm_I (qm_i 1)), (2, qm_I (qm_i (J 62 0 9)))]) rfl) ?_
        refine qm_G.s1 rfl (qm_x_iload rfl) ?_
        refine qm_G.s1 rfl (qm_x_pushI 6 rfl) ?_
        refine qm_G.s1 rfl (qm_x_icmp_eq_t ⟨by omega, by omega⟩ ⟨by decide, by decide⟩ (by omega)) ?_
        refine qm_G.sp (lv1 := []) rfl rfl (qm_x_pushI (-3) rfl) ?_
        refine qm_G.ret rfl rfl ⟨_, rfl, ?_⟩
        refine qm_G.s1 rfl (qm_x_icmp_eq_t ⟨by decide, by decide⟩ ⟨by decide, by decide⟩ (by decide)) ?_
        exact ih _ _ _ _ _ _ hI.next
      · refine qm_G.s1 rfl (qm_x_iload rfl) ?_
        refine qm_G.s1 rfl (qm_x_iload rfl) ?_
        refine qm_G.s1 rfl (qm_x_ineg) ?_
        refine qm_G.s1 rfl (qm_x_iload rfl) ?_
        refine qm_G.cs rfl rfl rfl ?_
        refine qm_v_within10 ⟨by omega, by omega⟩ ⟨by omega, by omega⟩ ⟨by omega, by omega⟩ (fun c45 => ⟨_, rfl, ?_⟩) (fun c45 => ⟨_, rfl, ?_⟩)
        · refine qm_G.s1 rfl (qm_x_if_ne_t ⟨by decide, by decide⟩ (by decide)) ?_
          refine qm_G.sp (lv1 := [(0, qm_R (some (0, 9, 0))), (1, qm_I (qm_i 1)), (2, qm_I (qm_i (J 3 0 0))), (4, qm_I (qm_i (J 3 0 5))), (5, qm_I (qm_i ((J 9 0 1) - 1)))]) rfl rfl (qm_x_iload rfl) ?_
          refine qm_G.s1 rfl (qm_x_if_ne_t ⟨by decide, by decide⟩ (by decide)) ?_
          refine qm_G.sp (lv1 := [(0, qm_R (some (0, 9, 0))), (1, qm_I (qm_i 1)), (2, qm_I (qm_i (J 3 0 0))), (4, qm_I (qm_i (J 3 0 5))), (5, qm_I (qm_i ((J 9 0 1) - 1)))]) rfl rfl (qm_x_iload rfl) ?_
          refine qm_G.s1 rfl (qm_x_aload rfl) ?_
          refine qm_G.s1 rfl (qm_x_getfR (q := (some (0, 10, 0))) (hS 9 rfl) (hR 9 0 10 rfl rfl)) ?_
          refine qm_G.s1 rfl (qm_x_pushI 1 rfl) ?_
          refine qm_G.s1 rfl (qm_x_iald (v := (J 10 0 1)) (qm_arS hS rfl rfl) rfl (by decide) (by decide) (by decide) rfl) ?_
          refine qm_G.s1 rfl (qm_x_iadd) ?_
          refine qm_G.sp (lv1 := [(0, qm_R (some (0, 9, 0))), (1, qm_I (qm_i 1)), (4, qm_I (qm_i (J 3 0 5))), (5, qm_I (qm_i ((J 9 0 1) - 1)))]) rfl rfl (qm_x_istore (lv' := [(6, qm_I (qm_i ((J 3 0 0) + (J 10 0 1)))), (0, qm_R (some (0, 9, 0))), (1, qm_I (qm_i 1)), (4, qm_I (qm_i (J 3 0 5))), (5, qm_I (qm_i ((J 9 0 1) - 1)))]) rfl) ?_
          refine qm_G.s1 rfl (qm_x_iload rfl) ?_
          refine qm_G.s1 rfl (qm_x_i2l ⟨by omega, by omega⟩) ?_
          refine qm_G.s1 rfl (qm_x_iload rfl) ?_
          refine qm_G.s1 rfl (qm_x_i2l ⟨by omega, by omega⟩) ?_
          refine qm_G.s1 rfl (qm_x_lmule (w := W9) (by rw [eW9, show ((J 3 0 0) + (J 10 0 1)) = P9 by omega, show (J 3 0 5) = J 62 0 5 by omega])) ?_
          refine qm_G.s1 rfl (qm_x_lstore (lv' := [(7, qm_L (qm_l W9)), (6, qm_I (qm_i ((J 3 0 0) + (J 10 0 1)))), (0, qm_R (some (0, 9, 0))), (1, qm_I (qm_i 1)), (4, qm_I (qm_i (J 3 0 5))), (5, qm_I (qm_i ((J 9 0 1) - 1)))]) rfl) ?_
          refine qm_G.s1 rfl (qm_x_iload rfl) ?_
          refine qm_G.s1 rfl (qm_x_if_ne_t ⟨by decide, by decide⟩ (by decide)) ?_
          refine qm_G.sp (lv1 := [(0, qm_R (some (0, 9, 0))), (5, qm_I (qm_i ((J 9 0 1) - 1))), (6, qm_I (qm_i ((J 3 0 0) + (J 10 0 1)))), (7, qm_L (qm_l W9))]) rfl rfl (qm_x_aload rfl) ?_
          have f9_2 : J 9 0 2 = J 62 0 11 := hI.tr.csh
          refine qm_G.s1 rfl (qm_x_getfI (v := (J 9 0 2)) (hS 9 rfl) rfl) ?_
          refine qm_G.s1 rfl (qm_x_i2l ⟨by omega, by omega⟩) ?_
          refine qm_G.s1 rfl (qm_x_lload rfl) ?_
          refine qm_G.s1 rfl (qm_x_laddz) ?_
          refine qm_G.sp (lv1 := [(0, qm_R (some (0, 9, 0))), (5, qm_I (qm_i ((J 9 0 1) - 1))), (6, qm_I (qm_i ((J 3 0 0) + (J 10 0 1)))), (7, qm_L (qm_l W9))]) rfl rfl (qm_x_lstore (lv' := [(9, qm_L (qm_l ((J 9 0 2) + W9))), (0, qm_R (some (0, 9, 0))), (5, qm_I (qm_i ((J 9 0 1) - 1))), (6, qm_I (qm_i ((J 3 0 0) + (J 10 0 1)))), (7, qm_L (qm_l W9))]) rfl) ?_
          refine qm_G.s1 rfl (qm_x_lload rfl) ?_
          refine qm_G.cs rfl rfl rfl ?_
          refine qm_C.go (cd := qm_P51) (lv := [(0, qm_L (qm_l W9))]) rfl rfl ?_
          refine qm_G.s1 rfl (qm_x_lload rfl) ?_
          refine qm_G.s1 rfl (qm_x_lload rfl) ?_
          refine qm_G.s1 rfl (qm_x_l2ir) ?_
          have g46 : qm_sm ((qm_l W9).toInt32.toInt) := qm_i_sml _
          refine qm_G.s1 rfl (qm_x_i2l ⟨by omega, by omega⟩) ?_
          refine qm_G.s1 rfl (qm_x_lcmpz_gt ⟨by omega, by omega⟩ ⟨by omega, by omega⟩ (by omega)) ?_
          refine qm_G.s1 rfl (qm_x_if_ne_t ⟨by decide, by decide⟩ (by decide)) ?_
          refine qm_G.sp (lv1 := []) rfl rfl (qm_x_pushI 0 rfl) ?_
          refine qm_G.ret rfl rfl ⟨_, rfl, ?_⟩
          refine qm_G.s1 rfl (qm_x_if_eq_t ⟨by decide, by decide⟩ (by decide)) ?_
          refine qm_G.sp (lv1 := []) rfl rfl (qm_x_pushI (-15) rfl) ?_
          refine qm_G.ret rfl rfl ⟨_, rfl, ?_⟩
          refine qm_G.ret rfl rfl ⟨_, rfl, ?_⟩
          refine qm_G.s1 rfl (qm_x_aload rfl) ?_
          refine qm_G.s1 rfl (qm_x_aload rfl) ?_
          refine qm_G.s1 rfl (qm_x_iload rfl) ?_
          refine qm_G.s1 rfl (qm_x_pushI 1 rfl) ?_
          refine qm_G.s1 rfl (qm_x_iadd) ?_
          refine qm_G.s1 rfl (qm_x_iald2v (v := 1) (by omega) (by omega) hX e1) ?_
          refine qm_G.cm rfl rfl (hS 61 rfl) rfl ?_
          refine qm_C.go (cd := qm_P143) (lv := [(0, qm_R (some (0, 61, 0))), (1, qm_I (qm_i 1))]) rfl rfl ?_
          refine qm_G.s1 rfl (qm_x_iload rfl) ?_
          refine qm_G.cs rfl rfl rfl ?_
          refine qm_C.go (cd := qm_P83) (lv := [(0, qm_I (qm_i 1))]) rfl rfl ?_
          refine qm_G.s1 rfl (qm_x_iload rfl) ?_
          refine qm_G.s1 rfl (qm_x_pushI 0 rfl) ?_
          refine qm_G.s1 rfl (qm_x_pushI 1 rfl) ?_
          refine qm_G.cs rfl rfl rfl ?_
          refine qm_v_within11_t ⟨by decide, by decide⟩ ⟨by decide, by decide⟩ ⟨by decide, by decide⟩ (by decide) ⟨_, rfl, ?_⟩
          refine qm_G.ret rfl rfl ⟨_, rfl, ?_⟩
          refine qm_G.s1 rfl (qm_x_if_ne_t ⟨by decide, by decide⟩ (by decide)) ?_
          refine qm_G.sp (lv1 := [(0, qm_R (some (0, 61, 0))), (1, qm_I (qm_i 1))]) rfl rfl (qm_x_aload rfl) ?_
          refine qm_G.s1 rfl (qm_x_getfR (q := (some (0, 62, 0))) (hS 61 rfl) (hR 61 0 62 rfl rfl)) ?_
          refine qm_G.s1 rfl (qm_x_pushI 8 rfl) ?_
          refine qm_G.s1 rfl (qm_x_iload rfl) ?_
          refine qm_G.s1 rfl (qm_x_iadd) ?_
          refine qm_G.s1 rfl (qm_x_iald (v := (J 62 0 9)) (qm_arS hS rfl rfl) rfl (by decide) (by decide) (by decide) rfl) ?_
          refine qm_G.s1 rfl (qm_x_istore (lv' := [(2, qm_I (qm_i (J 62 0 9))), (0, qm_R (some (0, 61, 0))), (1, qm_I (qm_i 1))]) rfl) ?_
          refine qm_G.s1 rfl (qm_x_iload rfl) ?_
          refine qm_G.s1 rfl (qm_x_if_ne_t ⟨by decide, by decide⟩ (by decide)) ?_
          refine qm_G.sp (lv1 := [(0, qm_R (some (0, 61, 0))), (1, qm_I (qm_i 1)), (2, qm_I (qm_i (J 62 0 9)))]) rfl rfl (qm_x_aload rfl) ?_
          refine qm_G.s1 rfl (qm_x_getfR (q := (some (0, 62, 0))) (hS 61 rfl) (hR 61 0 62 rfl rfl)) ?_
          refine qm_G.s1 rfl (qm_x_pushI 10 rfl) ?_
          refine qm_G.s1 rfl (qm_x_iald (v := (J 62 0 10)) (qm_arS hS rfl rfl) rfl (by decide) (by decide) (by decide) rfl) ?_
          refine qm_G.s1 rfl (qm_x_pushI 1 rfl) ?_
          refine qm_G.s1 rfl (qm_x_isub) ?_
          refine qm_G.sp (lv1 := [(0, qm_R (some (0, 61, 0))), (1, qm_I (qm_i 1)), (2, qm_I (qm_i (J 62 0 9)))]) rfl rfl (qm_x_istore (lv' := [(3, qm_I (qm_i ((J 62 0 10) - 1))), (0, qm_R (some (0, 61, 0))), (1, qm_I (qm_i 1)), (2, qm_I (qm_i (J 62 0 9)))]) rfl) ?_
          refine qm_G.s1 rfl (qm_x_iload rfl) ?_
          refine qm_G.s1 rfl (qm_x_pushI 6 rfl) ?_
          refine qm_G.s1 rfl (qm_x_icmp_eq_f ⟨by omega, by omega⟩ ⟨by decide, by decide⟩ (by omega)) ?_
          refine qm_G.s1 rfl (qm_x_aload rfl) ?_
          refine qm_G.s1 rfl (qm_x_iload rfl) ?_
          refine qm_G.cm rfl rfl (hS 61 rfl) rfl ?_
          refine qm_C.go (cd := qm_P85) (lv := [(0, qm_R (some (0, 61, 0))), (1, qm_I (qm_i ((J 62 0 10) - 1)))]) rfl rfl ?_
          refine qm_G.s1 rfl (qm_x_iload rfl) ?_
          refine qm_G.s1 rfl (qm_x_aload rfl) ?_
          refine qm_G.s1 rfl (qm_x_getfR (q := (some (0, 62, 0))) (hS 61 rfl) (hR 61 0 62 rfl rfl)) ?_
          refine qm_G.s1 rfl (qm_x_pushI 1 rfl) ?_
          refine qm_G.s1 rfl (qm_x_iald (v := (J 62 0 1)) (qm_arS hS rfl rfl) rfl (by decide) (by decide) (by decide) rfl) ?_
          refine qm_G.s1 rfl (qm_x_ineg) ?_
          refine qm_G.s1 rfl (qm_x_aload rfl) ?_
          refine qm_G.s1 rfl (qm_x_getfR (q := (some (0, 62, 0))) (hS 61 rfl) (hR 61 0 62 rfl rfl)) ?_
          refine qm_G.s1 rfl (qm_x_pushI 1 rfl) ?_
          refine qm_G.s1 rfl (qm_x_iald (v := (J 62 0 1)) (qm_arS hS rfl rfl) rfl (by decide) (by decide) (by decide) rfl) ?_
          refine qm_G.cs rfl rfl rfl ?_
          refine qm_v_within11_t ⟨by omega, by omega⟩ ⟨by omega, by omega⟩ ⟨by omega, by omega⟩ (by omega) ⟨_, rfl, ?_⟩
          refine qm_G.ret rfl rfl ⟨_, rfl, ?_⟩
          refine qm_G.s1 rfl (qm_x_if_ne_t ⟨by decide, by decide⟩ (by decide)) ?_
          refine qm_G.sp (lv1 := [(0, qm_R (some (0, 61, 0))), (1, qm_I (qm_i 1)), (2, qm_I (qm_i (J 62 0 9))), (3, qm_I (qm_i ((J 62 0 10) - 1)))]) rfl rfl (qm_x_iload rfl) ?_
          refine qm_G.s1 rfl (qm_x_if_ne_t ⟨by decide, by decide⟩ (by decide)) ?_
          refine qm_G.sp (lv1 := [(0, qm_R (some (0, 61, 0))), (1, qm_I (qm_i 1)), (2, qm_I (qm_i (J 62 0 9))), (3, qm_I (qm_i ((J 62 0 10) - 1)))]) rfl rfl (qm_x_aload rfl) ?_
          refine qm_G.s1 rfl (qm_x_getfR (q := (some (0, 62, 0))) (hS 61 rfl) (hR 61 0 62 rfl rfl)) ?_
          refine qm_G.s1 rfl (qm_x_pushI 0 rfl) ?_
          refine qm_G.s1 rfl (qm_x_iald (v := (J 62 0 0)) (qm_arS hS rfl rfl) rfl (by decide) (by decide) (by decide) rfl) ?_
          refine qm_G.s1 rfl (qm_x_iload rfl) ?_
          refine qm_G.s1 rfl (qm_x_iadd) ?_
          refine qm_G.sp (lv1 := [(0, qm_R (some (0, 61, 0))), (1, qm_I (qm_i 1)), (3, qm_I (qm_i ((J 62 0 10) - 1)))]) rfl rfl (qm_x_istore (lv' := [(4, qm_I (qm_i ((J 62 0 0) + (J 62 0 9)))), (0, qm_R (some (0, 61, 0))), (1, qm_I (qm_i 1)), (3, qm_I (qm_i ((J 62 0 10) - 1)))]) rfl) ?_
          refine qm_G.s1 rfl (qm_x_iload rfl) ?_
          refine qm_G.s1 rfl (qm_x_i2l ⟨by omega, by omega⟩) ?_
          refine qm_G.s1 rfl (qm_x_aload rfl) ?_
          refine qm_G.s1 rfl (qm_x_getfR (q := (some (0, 62, 0))) (hS 61 rfl) (hR 61 0 62 rfl rfl)) ?_
          refine qm_G.s1 rfl (qm_x_pushI 5 rfl) ?_
          refine qm_G.s1 rfl (qm_x_iald (v := (J 62 0 5)) (qm_arS hS rfl rfl) rfl (by decide) (by decide) (by decide) rfl) ?_
          refine qm_G.s1 rfl (qm_x_i2l ⟨by omega, by omega⟩) ?_
          refine qm_G.s1 rfl (qm_x_lmule (w := W9) (by rw [eW9, show ((J 62 0 0) + (J 62 0 9)) = P9 by omega, show (J 62 0 5) = J 62 0 5 by omega])) ?_
          refine qm_G.s1 rfl (qm_x_lstore (lv' := [(5, qm_L (qm_l W9)), (4, qm_I (qm_i ((J 62 0 0) + (J 62 0 9)))), (0, qm_R (some (0, 61, 0))), (1, qm_I (qm_i 1)), (3, qm_I (qm_i ((J 62 0 10) - 1)))]) rfl) ?_
          refine qm_G.s1 rfl (qm_x_iload rfl) ?_
          refine qm_G.s1 rfl (qm_x_if_ne_t ⟨by decide, by decide⟩ (by decide)) ?_
          refine qm_G.sp (lv1 := [(0, qm_R (some (0, 61, 0))), (3, qm_I (qm_i ((J 62 0 10) - 1))), (4, qm_I (qm_i ((J 62 0 0) + (J 62 0 9)))), (5, qm_L (qm_l W9))]) rfl rfl (qm_x_aload rfl) ?_
          refine qm_G.s1 rfl (qm_x_getfR (q := (some (0, 62, 0))) (hS 61 rfl) (hR 61 0 62 rfl rfl)) ?_
          refine qm_G.s1 rfl (qm_x_pushI 11 rfl) ?_
          refine qm_G.s1 rfl (qm_x_iald (v := (J 62 0 11)) (qm_arS hS rfl rfl) rfl (by decide) (by decide) (by decide) rfl) ?_
          refine qm_G.s1 rfl (qm_x_i2l ⟨by omega, by omega⟩) ?_
          refine qm_G.s1 rfl (qm_x_lload rfl) ?_
          refine qm_G.s1 rfl (qm_x_laddz) ?_
          refine qm_G.sp (lv1 := [(0, qm_R (some (0, 61, 0))), (3, qm_I (qm_i ((J 62 0 10) - 1))), (4, qm_I (qm_i ((J 62 0 0) + (J 62 0 9)))), (5, qm_L (qm_l W9))]) rfl rfl (qm_x_lstore (lv' := [(7, qm_L (qm_l ((J 62 0 11) + W9))), (0, qm_R (some (0, 61, 0))), (3, qm_I (qm_i ((J 62 0 10) - 1))), (4, qm_I (qm_i ((J 62 0 0) + (J 62 0 9)))), (5, qm_L (qm_l W9))]) rfl) ?_
          refine qm_G.s1 rfl (qm_x_lload rfl) ?_
          refine qm_G.s1 rfl (qm_x_lload rfl) ?_
          refine qm_G.s1 rfl (qm_x_l2ir) ?_
          have g49 : qm_sm ((qm_l W9).toInt32.toInt) := qm_i_sml _
          refine qm_G.s1 rfl (qm_x_i2l ⟨by omega, by omega⟩) ?_
          refine qm_G.s1 rfl (qm_x_lcmpz_gt ⟨by omega, by omega⟩ ⟨by omega, by omega⟩ (by omega)) ?_
          refine qm_G.s1 rfl (qm_x_if_ne_t ⟨by decide, by decide⟩ (by decide)) ?_
          refine qm_G.sp (lv1 := []) rfl rfl (qm_x_pushI (-15) rfl) ?_
          refine qm_G.ret rfl rfl ⟨_, rfl, ?_⟩
          refine qm_G.s1 rfl (qm_x_icmp_eq_t ⟨by decide, by decide⟩ ⟨by decide, by decide⟩ (by decide)) ?_
          exact ih _ _ _ _ _ _ hI.next
        · refine qm_G.s1 rfl (qm_x_if_ne_f ⟨by decide, by decide⟩ (by decide)) ?_
          refine qm_G.sp (lv1 := []) rfl rfl (qm_x_pushI (-3) rfl) ?_
          refine qm_G.ret rfl rfl ⟨_, rfl, ?_⟩
          refine qm_G.ret rfl rfl ⟨_, rfl, ?_⟩
          refine qm_G.s1 rfl (qm_x_aload rfl) ?_
          refine qm_G.s1 rfl (qm_x_aload rfl) ?_
          refine qm_G.s1 rfl (qm_x_iload rfl) ?_
          refine qm_G.s1 rfl (qm_x_pushI 1 rfl) ?_
          refine qm_G.s1 rfl (qm_x_iadd) ?_
          refine qm_G.s1 rfl (qm_x_iald2v (v := 1) (by omega) (by omega) hX e1) ?_
          refine qm_G.cm rfl rfl (hS 61 rfl) rfl ?_
          refine qm_C.go (cd := qm_P143) (lv := [(0, qm_R (some (0, 61, 0))), (1, qm_I (qm_i 1))]) rfl rfl ?_
          refine qm_G.s1 rfl (qm_x_iload rfl) ?_
          refine qm_G.cs rfl rfl rfl ?_
          refine qm_C.go (cd := qm_P83) (lv := [(0, qm_I (qm_i 1))]) rfl rfl ?_
          refine qm_G.s1 rfl (qm_x_iload rfl) ?_
          refine qm_G.s1 rfl (qm_x_pushI 0 rfl) ?_
          refine qm_G.s1 rfl (qm_x_pushI 1 rfl) ?_
          refine qm_G.cs rfl rfl rfl ?_
          refine qm_v_within11_t ⟨by decide, by decide⟩ ⟨by decide, by decide⟩ ⟨by decide, by decide⟩ (by decide) ⟨_, rfl, ?_⟩
          refine qm_G.ret rfl rfl ⟨_, rfl, ?_⟩
          refine qm_G.s1 rfl (qm_x_if_ne_t ⟨by decide, by decide⟩ (by decide)) ?_
          refine qm_G.sp (lv1 := [(0, qm_R (some (0, 61, 0))), (1, qm_I (qm_i 1))]) rfl rfl (qm_x_aload rfl) ?_
          refine qm_G.s1 rfl (qm_x_getfR (q := (some (0, 62, 0))) (hS 61 rfl) (hR 61 0 62 rfl rfl)) ?_
          refine qm_G.s1 rfl (qm_x_pushI 8 rfl) ?_
          refine qm_G.s1 rfl (qm_x_iload rfl) ?_
          refine qm_G.s1 rfl (qm_x_iadd) ?_
          refine qm_G.s1 rfl (qm_x_iald (v := (J 62 0 9)) (qm_arS hS rfl rfl) rfl (by decide) (by decide) (by decide) rfl) ?_
          refine qm_G.s1 rfl (qm_x_istore (lv' := [(2, qm_I (qm_i (J 62 0 9))), (0, qm_R (some (0, 61, 0))), (1, qm_I (qm_i 1))]) rfl) ?_
          refine qm_G.s1 rfl (qm_x_iload rfl) ?_
          refine qm_G.s1 rfl (qm_x_if_ne_t ⟨by decide, by decide⟩ (by decide)) ?_
          refine qm_G.sp (lv1 := [(0, qm_R (some (0, 61, 0))), (1, qm_I (qm_i 1)), (2, qm_I (qm_i (J 62 0 9)))]) rfl rfl (qm_x_aload rfl) ?_
          refine qm_G.s1 rfl (qm_x_getfR (q := (some (0, 62, 0))) (hS 61 rfl) (hR 61 0 62 rfl rfl)) ?_
          refine qm_G.s1 rfl (qm_x_pushI 10 rfl) ?_
          refine qm_G.s1 rfl (qm_x_iald (v := (J 62 0 10)) (qm_arS hS rfl rfl) rfl (by decide) (by decide) (by decide) rfl) ?_
          refine qm_G.s1 rfl (qm_x_pushI 1 rfl) ?_
          refine qm_G.s1 rfl (qm_x_isub) ?_
          refine qm_G.sp (lv1 := [(0, qm_R (some (0, 61, 0))), (1, qm_I (qm_i 1)), (2, qm_I (qm_i (J 62 0 9)))]) rfl rfl (qm_x_istore (lv' := [(3, qm_I (qm_i ((J 62 0 10) - 1))), (0, qm_R (some (0, 61, 0))), (1, qm_I (qm_i 1)), (2, qm_I (qm_i (J 62 0 9)))]) rfl) ?_
          refine qm_G.s1 rfl (qm_x_iload rfl) ?_
          refine qm_G.s1 rfl (qm_x_pushI 6 rfl) ?_
          refine qm_G.s1 rfl (qm_x_icmp_eq_f ⟨by omega, by omega⟩ ⟨by decide, by decide⟩ (by omega)) ?_
          refine qm_G.s1 rfl (qm_x_aload rfl) ?_
          refine qm_G.s1 rfl (qm_x_iload rfl) ?_
          refine qm_G.cm rfl rfl (hS 61 rfl) rfl ?_
          refine qm_C.go (cd := qm_P85) (lv := [(0, qm_R (some (0, 61, 0))), (1, qm_I (qm_i ((J 62 0 10) - 1)))]) rfl rfl ?_
          refine qm_G.s1 rfl (qm_x_iload rfl) ?_
          refine qm_G.s1 rfl (qm_x_aload rfl) ?_
          refine qm_G.s1 rfl (qm_x_getfR (q := (some (0, 62, 0))) (hS 61 rfl) (hR 61 0 62 rfl rfl)) ?_
          refine qm_G.s1 rfl (qm_x_pushI 1 rfl) ?_
          refine qm_G.s1 rfl (qm_x_iald (v := (J 62 0 1)) (qm_arS hS rfl rfl) rfl (by decide) (by decide) (by decide) rfl) ?_
          refine qm_G.s1 rfl (qm_x_ineg) ?_
          refine qm_G.s1 rfl (qm_x_aload rfl) ?_
          refine qm_G.s1 rfl (qm_x_getfR (q := (some (0, 62, 0))) (hS 61 rfl) (hR 61 0 62 rfl rfl)) ?_
          refine qm_G.s1 rfl (qm_x_pushI 1 rfl) ?_
          refine qm_G.s1 rfl (qm_x_iald (v := (J 62 0 1)) (qm_arS hS rfl rfl) rfl (by decide) (by decide) (by decide) rfl) ?_
          refine qm_G.cs rfl rfl rfl ?_
          refine qm_v_within11_f ⟨by omega, by omega⟩ ⟨by omega, by omega⟩ ⟨by omega, by omega⟩ (by omega) ⟨_, rfl, ?_⟩
          refine qm_G.ret rfl rfl ⟨_, rfl, ?_⟩
          refine qm_G.s1 rfl (qm_x_if_ne_f ⟨by decide, by decide⟩ (by decide)) ?_
          refine qm_G.sp (lv1 := []) rfl rfl (qm_x_pushI (-3) rfl) ?_
          refine qm_G.ret rfl rfl ⟨_, rfl, ?_⟩
          refine qm_G.s1 rfl (qm_x_icmp_eq_t ⟨by decide, by decide⟩ ⟨by decide, by decide⟩ (by decide)) ?_
          exact ih _ _ _ _ _ _ hI.next
  · refine qm_G.sp (lv1 := [(0, qm_R (some (2, 0, 0))), (1, qm_R (some (0, 0, 0))), (2, qm_R (some (0, 61, 0))), (3, qm_I (qm_i z))]) rfl rfl (qm_x_aload rfl) ?_
    refine qm_G.s1 rfl (qm_x_aload rfl) ?_
    refine qm_G.s1 rfl (qm_x_iload rfl) ?_
    refine qm_G.s1 rfl (qm_x_pushI 1 rfl) ?_
    refine qm_G.s1 rfl (qm_x_iadd) ?_
    refine qm_G.s1 rfl (qm_x_iald2v (v := a1) (by omega) (by omega) hX e1) ?_
    refine qm_G.cm rfl rfl (hS 0 rfl) rfl ?_
    refine qm_C.go (cd := qm_P155) (lv := [(0, qm_R (some (0, 0, 0))), (1, qm_I (qm_i a1))]) rfl rfl ?_
    refine qm_G.s1 rfl (qm_x_iload rfl) ?_
    refine qm_G.cs rfl rfl rfl ?_
    refine qm_C.go (cd := qm_P18) (lv := [(0, qm_I (qm_i a1))]) rfl rfl ?_
    refine qm_G.s1 rfl (qm_x_iload rfl) ?_
    refine qm_G.s1 rfl (qm_x_if_eq_f ⟨by omega, by omega⟩ (by omega)) ?_
    refine qm_G.s1 rfl (qm_x_iload rfl) ?_
    refine qm_G.s1 rfl (qm_x_pushI 1 rfl) ?_
    refine qm_G.s1 rfl (qm_x_icmp_ne_t ⟨by omega, by omega⟩ ⟨by decide, by decide⟩ (by omega)) ?_
    refine qm_G.sp (lv1 := []) rfl rfl (qm_x_pushI 0 rfl) ?_
    refine qm_G.ret rfl rfl ⟨_, rfl, ?_⟩
    refine qm_G.s1 rfl (qm_x_if_ne_f ⟨by decide, by decide⟩ (by decide)) ?_
    refine qm_G.s1 rfl (qm_x_pushI (-1) rfl) ?_
    refine qm_G.ret rfl rfl ⟨_, rfl, ?_⟩
    refine qm_G.s1 rfl (qm_x_aload rfl) ?_
    refine qm_G.s1 rfl (qm_x_aload rfl) ?_
    refine qm_G.s1 rfl (qm_x_iload rfl) ?_
    refine qm_G.s1 rfl (qm_x_pushI 1 rfl) ?_
    refine qm_G.s1 rfl (qm_x_iadd) ?_
    refine qm_G.s1 rfl (qm_x_iald2v (v := a1) (by omega) (by omega) hX e1) ?_
    refine qm_G.cm rfl rfl (hS 61 rfl) rfl ?_
    refine qm_C.go (cd := qm_P143) (lv := [(0, qm_R (some (0, 61, 0))), (1, qm_I (qm_i a1))]) rfl rfl ?_
    refine qm_G.s1 rfl (qm_x_iload rfl) ?_
    refine qm_G.cs rfl rfl rfl ?_
    refine qm_C.go (cd := qm_P83) (lv := [(0, qm_I (qm_i a1))]) rfl rfl ?_
    refine qm_G.s1 rfl (qm_x_iload rfl) ?_
    refine qm_G.s1 rfl (qm_x_pushI 0 rfl) ?_
    refine qm_G.s1 rfl (qm_x_pushI 1 rfl) ?_
    refine qm_G.cs rfl rfl rfl ?_
    refine qm_v_within11_f ⟨by omega, by omega⟩ ⟨by decide, by decide⟩ ⟨by decide, by decide⟩ (by omega) ⟨_, rfl, ?_⟩
    refine qm_G.ret rfl rfl ⟨_, rfl, ?_⟩
    refine qm_G.s1 rfl (qm_x_if_ne_f ⟨by decide, by decide⟩ (by decide)) ?_
    refine qm_G.s1 rfl (qm_x_pushI (-1) rfl) ?_
    refine qm_G.ret rfl rfl ⟨_, rfl, ?_⟩
    refine qm_G.s1 rfl (qm_x_icmp_eq_t ⟨by decide, by decide⟩ ⟨by decide, by decide⟩ (by decide)) ?_
    exact ih _ _ _ _ _ _ hI.next
