/-! THE LAW, case 18 -/
theorem qm_case18 {S : List qm_Sh} {J K : qm_J} {L : qm_Ct Int64} {D : qm_Ct UInt64} {R : qm_Ct (Option qm_Rf)} {X : Nat × (Nat → Int32)} {k : Nat} {z : Int} {Q : Option qm_V → qm_Hp → Prop} {a1 : Int} (hI : qm_Inv S J K L D R k) (hX : X.1 ≤ 3072) (h0 : 0 ≤ z) (h6 : z + 6 ≤ X.1) (hk : k ≤ 512) (e1 : (X.2 (Int.toNat (z + 1))).toInt = a1) (ih : ∀ (S : List qm_Sh) (J K : qm_J) (L : qm_Ct Int64) (D : qm_Ct UInt64) (R : qm_Ct (Option qm_Rf)), qm_Inv S J K L D R (k + 1) → qm_G qm_P qm_P222 1445 [(0, qm_R (some (2, 0, 0))), (1, qm_R (some (0, 0, 0))), (2, qm_R (some (0, 61, 0))), (3, qm_I (qm_i z))] [] (qm_H S J K L D R X) Q) : qm_G qm_P qm_P222 844 [(0, qm_R (some (2, 0, 0))), (1, qm_R (some (0, 0, 0))), (2, qm_R (some (0, 61, 0))), (3, qm_I (qm_i z))] [] (qm_H S J K L D R X) Q := by
  have hS := hI.sd
  have hR := hI.rd
  obtain ⟨c9, hc9, hc8, hm9, hs9⟩ := hI.tall.now hI.rtx.1
  have gm := hm9.go
  have gs := hs9.go (by omega)
  have s1 : qm_sm a1 := e1 ▸ qm_i_sml _
  rcases (show a1 = 0 ∨ a1 = 1 ∨ a1 = 2 ∨ a1 = 3 ∨ (a1 < 0 ∨ 3 < a1) by omega) with d1 | d1 | d1 | d1 | d1
  · subst d1
    refine qm_G.sp (lv1 := [(0, qm_R (some (2, 0, 0))), (1, qm_R (some (0, 0, 0))), (2, qm_R (some (0, 61, 0))), (3, qm_I (qm_i z))]) rfl rfl (qm_x_aload rfl) ?_
    refine qm_G.s1 rfl (qm_x_aload rfl) ?_
    refine qm_G.s1 rfl (qm_x_iload rfl) ?_
    refine qm_G.s1 rfl (qm_x_pushI 1 rfl) ?_
    refine qm_G.s1 rfl (qm_x_iadd) ?_
    refine qm_G.s1 rfl (qm_x_iald2v (v := 0) (by omega) (by omega) hX e1) ?_
    refine qm_G.cm rfl rfl (hS 0 rfl) rfl ?_
    refine qm_C.go (cd := qm_P154) (lv := [(0, qm_R (some (0, 0, 0))), (1, qm_I (qm_i 0))]) rfl rfl ?_
    refine qm_G.s1 rfl (qm_x_iload rfl) ?_
    refine qm_G.s1 rfl (qm_x_tsw (t := 32) rfl) ?_
    refine qm_G.sp (lv1 := [(0, qm_R (some (0, 0, 0)))]) rfl rfl (qm_x_aload rfl) ?_
    refine qm_G.s1 rfl (qm_x_getfR (q := (some (0, 1, 0))) (hS 0 rfl) (hR 0 0 1 rfl rfl)) ?_
    refine qm_G.s1 rfl (qm_x_getfR (q := (some (0, 9, 0))) (hS 1 rfl) (hR 1 1 9 rfl rfl)) ?_
    refine qm_G.s1 rfl (qm_x_getfD (a := (D 61 0 2)) (hS 9 rfl) hI.tr.mid) ?_
    refine qm_G.cs rfl rfl rfl ?_
    refine qm_v_dbits gm ⟨_, rfl, ?_⟩
    refine qm_G.ret rfl rfl ⟨_, rfl, ?_⟩
    refine qm_G.s1 rfl (qm_x_aload rfl) ?_
    refine qm_G.s1 rfl (qm_x_aload rfl) ?_
    refine qm_G.s1 rfl (qm_x_iload rfl) ?_
    refine qm_G.s1 rfl (qm_x_pushI 1 rfl) ?_
    refine qm_G.s1 rfl (qm_x_iadd) ?_
    refine qm_G.s1 rfl (qm_x_iald2v (v := 0) (by omega) (by omega) hX e1) ?_
    refine qm_G.cm rfl rfl (hS 61 rfl) rfl ?_
    refine qm_C.go (cd := qm_P148) (lv := [(0, qm_R (some (0, 61, 0))), (1, qm_I (qm_i 0))]) rfl rfl ?_
    refine qm_G.s1 rfl (qm_x_iload rfl) ?_
    refine qm_G.s1 rfl (qm_x_tsw (t := 32) rfl) ?_
    refine qm_G.sp (lv1 := [(0, qm_R (some (0, 61, 0)))]) rfl rfl (qm_x_aload rfl) ?_
    refine qm_G.s1 rfl (qm_x_getfD (a := (D 61 0 2)) (hS 61 rfl) rfl) ?_
    refine qm_G.cs rfl rfl rfl ?_
    refine qm_m_dbits gm ⟨_, rfl, ?_⟩
    refine qm_G.ret rfl rfl ⟨_, rfl, ?_⟩
    refine qm_G.s1 rfl (qm_x_lcmp_eq rfl) ?_
    refine qm_G.s1 rfl (qm_x_if_eq_t ⟨by decide, by decide⟩ (by decide)) ?_
    exact ih _ _ _ _ _ _ hI.next
  · subst d1
    refine qm_G.sp (lv1 := [(0, qm_R (some (2, 0, 0))), (1, qm_R (some (0, 0, 0))), (2, qm_R (some (0, 61, 0))), (3, qm_I (qm_i z))]) rfl rfl (qm_x_aload rfl) ?_
    refine qm_G.s1 rfl (qm_x_aload rfl) ?_
    refine qm_G.s1 rfl (qm_x_iload rfl) ?_
    refine qm_G.s1 rfl (qm_x_pushI 1 rfl) ?_
    refine qm_G.s1 rfl (qm_x_iadd) ?_
    refine qm_G.s1 rfl (qm_x_iald2v (v := 1) (by omega) (by omega) hX e1) ?_
    refine qm_G.cm rfl rfl (hS 0 rfl) rfl ?_
    refine qm_C.go (cd := qm_P154) (lv := [(0, qm_R (some (0, 0, 0))), (1, qm_I (qm_i 1))]) rfl rfl ?_
    refine qm_G.s1 rfl (qm_x_iload rfl) ?_
    refine qm_G.s1 rfl (qm_x_tsw (t := 46) rfl) ?_
    refine qm_G.sp (lv1 := [(0, qm_R (some (0, 0, 0)))]) rfl rfl (qm_x_aload rfl) ?_
    refine qm_G.s1 rfl (qm_x_getfR (q := (some (0, 1, 0))) (hS 0 rfl) (hR 0 0 1 rfl rfl)) ?_
    refine qm_G.s1 rfl (qm_x_getfR (q := (some (0, 9, 0))) (hS 1 rfl) (hR 1 1 9 rfl rfl)) ?_
    refine qm_G.s1 rfl (qm_x_getfD (a := (D 61 0 3)) (hS 9 rfl) hI.tr.spr) ?_
    refine qm_G.cs rfl rfl rfl ?_
    refine qm_v_dbits gs ⟨_, rfl, ?_⟩
    refine qm_G.ret rfl rfl ⟨_, rfl, ?_⟩
    refine qm_G.s1 rfl (qm_x_aload rfl) ?_
    refine qm_G.s1 rfl (qm_x_aload rfl) ?_
    refine qm_G.s1 rfl (qm_x_iload rfl) ?_
    refine qm_G.s1 rfl (qm_x_pushI 1 rfl) ?_
    refine qm_G.s1 rfl (qm_x_iadd) ?_
    refine qm_G.s1 rfl (qm_x_iald2v (v := 1) (by omega) (by omega) hX e1) ?_
    refine qm_G.cm rfl rfl (hS 61 rfl) rfl ?_
    refine qm_C.go (cd := qm_P148) (lv := [(0, qm_R (some (0, 61, 0))), (1, qm_I (qm_i 1))]) rfl rfl ?_
    refine qm_G.s1 rfl (qm_x_iload rfl) ?_
    refine qm_G.s1 rfl (qm_x_tsw (t := 40) rfl) ?_
    refine qm_G.sp (lv1 := [(0, qm_R (some (0, 61, 0)))]) rfl rfl (qm_x_aload rfl) ?_
    refine qm_G.s1 rfl (qm_x_getfD (a := (D 61 0 3)) (hS 61 rfl) rfl) ?_
    refine qm_G.cs rfl rfl rfl ?_
    refine qm_m_dbits gs ⟨_, rfl, ?_⟩
    refine qm_G.ret rfl rfl ⟨_, rfl, ?_⟩
    refine qm_G.s1 rfl (qm_x_lcmp_eq rfl) ?_
    refine qm_G.s1 rfl (qm_x_if_eq_t ⟨by decide, by decide⟩ (by decide)) ?_
    exact ih _ _ _ _ _ _ hI.next
  · subst d1
    refine qm_G.sp (lv1 := [(0, qm_R (some (2, 0, 0))), (1, qm_R (some (0, 0, 0))), (2, qm_R (some (0, 61, 0))), (3, qm_I (qm_i z))]) rfl rfl (qm_x_aload rfl) ?_
    refine qm_G.s1 rfl (qm_x_aload rfl) ?_
    refine qm_G.s1 rfl (qm_x_iload rfl) ?_
    refine qm_G.s1 rfl (qm_x_pushI 1 rfl) ?_
    refine qm_G.s1 rfl (qm_x_iadd) ?_
    refine qm_G.s1 rfl (qm_x_iald2v (v := 2) (by omega) (by omega) hX e1) ?_
    refine qm_G.cm rfl rfl (hS 0 rfl) rfl ?_
    refine qm_C.go (cd := qm_P154) (lv := [(0, qm_R (some (0, 0, 0))), (1, qm_I (qm_i 2))]) rfl rfl ?_
    refine qm_G.s1 rfl (qm_x_iload rfl) ?_
    refine qm_G.s1 rfl (qm_x_tsw (t := 60) rfl) ?_
    refine qm_G.sp (lv1 := [(0, qm_R (some (0, 0, 0)))]) rfl rfl (qm_x_aload rfl) ?_
    refine qm_G.s1 rfl (qm_x_getfR (q := (some (0, 1, 0))) (hS 0 rfl) (hR 0 0 1 rfl rfl)) ?_
    refine qm_G.s1 rfl (qm_x_getfR (q := (some (0, 9, 0))) (hS 1 rfl) (hR 1 1 9 rfl rfl)) ?_
    refine qm_G.s1 rfl (qm_x_getfD (a := (D 61 0 2)) (hS 9 rfl) hI.tr.mid) ?_
    refine qm_G.s1 rfl (qm_x_d2l) ?_
    refine qm_G.ret rfl rfl ⟨_, rfl, ?_⟩
    refine qm_G.s1 rfl (qm_x_aload rfl) ?_
    refine qm_G.s1 rfl (qm_x_aload rfl) ?_
    refine qm_G.s1 rfl (qm_x_iload rfl) ?_
    refine qm_G.s1 rfl (qm_x_pushI 1 rfl) ?_
    refine qm_G.s1 rfl (qm_x_iadd) ?_
    refine qm_G.s1 rfl (qm_x_iald2v (v := 2) (by omega) (by omega) hX e1) ?_
    refine qm_G.cm rfl rfl (hS 61 rfl) rfl ?_
    refine qm_C.go (cd := qm_P148) (lv := [(0, qm_R (some (0, 61, 0))), (1, qm_I (qm_i 2))]) rfl rfl ?_
    refine qm_G.s1 rfl (qm_x_iload rfl) ?_
    refine qm_G.s1 rfl (qm_x_tsw (t := 48) rfl) ?_
    refine qm_G.sp (lv1 := [(0, qm_R (some (0, 61, 0)))]) rfl rfl (qm_x_aload rfl) ?_
    refine qm_G.s1 rfl (qm_x_getfD (a := (D 61 0 2)) (hS 61 rfl) rfl) ?_
    refine qm_G.s1 rfl (qm_x_d2l) ?_
    refine qm_G.ret rfl rfl ⟨_, rfl, ?_⟩
    refine qm_G.s1 rfl (qm_x_lcmp_eq rfl) ?_
    refine qm_G.s1 rfl (qm_x_if_eq_t ⟨by decide, by decide⟩ (by decide)) ?_
    exact ih _ _ _ _ _ _ hI.next
  · subst d1
    refine qm_G.sp (lv1 := [(0, qm_R (some (2, 0, 0))), (1, qm_R (some (0, 0, 0))), (2, qm_R (some (0, 61, 0))), (3, qm_I (qm_i z))]) rfl rfl (qm_x_aload rfl) ?_
    refine qm_G.s1 rfl (qm_x_aload rfl) ?_
    refine qm_G.s1 rfl (qm_x_iload rfl) ?_
    refine qm_G.s1 rfl (qm_x_pushI 1 rfl) ?_
    refine qm_G.s1 rfl (qm_x_iadd) ?_
    refine qm_G.s1 rfl (qm_x_iald2v (v := 3) (by omega) (by omega) hX e1) ?_
    refine qm_G.cm rfl rfl (hS 0 rfl) rfl ?_
    refine qm_C.go (cd := qm_P154) (lv := [(0, qm_R (some (0, 0, 0))), (1, qm_I (qm_i 3))]) rfl rfl ?_
    refine qm_G.s1 rfl (qm_x_iload rfl) ?_
    refine qm_G.s1 rfl (qm_x_tsw (t := 72) rfl) ?_
    refine qm_G.sp (lv1 := [(0, qm_R (some (0, 0, 0)))]) rfl rfl (qm_x_aload rfl) ?_
    refine qm_G.s1 rfl (qm_x_getfR (q := (some (0, 1, 0))) (hS 0 rfl) (hR 0 0 1 rfl rfl)) ?_
    refine qm_G.s1 rfl (qm_x_getfR (q := (some (0, 9, 0))) (hS 1 rfl) (hR 1 1 9 rfl rfl)) ?_
    refine qm_G.s1 rfl (qm_x_getfD (a := (D 61 0 3)) (hS 9 rfl) hI.tr.spr) ?_
    refine qm_G.s1 rfl (qm_x_d2l) ?_
    refine qm_G.ret rfl rfl ⟨_, rfl, ?_⟩
    refine qm_G.s1 rfl (qm_x_aload rfl) ?_
    refine qm_G.s1 rfl (qm_x_aload rfl) ?_
    refine qm_G.s1 rfl (qm_x_iload rfl) ?_
    refine qm_G.s1 rfl (qm_x_pushI 1 rfl) ?_
    refine qm_G.s1 rfl (qm_x_iadd) ?_
    refine qm_G.s1 rfl (qm_x_iald2v (v := 3) (by omega) (by omega) hX e1) ?_
    refine qm_G.cm rfl rfl (hS 61 rfl) rfl ?_
    refine qm_C.go (cd := qm_P148) (lv := [(0, qm_R (some (0, 61, 0))), (1, qm_I (qm_i 3))]) rfl rfl ?_
    refine qm_G.s1 rfl (qm_x_iload rfl) ?_
    refine qm_G.s1 rfl (qm_x_tsw (t := 54) rfl) ?_
    refine qm_G.sp (lv1 := [(0, qm_R (some (0, 61, 0)))]) rfl rfl (qm_x_aload rfl) ?_
    refine qm_G.s1 rfl (qm_x_getfD (a := (D 61 0 3)) (hS 61 rfl) rfl) ?_
    refine qm_G.s1 rfl (qm_x_d2l) ?_
    refine qm_G.ret rfl rfl ⟨_, rfl, ?_⟩
    refine qm_G.s1 rfl (qm_x_lcmp_eq rfl) ?_
    refine qm_G.s1 rfl (qm_x_if_eq_t ⟨by decide, by decide⟩ (by decide)) ?_
    exact ih _ _ _ _ _ _ hI.next
  · refine qm_G.sp (lv1 := [(0, qm_R (some (2, 0, 0))), (1, qm_R (some (0, 0, 0))), (2, qm_R (some (0, 61, 0))), (3, qm_I (qm_i z))]) rfl rfl (qm_x_aload rfl) ?_
    refine qm_G.s1 rfl (qm_x_aload rfl) ?_
    refine qm_G.s1 rfl (qm_x_iload rfl) ?_
    refine qm_G.s1 rfl (qm_x_pushI 1 rfl) ?_
    refine qm_G.s1 rfl (qm_x_iadd) ?_
    refine qm_G.s1 rfl (qm_x_iald2v (v := a1) (by omega) (by omega) hX e1) ?_
    refine qm_G.cm rfl rfl (hS 0 rfl) rfl ?_
    refine qm_C.go (cd := qm_P154) (lv := [(0, qm_R (some (0, 0, 0))), (1, qm_I (qm_i a1))]) rfl rfl ?_
    refine qm_G.s1 rfl (qm_x_iload rfl) ?_
    rcases (show (a1 < 0 ∨ 4 ≤ a1) by omega) with c2
    · refine qm_G.s1 rfl (qm_x_tswd (m := 4) rfl ⟨by omega, by omega⟩ (by omega) (by omega) (by decide)) ?_
      refine qm_G.sp (lv1 := []) rfl rfl (qm_x_pushL (-9223372036854775808) rfl) ?_
      refine qm_G.ret rfl rfl ⟨_, rfl, ?_⟩
      refine qm_G.s1 rfl (qm_x_aload rfl) ?_
      refine qm_G.s1 rfl (qm_x_aload rfl) ?_
      refine qm_G.s1 rfl (qm_x_iload rfl) ?_
      refine qm_G.s1 rfl (qm_x_pushI 1 rfl) ?_
      refine qm_G.s1 rfl (qm_x_iadd) ?_
      refine qm_G.s1 rfl (qm_x_iald2v (v := a1) (by omega) (by omega) hX e1) ?_
      refine qm_G.cm rfl rfl (hS 61 rfl) rfl ?_
      refine qm_C.go (cd := qm_P148) (lv := [(0, qm_R (some (0, 61, 0))), (1, qm_I (qm_i a1))]) rfl rfl ?_
      refine qm_G.s1 rfl (qm_x_iload rfl) ?_
      rcases (show (a1 < 0 ∨ 4 ≤ a1) by omega) with c3
      · refine qm_G.s1 rfl (qm_x_tswd (m := 4) rfl ⟨by omega, by omega⟩ (by omega) (by omega) (by decide)) ?_
        refine qm_G.sp (lv1 := []) rfl rfl (qm_x_pushL (-9223372036854775808) rfl) ?_
        refine qm_G.ret rfl rfl ⟨_, rfl, ?_⟩
        refine qm_G.s1 rfl (qm_x_lcmp_eq rfl) ?_
        refine qm_G.s1 rfl (qm_x_if_eq_t ⟨by decide, by decide⟩ (by decide)) ?_
        exact ih _ _ _ _ _ _ hI.next
