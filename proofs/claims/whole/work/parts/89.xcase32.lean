/-! THE LAW, case 32 -/
theorem qm_case32 {S : List qm_Sh} {J K : qm_J} {L : qm_Ct Int64} {D : qm_Ct UInt64} {R : qm_Ct (Option qm_Rf)} {X : Nat × (Nat → Int32)} {k : Nat} {z : Int} {Q : Option qm_V → qm_Hp → Prop} {a1 : Int} (hI : qm_Inv S J K L D R k) (hX : X.1 ≤ 3072) (h0 : 0 ≤ z) (h6 : z + 6 ≤ X.1) (e1 : (X.2 (Int.toNat (z + 1))).toInt = a1) (ih : ∀ (S : List qm_Sh) (J K : qm_J) (L : qm_Ct Int64) (D : qm_Ct UInt64) (R : qm_Ct (Option qm_Rf)), qm_Inv S J K L D R (k + 1) → qm_G qm_P qm_P222 1445 [(0, qm_R (some (2, 0, 0))), (1, qm_R (some (0, 0, 0))), (2, qm_R (some (0, 61, 0))), (3, qm_I (qm_i z))] [] (qm_H S J K L D R X) Q) : qm_G qm_P qm_P222 1209 [(0, qm_R (some (2, 0, 0))), (1, qm_R (some (0, 0, 0))), (2, qm_R (some (0, 61, 0))), (3, qm_I (qm_i z))] [] (qm_H S J K L D R X) Q := by
  have hS := hI.sd
  have hR := hI.rd
  obtain ⟨d1, hd1, hl1⟩ := qm_dn_ex (y := (J 62 0 10).natAbs) (by have := hI.tr.rstk; omega)
  obtain ⟨d2, hd2, hl2⟩ := qm_dn_ex (y := (J 62 0 11).natAbs) (by have := hI.tr.rcsh; omega)
  have b1 : qm_sgn (J 62 0 10) d1 ≤ 2 := by
    have h1 : d1 = 1 := qm_dn_1 hd1 (by have := hI.tr.rstk; omega)
    unfold qm_sgn
    split <;> omega
  have b2 : qm_sgn (J 62 0 11) d2 ≤ 11 := by
    unfold qm_sgn
    split <;> omega
  obtain ⟨F, hF⟩ : ∃ F, qm_tkp F (J 62 0 10) (J 62 0 11) (J 62 0 8) (J 62 0 9) (qm_sgn (J 62 0 10) d1) (qm_sgn (J 62 0 11) d2) := ⟨_, qm_tkf_ok⟩
  have b3 : qm_tn (J 62 0 10) ≤ 6 := by
    unfold qm_tn
    split
    · decide
    · split <;> decide
  have s1 : qm_sm a1 := e1 ▸ qm_i_sml _
  rcases (show a1 = 0 ∨ a1 = 1 ∨ a1 = 2 ∨ a1 = 3 ∨ (a1 < 0 ∨ 3 < a1) by omega) with d1 | d1 | d1 | d1 | d1
  · subst d1
    refine qm_G.sp (lv1 := [(0, qm_R (some (2, 0, 0))), (1, qm_R (some (0, 0, 0))), (2, qm_R (some (0, 61, 0))), (3, qm_I (qm_i z))]) rfl rfl (qm_x_aload rfl) ?_
    refine qm_G.s1 rfl (qm_x_aload rfl) ?_
    refine qm_G.s1 rfl (qm_x_iload rfl) ?_
    refine qm_G.s1 rfl (qm_x_pushI 1 rfl) ?_
    refine qm_G.s1 rfl (qm_x_iadd) ?_
    refine qm_G.s1 rfl (qm_x_iald2v (v := 0) (by omega) (by omega) hX e1) ?_
    refine qm_G.cm rfl rfl (hS 0 rfl) rfl ?_
    refine qm_C.go (cd := qm_P219) (lv := [(0, qm_R (some (0, 0, 0))), (1, qm_I (qm_i 0))]) rfl rfl ?_
    refine qm_G.s1 rfl (qm_x_iload rfl) ?_
    refine qm_G.s1 rfl (qm_x_tsw (t := 32) rfl) ?_
    refine qm_G.sp (lv1 := [(0, qm_R (some (0, 0, 0)))]) rfl rfl (qm_x_aload rfl) ?_
    refine qm_G.s1 rfl (qm_x_getfR (q := (some (0, 1, 0))) (hS 0 rfl) (hR 0 0 1 rfl rfl)) ?_
    refine qm_G.s1 rfl (qm_x_getfR (q := (some (0, 11, 0))) (hS 1 rfl) (hR 1 2 11 rfl rfl)) ?_
    have f62_12 : 0 ≤ J 62 0 12 ∧ J 62 0 12 ≤ 5 := hI.nt.rsc
    have f11_3 : J 11 0 3 = J 62 0 12 := hI.nt.sc
    refine qm_G.s1 rfl (qm_x_getfI (v := (J 11 0 3)) (hS 11 rfl) rfl) ?_
    refine qm_G.ret rfl rfl ⟨_, rfl, ?_⟩
    refine qm_G.s1 rfl (qm_x_aload rfl) ?_
    refine qm_G.s1 rfl (qm_x_aload rfl) ?_
    refine qm_G.s1 rfl (qm_x_iload rfl) ?_
    refine qm_G.s1 rfl (qm_x_pushI 1 rfl) ?_
    refine qm_G.s1 rfl (qm_x_iadd) ?_
    refine qm_G.s1 rfl (qm_x_iald2v (v := 0) (by omega) (by omega) hX e1) ?_
    refine qm_G.cm rfl rfl (hS 61 rfl) rfl ?_
    refine qm_C.go (cd := qm_P206) (lv := [(0, qm_R (some (0, 61, 0))), (1, qm_I (qm_i 0))]) rfl rfl ?_
    refine qm_G.s1 rfl (qm_x_iload rfl) ?_
    refine qm_G.s1 rfl (qm_x_tsw (t := 32) rfl) ?_
    refine qm_G.sp (lv1 := [(0, qm_R (some (0, 61, 0)))]) rfl rfl (qm_x_aload rfl) ?_
    refine qm_G.s1 rfl (qm_x_getfR (q := (some (0, 62, 0))) (hS 61 rfl) (hR 61 0 62 rfl rfl)) ?_
    refine qm_G.s1 rfl (qm_x_pushI 12 rfl) ?_
    refine qm_G.s1 rfl (qm_x_iald (v := (J 62 0 12)) (qm_arS hS rfl rfl) rfl (by decide) (by decide) (by decide) rfl) ?_
    refine qm_G.ret rfl rfl ⟨_, rfl, ?_⟩
    refine qm_G.s1 rfl (qm_x_icmp_eq_t ⟨by omega, by omega⟩ ⟨by omega, by omega⟩ (by omega)) ?_
    exact ih _ _ _ _ _ _ hI.next
  · subst d1
    refine qm_G.sp (lv1 := [(0, qm_R (some (2, 0, 0))), (1, qm_R (some (0, 0, 0))), (2, qm_R (some (0, 61, 0))), (3, qm_I (qm_i z))]) rfl rfl (qm_x_aload rfl) ?_
    refine qm_G.s1 rfl (qm_x_aload rfl) ?_
    refine qm_G.s1 rfl (qm_x_iload rfl) ?_
    refine qm_G.s1 rfl (qm_x_pushI 1 rfl) ?_
    refine qm_G.s1 rfl (qm_x_iadd) ?_
    refine qm_G.s1 rfl (qm_x_iald2v (v := 1) (by omega) (by omega) hX e1) ?_
    refine qm_G.cm rfl rfl (hS 0 rfl) rfl ?_
    refine qm_C.go (cd := qm_P219) (lv := [(0, qm_R (some (0, 0, 0))), (1, qm_I (qm_i 1))]) rfl rfl ?_
    refine qm_G.s1 rfl (qm_x_iload rfl) ?_
    refine qm_G.s1 rfl (qm_x_tsw (t := 43) rfl) ?_
    refine qm_G.sp (lv1 := [(0, qm_R (some (0, 0, 0)))]) rfl rfl (qm_x_aload rfl) ?_
    refine qm_G.s1 rfl (qm_x_getfR (q := (some (0, 1, 0))) (hS 0 rfl) (hR 0 0 1 rfl rfl)) ?_
    refine qm_G.s1 rfl (qm_x_getfR (q := (some (0, 11, 0))) (hS 1 rfl) (hR 1 2 11 rfl rfl)) ?_
    have f62_13 : 0 ≤ J 62 0 13 ∧ J 62 0 13 ≤ 8 := hI.nt.rec
    have f11_6 : J 11 0 6 = J 62 0 13 := hI.nt.ec
    refine qm_G.s1 rfl (qm_x_getfI (v := (J 11 0 6)) (hS 11 rfl) rfl) ?_
    refine qm_G.ret rfl rfl ⟨_, rfl, ?_⟩
    refine qm_G.s1 rfl (qm_x_aload rfl) ?_
    refine qm_G.s1 rfl (qm_x_aload rfl) ?_
    refine qm_G.s1 rfl (qm_x_iload rfl) ?_
    refine qm_G.s1 rfl (qm_x_pushI 1 rfl) ?_
    refine qm_G.s1 rfl (qm_x_iadd) ?_
    refine qm_G.s1 rfl (qm_x_iald2v (v := 1) (by omega) (by omega) hX e1) ?_
    refine qm_G.cm rfl rfl (hS 61 rfl) rfl ?_
    refine qm_C.go (cd := qm_P206) (lv := [(0, qm_R (some (0, 61, 0))), (1, qm_I (qm_i 1))]) rfl rfl ?_
    refine qm_G.s1 rfl (qm_x_iload rfl) ?_
    refine qm_G.s1 rfl (qm_x_tsw (t := 40) rfl) ?_
    refine qm_G.sp (lv1 := [(0, qm_R (some (0, 61, 0)))]) rfl rfl (qm_x_aload rfl) ?_
    refine qm_G.s1 rfl (qm_x_getfR (q := (some (0, 62, 0))) (hS 61 rfl) (hR 61 0 62 rfl rfl)) ?_
    refine qm_G.s1 rfl (qm_x_pushI 13 rfl) ?_
    refine qm_G.s1 rfl (qm_x_iald (v := (J 62 0 13)) (qm_arS hS rfl rfl) rfl (by decide) (by decide) (by decide) rfl) ?_
    refine qm_G.ret rfl rfl ⟨_, rfl, ?_⟩
    refine qm_G.s1 rfl (qm_x_icmp_eq_t ⟨by omega, by omega⟩ ⟨by omega, by omega⟩ (by omega)) ?_
    exact ih _ _ _ _ _ _ hI.next
  · subst d1
    refine qm_G.sp (lv1 := [(0, qm_R (some (2, 0, 0))), (1, qm_R (some (0, 0, 0))), (2, qm_R (some (0, 61, 0))), (3, qm_I (qm_i z))]) rfl rfl (qm_x_aload rfl) ?_
    refine qm_G.s1 rfl (qm_x_aload rfl) ?_
    refine qm_G.s1 rfl (qm_x_iload rfl) ?_
    refine qm_G.s1 rfl (qm_x_pushI 1 rfl) ?_
    refine qm_G.s1 rfl (qm_x_iadd) ?_
    refine qm_G.s1 rfl (qm_x_iald2v (v := 2) (by omega) (by omega) hX e1) ?_
    refine qm_G.cm rfl rfl (hS 0 rfl) rfl ?_
    refine qm_C.go (cd := qm_P219) (lv := [(0, qm_R (some (0, 0, 0))), (1, qm_I (qm_i 2))]) rfl rfl ?_
    refine qm_G.s1 rfl (qm_x_iload rfl) ?_
    refine qm_G.s1 rfl (qm_x_tsw (t := 54) rfl) ?_
    refine qm_G.sp (lv1 := [(0, qm_R (some (0, 0, 0)))]) rfl rfl (qm_x_aload rfl) ?_
    refine qm_G.s1 rfl (qm_x_getfR (q := (some (0, 42, 0))) (hS 0 rfl) (hR 0 4 42 rfl rfl)) ?_
    have f61_12 : 0 ≤ J 61 0 12 ∧ J 61 0 12 ≤ 100 := hI.rtx
    have f42_1 : J 42 0 1 = J 61 0 12 := hI.tx
    refine qm_G.s1 rfl (qm_x_getfI (v := (J 42 0 1)) (hS 42 rfl) rfl) ?_
    refine qm_G.ret rfl rfl ⟨_, rfl, ?_⟩
    refine qm_G.s1 rfl (qm_x_aload rfl) ?_
    refine qm_G.s1 rfl (qm_x_aload rfl) ?_
    refine qm_G.s1 rfl (qm_x_iload rfl) ?_
    refine qm_G.s1 rfl (qm_x_pushI 1 rfl) ?_
    refine qm_G.s1 rfl (qm_x_iadd) ?_
    refine qm_G.s1 rfl (qm_x_iald2v (v := 2) (by omega) (by omega) hX e1) ?_
    refine qm_G.cm rfl rfl (hS 61 rfl) rfl ?_
    refine qm_C.go (cd := qm_P206) (lv := [(0, qm_R (some (0, 61, 0))), (1, qm_I (qm_i 2))]) rfl rfl ?_
    refine qm_G.s1 rfl (qm_x_iload rfl) ?_
    refine qm_G.s1 rfl (qm_x_tsw (t := 48) rfl) ?_
    refine qm_G.sp (lv1 := [(0, qm_R (some (0, 61, 0)))]) rfl rfl (qm_x_aload rfl) ?_
    refine qm_G.s1 rfl (qm_x_getfI (v := (J 61 0 12)) (hS 61 rfl) rfl) ?_
    refine qm_G.ret rfl rfl ⟨_, rfl, ?_⟩
    refine qm_G.s1 rfl (qm_x_icmp_eq_t ⟨by omega, by omega⟩ ⟨by omega, by omega⟩ (by omega)) ?_
    exact ih _ _ _ _ _ _ hI.next
  · subst d1
    refine qm_G.sp (lv1 := [(0, qm_R (some (2, 0, 0))), (1, qm_R (some (0, 0, 0))), (2, qm_R (some (0, 61, 0))), (3, qm_I (qm_i z))]) rfl rfl (qm_x_aload rfl) ?_
    refine qm_G.s1 rfl (qm_x_aload rfl) ?_
    refine qm_G.s1 rfl (qm_x_iload rfl) ?_
    refine qm_G.s1 rfl (qm_x_pushI 1 rfl) ?_
    refine qm_G.s1 rfl (qm_x_iadd) ?_
    refine qm_G.s1 rfl (qm_x_iald2v (v := 3) (by omega) (by omega) hX e1) ?_
    refine qm_G.cm rfl rfl (hS 0 rfl) rfl ?_
    refine qm_C.go (cd := qm_P219) (lv := [(0, qm_R (some (0, 0, 0))), (1, qm_I (qm_i 3))]) rfl rfl ?_
    refine qm_G.s1 rfl (qm_x_iload rfl) ?_
    refine qm_G.s1 rfl (qm_x_tsw (t := 62) rfl) ?_
    refine qm_G.sp (lv1 := [(0, qm_R (some (0, 0, 0)))]) rfl rfl (qm_x_aload rfl) ?_
    refine qm_G.cmv rfl rfl (hS 0 rfl) rfl ?_
    refine qm_d_wtk hI hd1 hd2 b1 b2 hF (fun S2 J2 K2 L2 D2 R2 q2 n2 m2 hm2 T2 => ⟨rfl, ?_⟩)
    have gn2 := T2.hn
    have gm2 := T2.rm
    have n78 := T2.n0
    refine qm_G.s1 rfl (qm_x_aload rfl) ?_
    refine qm_G.s1 rfl (qm_x_getfR (q := (some (0, 47, 0))) (T2.sd 0 rfl) (T2.rd 0 6 47 rfl rfl)) ?_
    refine qm_G.cm rfl rfl (T2.sd 47 rfl) rfl ?_
    refine qm_C.go (cd := qm_P54) (lv := [(0, qm_R (some (0, 47, 0)))]) rfl rfl ?_
    refine qm_G.s1 rfl (qm_x_aload rfl) ?_
    refine qm_G.cm rfl rfl (T2.sd 47 rfl) rfl ?_
    refine qm_C.go (cd := qm_P5) (lv := [(0, qm_R (some (0, 47, 0)))]) rfl rfl ?_
    refine qm_G.s1 rfl (qm_x_aload rfl) ?_
    refine qm_G.s1 rfl (qm_x_getfI (v := m2) (T2.sd 47 rfl) T2.ct) ?_
    refine qm_G.ret rfl rfl ⟨_, rfl, ?_⟩
    refine qm_G.ret rfl rfl ⟨_, rfl, ?_⟩
    refine qm_G.ret rfl rfl ⟨_, rfl, ?_⟩
    refine qm_G.s1 rfl (qm_x_aload rfl) ?_
    refine qm_G.s1 rfl (qm_x_aload rfl) ?_
    refine qm_G.s1 rfl (qm_x_iload rfl) ?_
    refine qm_G.s1 rfl (qm_x_pushI 1 rfl) ?_
    refine qm_G.s1 rfl (qm_x_iadd) ?_
    refine qm_G.s1 rfl (qm_x_iald2v (v := 3) (by omega) (by omega) hX e1) ?_
    refine qm_G.cm rfl rfl (T2.sd 61 rfl) rfl ?_
    refine qm_C.go (cd := qm_P206) (lv := [(0, qm_R (some (0, 61, 0))), (1, qm_I (qm_i 3))]) rfl rfl ?_
    refine qm_G.s1 rfl (qm_x_iload rfl) ?_
    refine qm_G.s1 rfl (qm_x_tsw (t := 53) rfl) ?_
    refine qm_G.sp (lv1 := [(0, qm_R (some (0, 61, 0)))]) rfl rfl (qm_x_aload rfl) ?_
    refine qm_G.cmv rfl rfl (T2.sd 61 rfl) rfl ?_
    have hS9 := T2.sd
    have hR9 := T2.rd
    refine qm_m_tks (J0 := J) hS9 hR9 (fun i => T2.eJ 62 0 i (by omega) (by omega)) hI.tr.rqb hI.tr.rqa hI.tr.rstk hI.tr.rcsh hd1 hd2 b1 b2 hF (fun J3 m3 hm3 U3 => ⟨rfl, ?_⟩)
    have em : m3 = m2 := hm3.trans hm2.symm
    rw [em] at U3
    refine qm_G.s1 rfl (qm_x_aload rfl) ?_
    refine qm_G.s1 rfl (qm_x_getfI (v := m2) (T2.sd 61 rfl) U3.2.1) ?_
    refine qm_G.ret rfl rfl ⟨_, rfl, ?_⟩
    refine qm_G.s1 rfl (qm_x_icmp_eq_t ⟨by omega, by omega⟩ ⟨by omega, by omega⟩ (by omega)) ?_
    exact ih _ _ _ _ _ _ (qm_U_tick hI T2 (fun r s i a b => U3.1 r s i a b))
  · refine qm_G.sp (lv1 := [(0, qm_R (some (2, 0, 0))), (1, qm_R (some (0, 0, 0))), (2, qm_R (some (0, 61, 0))), (3, qm_I (qm_i z))]) rfl rfl (qm_x_aload rfl) ?_
    refine qm_G.s1 rfl (qm_x_aload rfl) ?_
    refine qm_G.s1 rfl (qm_x_iload rfl) ?_
    refine qm_G.s1 rfl (qm_x_pushI 1 rfl) ?_
    refine qm_G.s1 rfl (qm_x_iadd) ?_
    refine qm_G.s1 rfl (qm_x_iald2v (v := a1) (by omega) (by omega) hX e1) ?_
    refine qm_G.cm rfl rfl (hS 0 rfl) rfl ?_
    refine qm_C.go (cd := qm_P219) (lv := [(0, qm_R (some (0, 0, 0))), (1, qm_I (qm_i a1))]) rfl rfl ?_
    refine qm_G.s1 rfl (qm_x_iload rfl) ?_
    rcases (show (a1 < 0 ∨ 4 ≤ a1) by omega) with c2
    · refine qm_G.s1 rfl (qm_x_tswd (m := 4) rfl ⟨by omega, by omega⟩ (by omega) (by omega) (by decide)) ?_
      refine qm_G.sp (lv1 := []) rfl rfl (qm_x_pushI (-2) rfl) ?_
      refine qm_G.ret rfl rfl ⟨_, rfl, ?_⟩
      refine qm_G.s1 rfl (qm_x_aload rfl) ?_
      refine qm_G.s1 rfl (qm_x_aload rfl) ?_
      refine qm_G.s1 rfl (qm_x_iload rfl) ?_
      refine qm_G.s1 rfl (qm_x_pushI 1 rfl) ?_
      refine qm_G.s1 rfl (qm_x_iadd) ?_
      refine qm_G.s1 rfl (qm_x_iald2v (v := a1) (by omega) (by omega) hX e1) ?_
      refine qm_G.cm rfl rfl (hS 61 rfl) rfl ?_
      refine qm_C.go (cd := qm_P206) (lv := [(0, qm_R (some (0, 61, 0))), (1, qm_I (qm_i a1))]) rfl rfl ?_
      refine qm_G.s1 rfl (qm_x_iload rfl) ?_
      rcases (show (a1 < 0 ∨ 4 ≤ a1) by omega) with c3
      · refine qm_G.s1 rfl (qm_x_tswd (m := 4) rfl ⟨by omega, by omega⟩ (by omega) (by omega) (by decide)) ?_
        refine qm_G.sp (lv1 := []) rfl rfl (qm_x_pushI (-2) rfl) ?_
        refine qm_G.ret rfl rfl ⟨_, rfl, ?_⟩
        refine qm_G.s1 rfl (qm_x_icmp_eq_t ⟨by decide, by decide⟩ ⟨by decide, by decide⟩ (by decide)) ?_
        exact ih _ _ _ _ _ _ hI.next
