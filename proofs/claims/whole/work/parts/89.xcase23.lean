/-! THE LAW, case 23 -/
theorem qm_case23 {S : List qm_Sh} {J K : qm_J} {L : qm_Ct Int64} {D : qm_Ct UInt64} {R : qm_Ct (Option qm_Rf)} {X : Nat × (Nat → Int32)} {k : Nat} {z : Int} {Q : Option qm_V → qm_Hp → Prop} {a1 : Int} (hI : qm_Inv S J K L D R k) (hX : X.1 ≤ 3072) (h0 : 0 ≤ z) (h6 : z + 6 ≤ X.1) (e1 : (X.2 (Int.toNat (z + 1))).toInt = a1) (ih : ∀ (S : List qm_Sh) (J K : qm_J) (L : qm_Ct Int64) (D : qm_Ct UInt64) (R : qm_Ct (Option qm_Rf)), qm_Inv S J K L D R (k + 1) → qm_G qm_P qm_P222 1445 [(0, qm_R (some (2, 0, 0))), (1, qm_R (some (0, 0, 0))), (2, qm_R (some (0, 61, 0))), (3, qm_I (qm_i z))] [] (qm_H S J K L D R X) Q) : qm_G qm_P qm_P222 960 [(0, qm_R (some (2, 0, 0))), (1, qm_R (some (0, 0, 0))), (2, qm_R (some (0, 61, 0))), (3, qm_I (qm_i z))] [] (qm_H S J K L D R X) Q := by
  have hS := hI.sd
  have hR := hI.rd
  obtain ⟨d1, hd1, hl1⟩ := qm_dn_ex (y := (J 62 0 10).natAbs) (by have := hI.tr.rstk; omega)
  obtain ⟨d2, hd2, hl2⟩ := qm_dn_ex (y := (J 62 0 11).natAbs) (by have := hI.tr.rcsh; omega)
  have b1 : qm_sgn (J 62 0 10) d1 ≤ 2 := by
    have h1 : d1 = 1 := qm_dn_1 hd1 (by have := hI.tr.rstk; omega)
    unfold qm_sgn
    split <;> omega
  have b2 : qm_sgn (J 62 0 11) d2 ≤ 11 := by
    unfold qm_sgn
    split <;> omega
  obtain ⟨F, hF⟩ : ∃ F, qm_tkp F (J 62 0 10) (J 62 0 11) (J 62 0 8) (J 62 0 9) (qm_sgn (J 62 0 10) d1) (qm_sgn (J 62 0 11) d2) := ⟨_, qm_tkf_ok⟩
  have b3 : qm_tn (J 62 0 10) ≤ 6 := by
    unfold qm_tn
    split
    · decide
    · split <;> decide
  have s1 : qm_sm a1 := e1 ▸ qm_i_sml _
  refine qm_G.sp (lv1 := [(0, qm_R (some (2, 0, 0))), (1, qm_R (some (0, 0, 0))), (2, qm_R (some (0, 61, 0))), (3, qm_I (qm_i z))]) rfl rfl (qm_x_aload rfl) ?_
  refine qm_G.s1 rfl (qm_x_aload rfl) ?_
  refine qm_G.s1 rfl (qm_x_iload rfl) ?_
  refine qm_G.s1 rfl (qm_x_pushI 1 rfl) ?_
  refine qm_G.s1 rfl (qm_x_iadd) ?_
  refine qm_G.s1 rfl (qm_x_iald2v (v := a1) (by omega) (by omega) hX e1) ?_
  refine qm_G.cm rfl rfl (hS 0 rfl) rfl ?_
  refine qm_C.go (cd := qm_P220) (lv := [(0, qm_R (some (0, 0, 0))), (1, qm_I (qm_i a1))]) rfl rfl ?_
  refine qm_G.s1 rfl (qm_x_iload rfl) ?_
  refine qm_y_if_ge rfl ⟨by omega, by omega⟩ (fun c1 => ?_) (fun c1 => ?_)
  · refine qm_G.sp (lv1 := [(0, qm_R (some (0, 0, 0))), (1, qm_I (qm_i a1))]) rfl rfl (qm_x_aload rfl) ?_
    refine qm_G.cmv rfl rfl (hS 0 rfl) rfl ?_
    refine qm_d_wtk hI hd1 hd2 b1 b2 hF (fun S2 J2 K2 L2 D2 R2 q2 n2 m2 hm2 T2 => ⟨rfl, ?_⟩)
    have gn2 := T2.hn
    have gm2 := T2.rm
    have n78 := T2.n0
    refine qm_G.s1 rfl (qm_x_iload rfl) ?_
    refine qm_G.s1 rfl (qm_x_aload rfl) ?_
    refine qm_G.s1 rfl (qm_x_getfR (q := (some (0, 47, 0))) (T2.sd 0 rfl) (T2.rd 0 6 47 rfl rfl)) ?_
    refine qm_G.cm rfl rfl (T2.sd 47 rfl) rfl ?_
    refine qm_C.go (cd := qm_P54) (lv := [(0, qm_R (some (0, 47, 0)))]) rfl rfl ?_
    refine qm_G.s1 rfl (qm_x_aload rfl) ?_
    refine qm_G.cm rfl rfl (T2.sd 47 rfl) rfl ?_
    refine qm_C.go (cd := qm_P5) (lv := [(0, qm_R (some (0, 47, 0)))]) rfl rfl ?_
    refine qm_G.s1 rfl (qm_x_aload rfl) ?_
    refine qm_G.s1 rfl (qm_x_getfI (v := m2) (T2.sd 47 rfl) T2.ct) ?_
    refine qm_G.ret rfl rfl ⟨_, rfl, ?_⟩
    refine qm_G.ret rfl rfl ⟨_, rfl, ?_⟩
    refine qm_y_icmp_ge rfl ⟨by omega, by omega⟩ ⟨by omega, by omega⟩ (fun c2 => ?_) (fun c2 => ?_)
    · refine qm_G.sp (lv1 := []) rfl rfl (qm_x_pushI (-5) rfl) ?_
      refine qm_G.ret rfl rfl ⟨_, rfl, ?_⟩
      refine qm_G.s1 rfl (qm_x_aload rfl) ?_
      refine qm_G.s1 rfl (qm_x_aload rfl) ?_
      refine qm_G.s1 rfl (qm_x_iload rfl) ?_
      refine qm_G.s1 rfl (qm_x_pushI 1 rfl) ?_
      refine qm_G.s1 rfl (qm_x_iadd) ?_
      refine qm_G.s1 rfl (qm_x_iald2v (v := a1) (by omega) (by omega) hX e1) ?_
      refine qm_G.cm rfl rfl (T2.sd 61 rfl) rfl ?_
      refine qm_C.go (cd := qm_P207) (lv := [(0, qm_R (some (0, 61, 0))), (1, qm_I (qm_i a1))]) rfl rfl ?_
      refine qm_G.s1 rfl (qm_x_iload rfl) ?_
      refine qm_G.s1 rfl (qm_x_if_ge_t ⟨by omega, by omega⟩ (by omega)) ?_
      refine qm_G.sp (lv1 := [(0, qm_R (some (0, 61, 0))), (1, qm_I (qm_i a1))]) rfl rfl (qm_x_aload rfl) ?_
      refine qm_G.cmv rfl rfl (T2.sd 61 rfl) rfl ?_
      have hS9 := T2.sd
      have hR9 := T2.rd
      refine qm_m_tks (J0 := J) hS9 hR9 (fun i => T2.eJ 62 0 i (by omega) (by omega)) hI.tr.rqb hI.tr.rqa hI.tr.rstk hI.tr.rcsh hd1 hd2 b1 b2 hF (fun J3 m3 hm3 U3 => ⟨rfl, ?_⟩)
      have em : m3 = m2 := hm3.trans hm2.symm
      rw [em] at U3
      refine qm_G.s1 rfl (qm_x_iload rfl) ?_
      refine qm_G.s1 rfl (qm_x_aload rfl) ?_
      refine qm_G.s1 rfl (qm_x_getfI (v := m2) (T2.sd 61 rfl) U3.2.1) ?_
      refine qm_G.s1 rfl (qm_x_icmp_ge_t ⟨by omega, by omega⟩ ⟨by omega, by omega⟩ (by omega)) ?_
      refine qm_G.sp (lv1 := []) rfl rfl (qm_x_pushI (-5) rfl) ?_
      refine qm_G.ret rfl rfl ⟨_, rfl, ?_⟩
      refine qm_G.s1 rfl (qm_x_icmp_eq_t ⟨by decide, by decide⟩ ⟨by decide, by decide⟩ (by decide)) ?_
      exact ih _ _ _ _ _ _ (qm_U_tick hI T2 (fun r s i a b => U3.1 r s i a b))
    · refine qm_G.s1 rfl (qm_x_aload rfl) ?_
      refine qm_G.s1 rfl (qm_x_getfR (q := (some (0, 47, 0))) (T2.sd 0 rfl) (T2.rd 0 6 47 rfl rfl)) ?_
      refine qm_G.s1 rfl (qm_x_iload rfl) ?_
      refine qm_G.cm rfl rfl (T2.sd 47 rfl) rfl ?_
      refine qm_d_chr T2 (by omega) ⟨_, rfl, ?_⟩
      have hc9 := T2.cs (Int.toNat a1) (by omega)
      refine qm_G.s1 rfl (qm_x_goto) ?_
      refine qm_G.ret rfl rfl ⟨_, rfl, ?_⟩
      refine qm_G.s1 rfl (qm_x_aload rfl) ?_
      refine qm_G.s1 rfl (qm_x_aload rfl) ?_
      refine qm_G.s1 rfl (qm_x_iload rfl) ?_
      refine qm_G.s1 rfl (qm_x_pushI 1 rfl) ?_
      refine qm_G.s1 rfl (qm_x_iadd) ?_
      refine qm_G.s1 rfl (qm_x_iald2v (v := a1) (by omega) (by omega) hX e1) ?_
      refine qm_G.cm rfl rfl (T2.sd 61 rfl) rfl ?_
      refine qm_C.go (cd := qm_P207) (lv := [(0, qm_R (some (0, 61, 0))), (1, qm_I (qm_i a1))]) rfl rfl ?_
      refine qm_G.s1 rfl (qm_x_iload rfl) ?_
      refine qm_G.s1 rfl (qm_x_if_ge_t ⟨by omega, by omega⟩ (by omega)) ?_
      refine qm_G.sp (lv1 := [(0, qm_R (some (0, 61, 0))), (1, qm_I (qm_i a1))]) rfl rfl (qm_x_aload rfl) ?_
      refine qm_G.cmv rfl rfl (T2.sd 61 rfl) rfl ?_
      have hS9 := T2.sd
      have hR9 := T2.rd
      refine qm_m_tks (J0 := J) hS9 hR9 (fun i => T2.eJ 62 0 i (by omega) (by omega)) hI.tr.rqb hI.tr.rqa hI.tr.rstk hI.tr.rcsh hd1 hd2 b1 b2 hF (fun J3 m3 hm3 U3 => ⟨rfl, ?_⟩)
      have em : m3 = m2 := hm3.trans hm2.symm
      rw [em] at U3
      refine qm_G.s1 rfl (qm_x_iload rfl) ?_
      refine qm_G.s1 rfl (qm_x_aload rfl) ?_
      refine qm_G.s1 rfl (qm_x_getfI (v := m2) (T2.sd 61 rfl) U3.2.1) ?_
      refine qm_G.s1 rfl (qm_x_icmp_ge_f ⟨by omega, by omega⟩ ⟨by omega, by omega⟩ (by omega)) ?_
      refine qm_G.s1 rfl (qm_x_aload rfl) ?_
      refine qm_G.s1 rfl (qm_x_getfR (q := (some (0, 72, 0))) (T2.sd 61 rfl) (T2.rd 61 19 72 rfl rfl)) ?_
      refine qm_G.s1 rfl (qm_x_iload rfl) ?_
      refine qm_G.s1 rfl (qm_x_iald (v := (F (Int.toNat a1))) (qm_arS T2.sd rfl rfl) rfl (by omega) (by omega) (by decide) (U3.2.2 _ (by omega))) ?_
      refine qm_G.s1 rfl (qm_x_goto) ?_
      refine qm_G.ret rfl rfl ⟨_, rfl, ?_⟩
      refine qm_G.s1 rfl (qm_x_icmp_eq_t ⟨by omega, by omega⟩ ⟨by omega, by omega⟩ (by omega)) ?_
      exact ih _ _ _ _ _ _ (qm_U_tick hI T2 (fun r s i a b => U3.1 r s i a b))
  · refine qm_G.s1 rfl (qm_x_pushI (-1) rfl) ?_
    refine qm_G.ret rfl rfl ⟨_, rfl, ?_⟩
    refine qm_G.s1 rfl (qm_x_aload rfl) ?_
    refine qm_G.s1 rfl (qm_x_aload rfl) ?_
    refine qm_G.s1 rfl (qm_x_iload rfl) ?_
    refine qm_G.s1 rfl (qm_x_pushI 1 rfl) ?_
    refine qm_G.s1 rfl (qm_x_iadd) ?_
    refine qm_G.s1 rfl (qm_x_iald2v (v := a1) (by omega) (by omega) hX e1) ?_
    refine qm_G.cm rfl rfl (hS 61 rfl) rfl ?_
    refine qm_C.go (cd := qm_P207) (lv := [(0, qm_R (some (0, 61, 0))), (1, qm_I (qm_i a1))]) rfl rfl ?_
    refine qm_G.s1 rfl (qm_x_iload rfl) ?_
    refine qm_G.s1 rfl (qm_x_if_ge_f ⟨by omega, by omega⟩ (by omega)) ?_
    refine qm_G.s1 rfl (qm_x_pushI (-1) rfl) ?_
    refine qm_G.ret rfl rfl ⟨_, rfl, ?_⟩
    refine qm_G.s1 rfl (qm_x_icmp_eq_t ⟨by decide, by decide⟩ ⟨by decide, by decide⟩ (by decide)) ?_
    exact ih _ _ _ _ _ _ hI.next
