/-! THE LAW, case 25 -/
theorem qm_case25 {S : List qm_Sh} {J K : qm_J} {L : qm_Ct Int64} {D : qm_Ct UInt64} {R : qm_Ct (Option qm_Rf)} {X : Nat × (Nat → Int32)} {k : Nat} {z : Int} {Q : Option qm_V → qm_Hp → Prop} {a1 : Int} (hI : qm_Inv S J K L D R k) (hX : X.1 ≤ 3072) (h0 : 0 ≤ z) (h6 : z + 6 ≤ X.1) (e1 : (X.2 (Int.toNat (z + 1))).toInt = a1) (ih : ∀ (S : List qm_Sh) (J K : qm_J) (L : qm_Ct Int64) (D : qm_Ct UInt64) (R : qm_Ct (Option qm_Rf)), qm_Inv S J K L D R (k + 1) → qm_G qm_P qm_P222 1445 [(0, qm_R (some (2, 0, 0))), (1, qm_R (some (0, 0, 0))), (2, qm_R (some (0, 61, 0))), (3, qm_I (qm_i z))] [] (qm_H S J K L D R X) Q) : qm_G qm_P qm_P222 1026 [(0, qm_R (some (2, 0, 0))), (1, qm_R (some (0, 0, 0))), (2, qm_R (some (0, 61, 0))), (3, qm_I (qm_i z))] [] (qm_H S J K L D R X) Q := by
  have hS := hI.sd
  have hR := hI.rd
  have hM := hI.mk
  have hN := hM.nk
  have rs9 : ∀ j, j < 5 → (-8 ≤ J 62 0 (96 + 3 * j) ∧ J 62 0 (96 + 3 * j) ≤ 8) ∧ (0 ≤ J 62 0 (97 + 3 * j) ∧ J 62 0 (97 + 3 * j) ≤ 6) ∧ (0 ≤ J 62 0 (98 + 3 * j) ∧ J 62 0 (98 + 3 * j) ≤ 6) := fun j hj => hI.nt.rsee j hj
  obtain ⟨U, hU⟩ : ∃ U, U = qm_Mk (fun f => qm_sn (qm_VB (qm_ch (J 62 0) 0 0) (qm_ch (J 62 0) 0 1) (J 62 0 1) f) (J 62 0 1) (J 62 0 2) (fun j : Nat => J 62 0 (96 + 3 * j)) (fun j : Nat => J 62 0 (97 + 3 * j)) (fun j : Nat => J 62 0 (98 + 3 * j)) (Int.toNat (J 62 0 12)) 0) 21 0 := ⟨_, rfl⟩
  have rU : (0 ≤ U.1 ∧ U.1 ≤ 21) ∧ (-5 ≤ U.2 ∧ U.2 ≤ 21) := by rw [hU]; have h9 := qm_Mk_ok (so := (fun f => qm_sn (qm_VB (qm_ch (J 62 0) 0 0) (qm_ch (J 62 0) 0 1) (J 62 0 1) f) (J 62 0 1) (J 62 0 2) (fun j : Nat => J 62 0 (96 + 3 * j)) (fun j : Nat => J 62 0 (97 + 3 * j)) (fun j : Nat => J 62 0 (98 + 3 * j)) (Int.toNat (J 62 0 12)) 0)) 21 0; exact ⟨⟨h9.1, h9.2.1⟩, (h9.2.2.2 (by decide)).1, (h9.2.2.2 (by decide)).2⟩
  have s1 : qm_sm a1 := e1 ▸ qm_i_sml _
  refine qm_G.sp (lv1 := [(0, qm_R (some (2, 0, 0))), (1, qm_R (some (0, 0, 0))), (2, qm_R (some (0, 61, 0))), (3, qm_I (qm_i z))]) rfl rfl (qm_x_aload rfl) ?_
  refine qm_G.s1 rfl (qm_x_aload rfl) ?_
  refine qm_G.s1 rfl (qm_x_iload rfl) ?_
  refine qm_G.s1 rfl (qm_x_pushI 1 rfl) ?_
  refine qm_G.s1 rfl (qm_x_iadd) ?_
  refine qm_G.s1 rfl (qm_x_iald2v (v := a1) (by omega) (by omega) hX e1) ?_
  refine qm_G.cm rfl rfl (hS 0 rfl) rfl ?_
  refine qm_C.go (cd := qm_P216) (lv := [(0, qm_R (some (0, 0, 0))), (1, qm_I (qm_i a1))]) rfl rfl ?_
  refine qm_G.s1 rfl (qm_x_iload rfl) ?_
  refine qm_G.s1 rfl (qm_x_pushI 0 rfl) ?_
  refine qm_G.s1 rfl (qm_x_pushI 1 rfl) ?_
  refine qm_G.cs rfl rfl rfl ?_
  refine qm_v_within10 ⟨by omega, by omega⟩ ⟨by decide, by decide⟩ ⟨by decide, by decide⟩ (fun c1 => ⟨_, rfl, ?_⟩) (fun c1 => ⟨_, rfl, ?_⟩)
  · refine qm_G.s1 rfl (qm_x_if_ne_t ⟨by decide, by decide⟩ (by decide)) ?_
    refine qm_G.sp (lv1 := [(0, qm_R (some (0, 0, 0))), (1, qm_I (qm_i a1))]) rfl rfl (qm_x_aload rfl) ?_
    refine qm_G.s1 rfl (qm_x_getfR (q := (some (0, 35, 0))) (hS 0 rfl) (hR 0 3 35 rfl rfl)) ?_
    refine qm_G.s1 rfl (qm_x_aload rfl) ?_
    refine qm_G.s1 rfl (qm_x_getfR (q := (some (0, 1, 0))) (hS 0 rfl) (hR 0 0 1 rfl rfl)) ?_
    refine qm_G.s1 rfl (qm_x_getfR (q := (some (0, 2, 0))) (hS 1 rfl) (hR 1 0 2 rfl rfl)) ?_
    refine qm_G.s1 rfl (qm_x_pushI 0 rfl) ?_
    refine qm_G.cmv rfl rfl (hS 35 rfl) rfl ?_
    refine qm_d_look hS hR hM (by decide) (fun J2 ej2 c2 d2 => ⟨rfl, ?_⟩)
    refine qm_G.s1 rfl (qm_x_pushI 0 rfl) ?_
    refine qm_G.s1 rfl (qm_x_istore (lv' := [(2, qm_I (qm_i 0)), (0, qm_R (some (0, 0, 0))), (1, qm_I (qm_i a1))]) rfl) ?_
    refine qm_G.s1 rfl (qm_x_pushI (-5) rfl) ?_
    refine qm_G.s1 rfl (qm_x_istore (lv' := [(3, qm_I (qm_i (-5))), (2, qm_I (qm_i 0)), (0, qm_R (some (0, 0, 0))), (1, qm_I (qm_i a1))]) rfl) ?_
    refine qm_G.s1 rfl (qm_x_pushI 0 rfl) ?_
    refine qm_G.s1 rfl (qm_x_istore (lv' := [(4, qm_I (qm_i 0)), (3, qm_I (qm_i (-5))), (2, qm_I (qm_i 0)), (0, qm_R (some (0, 0, 0))), (1, qm_I (qm_i a1))]) rfl) ?_
    refine qm_G.pk (lv1 := [(0, qm_R (some (0, 0, 0))), (1, qm_I (qm_i a1)), (2, qm_I (qm_i 0)), (3, qm_I (qm_i (-5))), (4, qm_I (qm_i 0))]) rfl rfl rfl ?_
    refine qm_d_fit (cnt := J 62 0 12) (lim := J 62 0 1) (rn := J 62 0 2) (sk := (fun j : Nat => J 62 0 (96 + 3 * j))) (bk := (fun j : Nat => J 62 0 (97 + 3 * j))) (ak := (fun j : Nat => J 62 0 (98 + 3 * j))) (Pb := qm_ch (J 62 0) 0 0) (Pa := qm_ch (J 62 0) 0 1) hS hR hM.r1 hM.r2 hI.nt.rsc rs9 (fun z a b => qm_ch_rng hN (by decide) ⟨a, b⟩) (fun z a b => qm_ch_rng hN (by decide) ⟨a, b⟩) 21 0 0 (-5) J2 L (by decide) (by decide) (by decide) ((ej2 3 0 1 (by decide)).trans (hM.set 1 (by decide))) ((ej2 3 0 2 (by decide)).trans (hM.set 2 (by decide))) ((ej2 11 0 3 (by decide)).trans hI.nt.sc) (fun j hj => ⟨(ej2 12 0 j (by decide)).trans (hI.nt.see j hj).1, (ej2 13 0 j (by decide)).trans (hI.nt.see j hj).2.1, (ej2 14 0 j (by decide)).trans (hI.nt.see j hj).2.2⟩) c2 d2 (fun J3 L3 ej3 fl3 => ?_)
    rw [qm_Rk_all, ← hU]
    refine qm_G.sp (lv1 := [(1, qm_I (qm_i a1)), (2, qm_I (qm_i U.1)), (3, qm_I (qm_i U.2))]) rfl rfl (qm_x_iload rfl) ?_
    refine qm_y_if_ne rfl ⟨by omega, by omega⟩ (fun c2 => ?_) (fun c2 => ?_)
    · refine qm_G.sp (lv1 := [(3, qm_I (qm_i U.2))]) rfl rfl (qm_x_iload rfl) ?_
      refine qm_G.ret rfl rfl ⟨_, rfl, ?_⟩
      refine qm_G.s1 rfl (qm_x_aload rfl) ?_
      refine qm_G.s1 rfl (qm_x_aload rfl) ?_
      refine qm_G.s1 rfl (qm_x_iload rfl) ?_
      refine qm_G.s1 rfl (qm_x_pushI 1 rfl) ?_
      refine qm_G.s1 rfl (qm_x_iadd) ?_
      refine qm_G.s1 rfl (qm_x_iald2v (v := a1) (by omega) (by omega) hX e1) ?_
      refine qm_G.cm rfl rfl (hS 61 rfl) rfl ?_
      refine qm_C.go (cd := qm_P190) (lv := [(0, qm_R (some (0, 61, 0))), (1, qm_I (qm_i a1))]) rfl rfl ?_
      refine qm_G.s1 rfl (qm_x_iload rfl) ?_
      refine qm_G.s1 rfl (qm_x_pushI 0 rfl) ?_
      refine qm_G.s1 rfl (qm_x_pushI 1 rfl) ?_
      refine qm_G.cs rfl rfl rfl ?_
      refine qm_v_within11_t ⟨by omega, by omega⟩ ⟨by decide, by decide⟩ ⟨by decide, by decide⟩ (by omega) ⟨_, rfl, ?_⟩
      refine qm_G.s1 rfl (qm_x_if_ne_t ⟨by decide, by decide⟩ (by decide)) ?_
      refine qm_G.sp (lv1 := [(0, qm_R (some (0, 61, 0))), (1, qm_I (qm_i a1))]) rfl rfl (qm_x_aload rfl) ?_
      refine qm_G.s1 rfl (qm_x_getfR (q := (some (0, 62, 0))) (hS 61 rfl) (hR 61 0 62 rfl rfl)) ?_
      refine qm_G.s1 rfl (qm_x_pushI 3 rfl) ?_
      have f62_3 : 0 ≤ J 62 0 3 ∧ J 62 0 3 ≤ 99 := hI.mk.r3
      refine qm_G.s1 rfl (qm_x_iald (v := (J 62 0 3)) (qm_arS hS rfl rfl) rfl (by decide) (by decide) (by decide) (Eq.trans (ej3 62 0 3 (by omega)) (ej2 62 0 3 (by omega)))) ?_
      refine qm_G.s1 rfl (qm_x_istore (lv' := [(2, qm_I (qm_i (J 62 0 3))), (0, qm_R (some (0, 61, 0))), (1, qm_I (qm_i a1))]) rfl) ?_
      refine qm_G.s1 rfl (qm_x_pushI 0 rfl) ?_
      refine qm_G.s1 rfl (qm_x_istore (lv' := [(3, qm_I (qm_i 0)), (2, qm_I (qm_i (J 62 0 3))), (0, qm_R (some (0, 61, 0))), (1, qm_I (qm_i a1))]) rfl) ?_
      refine qm_G.s1 rfl (qm_x_pushI (-5) rfl) ?_
      refine qm_G.s1 rfl (qm_x_istore (lv' := [(4, qm_I (qm_i (-5))), (3, qm_I (qm_i 0)), (2, qm_I (qm_i (J 62 0 3))), (0, qm_R (some (0, 61, 0))), (1, qm_I (qm_i a1))]) rfl) ?_
      refine qm_G.s1 rfl (qm_x_pushI 20 rfl) ?_
      refine qm_G.s1 rfl (qm_x_istore (lv' := [(5, qm_I (qm_i 20)), (4, qm_I (qm_i (-5))), (3, qm_I (qm_i 0)), (2, qm_I (qm_i (J 62 0 3))), (0, qm_R (some (0, 61, 0))), (1, qm_I (qm_i a1))]) rfl) ?_
      refine qm_G.pk (lv1 := [(0, qm_R (some (0, 61, 0))), (1, qm_I (qm_i a1)), (2, qm_I (qm_i (J 62 0 3))), (3, qm_I (qm_i 0)), (4, qm_I (qm_i (-5))), (5, qm_I (qm_i 20))]) rfl rfl rfl ?_
      refine qm_m_fit (N := J 62 0) (sk := (fun j : Nat => J 62 0 (96 + 3 * j))) (bk := (fun j : Nat => J 62 0 (97 + 3 * j))) (ak := (fun j : Nat => J 62 0 (98 + 3 * j))) hS hR hN hI.nt.rsc (fun j hj => ⟨rfl, rfl, rfl⟩) rs9 21 20 0 (-5) J3 L3 (by decide) (by decide) rfl (fun i hi => by rw [ej3 62 0 i (by omega), ej2 62 0 i (by decide)]) (fun J4 L4 ej4 fl4 => ?_)
      rw [← hU]
      refine qm_G.sp (lv1 := [(0, qm_R (some (0, 61, 0))), (1, qm_I (qm_i a1)), (2, qm_I (qm_i (J 62 0 3))), (3, qm_I (qm_i U.1)), (4, qm_I (qm_i U.2))]) rfl rfl (qm_x_aload rfl) ?_
      refine qm_G.s1 rfl (qm_x_getfR (q := (some (0, 62, 0))) (hS 61 rfl) (hR 61 0 62 rfl rfl)) ?_
      refine qm_G.s1 rfl (qm_x_pushI 3 rfl) ?_
      refine qm_G.s1 rfl (qm_x_iload rfl) ?_
      refine qm_G.s1 rfl (qm_x_iast (qm_arS hS rfl rfl) rfl (by decide) (by decide) (by decide)) ?_
      refine qm_G.s1 rfl (qm_x_iload rfl) ?_
      refine qm_G.s1 rfl (qm_x_if_ne_t ⟨by omega, by omega⟩ (by omega)) ?_
      refine qm_G.sp (lv1 := [(4, qm_I (qm_i U.2))]) rfl rfl (qm_x_iload rfl) ?_
      refine qm_G.ret rfl rfl ⟨_, rfl, ?_⟩
      refine qm_G.s1 rfl (qm_x_icmp_eq_t ⟨by omega, by omega⟩ ⟨by omega, by omega⟩ (by omega)) ?_
      refine ih _ _ _ _ _ _ (hI.scr (fun r s i h => ?_) (fun r s i h => ((fl4 r s i (by omega)).trans (fl3 r s i (by omega)))) (fun _ _ _ _ => rfl))
      by_cases c : r = 62 ∧ s = 0 ∧ i = 3
      · obtain ⟨c1, c2, c3⟩ := c; subst c1 c2 c3; exact qm_st_eq
      · unfold qm_wJ at h; rw [qm_st_ne (by omega), ej4 r s i (by omega), ej3 r s i (by omega), ej2 r s i (by omega)]
    · refine qm_G.s1 rfl (qm_x_iload rfl) ?_
      refine qm_G.s1 rfl (qm_x_goto) ?_
      refine qm_G.ret rfl rfl ⟨_, rfl, ?_⟩
      refine qm_G.s1 rfl (qm_x_aload rfl) ?_
      refine qm_G.s1 rfl (qm_x_aload rfl) ?_
      refine qm_G.s1 rfl (qm_x_iload rfl) ?_
      refine qm_G.s1 rfl (qm_x_pushI 1 rfl) ?_
      refine qm_G.s1 rfl (qm_x_iadd) ?_
      refine qm_G.s1 rfl (qm_x_iald2v (v := a1) (by omega) (by omega) hX e1) ?_
      refine qm_G.cm rfl rfl (hS 61 rfl) rfl ?_
      refine qm_C.go (cd := qm_P190) (lv := [(0, qm_R (some (0, 61, 0))), (1, qm_I (qm_i a1))]) rfl rfl ?_
      refine qm_G.s1 rfl (qm_x_iload rfl) ?_
      refine qm_G.s1 rfl (qm_x_pushI 0 rfl) ?_
      refine qm_G.s1 rfl (qm_x_pushI 1 rfl) ?_
      refine qm_G.cs rfl rfl rfl ?_
      refine qm_v_within11_t ⟨by omega, by omega⟩ ⟨by decide, by decide⟩ ⟨by decide, by decide⟩ (by omega) ⟨_, rfl, ?_⟩
      refine qm_G.s1 rfl (qm_x_if_ne_t ⟨by decide, by decide⟩ (by decide)) ?_
      refine qm_G.sp (lv1 := [(0, qm_R (some (0, 61, 0))), (1, qm_I (qm_i a1))]) rfl rfl (qm_x_aload rfl) ?_
      refine qm_G.s1 rfl (qm_x_getfR (q := (some (0, 62, 0))) (hS 61 rfl) (hR 61 0 62 rfl rfl)) ?_
      refine qm_G.s1 rfl (qm_x_pushI 3 rfl) ?_
      have f62_3 : 0 ≤ J 62 0 3 ∧ J 62 0 3 ≤ 99 := hI.mk.r3
      refine qm_G.s1 rfl (qm_x_iald (v := (J 62 0 3)) (qm_arS hS rfl rfl) rfl (by decide) (by decide) (by decide) (Eq.trans (ej3 62 0 3 (by omega)) (ej2 62 0 3 (by omega)))) ?_
      refine qm_G.s1 rfl (qm_x_istore (lv' := [(2, qm_I (qm_i (J 62 0 3))), (0, qm_R (some (0, 61, 0))), (1, qm_I (qm_i a1))]) rfl) ?_
      refine qm_G.s1 rfl (qm_x_pushI 0 rfl) ?_
      refine qm_G.s1 rfl (qm_x_istore (lv' := [(3, qm_I (qm_i 0)), (2, qm_I (qm_i (J 62 0 3))), (0, qm_R (some (0, 61, 0))), (1, qm_I (qm_i a1))]) rfl) ?_
      refine qm_G.s1 rfl (qm_x_pushI (-5) rfl) ?_
      refine qm_G.s1 rfl (qm_x_istore (lv' := [(4, qm_I (qm_i (-5))), (3, qm_I (qm_i 0)), (2, qm_I (qm_i (J 62 0 3))), (0, qm_R (some (0, 61, 0))), (1, qm_I (qm_i a1))]) rfl) ?_
      refine qm_G.s1 rfl (qm_x_pushI 20 rfl) ?_
      refine qm_G.s1 rfl (qm_x_istore (lv' := [(5, qm_I (qm_i 20)), (4, qm_I (qm_i (-5))), (3, qm_I (qm_i 0)), (2, qm_I (qm_i (J 62 0 3))), (0, qm_R (some (0, 61, 0))), (1, qm_I (qm_i a1))]) rfl) ?_
      refine qm_G.pk (lv1 := [(0, qm_R (some (0, 61, 0))), (1, qm_I (qm_i a1)), (2, qm_I (qm_i (J 62 0 3))), (3, qm_I (qm_i 0)), (4, qm_I (qm_i (-5))), (5, qm_I (qm_i 20))]) rfl rfl rfl ?_
      refine qm_m_fit (N := J 62 0) (sk := (fun j : Nat => J 62 0 (96 + 3 * j))) (bk := (fun j : Nat => J 62 0 (97 + 3 * j))) (ak := (fun j : Nat => J 62 0 (98 + 3 * j))) hS hR hN hI.nt.rsc (fun j hj => ⟨rfl, rfl, rfl⟩) rs9 21 20 0 (-5) J3 L3 (by decide) (by decide) rfl (fun i hi => by rw [ej3 62 0 i (by omega), ej2 62 0 i (by decide)]) (fun J4 L4 ej4 fl4 => ?_)
      rw [← hU]
      refine qm_G.sp (lv1 := [(0, qm_R (some (0, 61, 0))), (1, qm_I (qm_i a1)), (2, qm_I (qm_i (J 62 0 3))), (3, qm_I (qm_i U.1)), (4, qm_I (qm_i U.2))]) rfl rfl (qm_x_aload rfl) ?_
      refine qm_G.s1 rfl (qm_x_getfR (q := (some (0, 62, 0))) (hS 61 rfl) (hR 61 0 62 rfl rfl)) ?_
      refine qm_G.s1 rfl (qm_x_pushI 3 rfl) ?_
      refine qm_G.s1 rfl (qm_x_iload rfl) ?_
      refine qm_G.s1 rfl (qm_x_iast (qm_arS hS rfl rfl) rfl (by decide) (by decide) (by decide)) ?_
      refine qm_G.s1 rfl (qm_x_iload rfl) ?_
      refine qm_G.s1 rfl (qm_x_if_ne_f ⟨by omega, by omega⟩ (by omega)) ?_
      refine qm_G.s1 rfl (qm_x_iload rfl) ?_
      refine qm_G.s1 rfl (qm_x_goto) ?_
      refine qm_G.ret rfl rfl ⟨_, rfl, ?_⟩
      refine qm_G.s1 rfl (qm_x_icmp_eq_t ⟨by omega, by omega⟩ ⟨by omega, by omega⟩ (by omega)) ?_
      refine ih _ _ _ _ _ _ (hI.scr (fun r s i h => ?_) (fun r s i h => ((fl4 r s i (by omega)).trans (fl3 r s i (by omega)))) (fun _ _ _ _ => rfl))
      by_cases c : r = 62 ∧ s = 0 ∧ i = 3
      · obtain ⟨c1, c2, c3⟩ := c; subst c1 c2 c3; exact qm_st_eq
      · unfold qm_wJ at h; rw [qm_st_ne (by omega), ej4 r s i (by omega), ej3 r s i (by omega), ej2 r s i (by omega)]
  · refine qm_G.s1 rfl (qm_x_if_ne_f ⟨by decide, by decide⟩ (by decide)) ?_
    refine qm_G.s1 rfl (qm_x_pushI (-1) rfl) ?_
    refine qm_G.ret rfl rfl ⟨_, rfl, ?_⟩
    refine qm_G.s1 rfl (qm_x_aload rfl) ?_
    refine qm_G.s1 rfl (qm_x_aload rfl) ?_
    refine qm_G.s1 rfl (qm_x_iload rfl) ?_
    refine qm_G.s1 rfl (qm_x_pushI 1 rfl) ?_
    refine qm_G.s1 rfl (qm_x_iadd) ?_
    refine qm_G.s1 rfl (qm_x_iald2v (v := a1) (by omega) (by omega) hX e1) ?_
    refine qm_G.cm rfl rfl (hS 61 rfl) rfl ?_
    refine qm_C.go (cd := qm_P190) (lv := [(0, qm_R (some (0, 61, 0))), (1, qm_I (qm_i a1))]) rfl rfl ?_
    refine qm_G.s1 rfl (qm_x_iload rfl) ?_
    refine qm_G.s1 rfl (qm_x_pushI 0 rfl) ?_
    refine qm_G.s1 rfl (qm_x_pushI 1 rfl) ?_
    refine qm_G.cs rfl rfl rfl ?_
    refine qm_v_within11_f ⟨by omega, by omega⟩ ⟨by decide, by decide⟩ ⟨by decide, by decide⟩ (by omega) ⟨_, rfl, ?_⟩
    refine qm_G.s1 rfl (qm_x_if_ne_f ⟨by decide, by decide⟩ (by decide)) ?_
    refine qm_G.s1 rfl (qm_x_pushI (-1) rfl) ?_
    refine qm_G.ret rfl rfl ⟨_, rfl, ?_⟩
    refine qm_G.s1 rfl (qm_x_icmp_eq_t ⟨by decide, by decide⟩ ⟨by decide, by decide⟩ (by decide)) ?_
    exact ih _ _ _ _ _ _ hI.next
