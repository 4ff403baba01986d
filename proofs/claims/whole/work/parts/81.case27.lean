/-! THE LAW, case 27 -/
theorem qm_case27 {S : List qm_Sh} {J K : qm_J} {L : qm_Ct Int64} {D : qm_Ct UInt64} {R : qm_Ct (Option qm_Rf)} {X : Nat × (Nat → Int32)} {k : Nat} {z : Int} {Q : Option qm_V → qm_Hp → Prop} (hI : qm_Inv S J K L D R k) (hX : X.1 ≤ 3072) (h0 : 0 ≤ z) (h6 : z + 6 ≤ X.1) (ih : ∀ (S : List qm_Sh) (J K : qm_J) (L : qm_Ct Int64) (D : qm_Ct UInt64) (R : qm_Ct (Option qm_Rf)), qm_Inv S J K L D R (k + 1) → qm_G qm_P qm_P222 1445 [(0, qm_R (some (2, 0, 0))), (1, qm_R (some (0, 0, 0))), (2, qm_R (some (0, 61, 0))), (3, qm_I (qm_i z))] [] (qm_H S J K L D R X) Q) : qm_G qm_P qm_P222 1082 [(0, qm_R (some (2, 0, 0))), (1, qm_R (some (0, 0, 0))), (2, qm_R (some (0, 61, 0))), (3, qm_I (qm_i z))] [] (qm_H S J K L D R X) Q := by
  have hS := hI.sd
  have hR := hI.rd
  have hM := hI.mk
  have hN := hM.nk
  have rc9 : 0 ≤ J 11 0 6 ∧ J 11 0 6 ≤ 8 := by rw [hI.nt.ec]; exact hI.nt.rec
  have rk9 : ∀ j, j < 8 → 0 ≤ J 15 0 j ∧ J 15 0 j ≤ 3 := fun j hj => by rw [(hI.nt.evt j hj).1]; exact (hI.nt.revt j hj).1
  have rn9 : ∀ j, j < 8 → 0 ≤ J 16 0 j ∧ J 16 0 j ≤ 99 := fun j hj => by rw [(hI.nt.evt j hj).2]; exact ⟨(hI.nt.revt j hj).2.1, (hI.nt.revt j hj).2.2.1⟩
  have rx9 : ∀ j, j < 8 → (J 15 0 j = 1 → 1 ≤ J 16 0 j) ∧ (1 ≤ J 15 0 j → J 16 0 j ≤ 8) ∧ (J 15 0 j = 3 → J 16 0 j ≤ 3) := fun j hj => by rw [(hI.nt.evt j hj).1, (hI.nt.evt j hj).2]; exact (hI.nt.revt j hj).2.2.2
  have r39 : ∀ j, j < 8 → J 15 0 j = 3 → J 16 0 j ≤ 3 := fun j hj => (rx9 j hj).2.2
  obtain ⟨F, hF⟩ : ∃ F, F = qm_la (J 15 0) (J 16 0) 0 (Int.toNat (J 11 0 6)) 0 (J 62 0 3) := ⟨_, rfl⟩
  obtain ⟨M, hM1⟩ : ∃ F, F = qm_la (J 15 0) (J 16 0) 1 (Int.toNat (J 11 0 6)) 0 (J 62 0 1) := ⟨_, rfl⟩
  obtain ⟨O, hO⟩ : ∃ F, F = qm_la (J 15 0) (J 16 0) 2 (Int.toNat (J 11 0 6)) 0 (J 62 0 2) := ⟨_, rfl⟩
  obtain ⟨G, hG⟩ : ∃ F, F = qm_gn (J 15 0) (J 16 0) (Int.toNat (J 11 0 6)) 0 0 := ⟨_, rfl⟩
  have rF : 0 ≤ F ∧ F ≤ 99 := by rw [hF]; exact qm_la_rng (fun j hj _ => rn9 j hj) _ 0 _ (by omega) hM.r3
  have rM : 1 ≤ M ∧ M ≤ 8 := by rw [hM1]; exact qm_la_rng (fun j hj hk => by have := rx9 j hj; omega) _ 0 _ (by omega) hM.r1
  have rO : 0 ≤ O ∧ O ≤ 8 := by rw [hO]; exact qm_la_rng (fun j hj hk => by have := rx9 j hj; have := rn9 j hj; omega) _ 0 _ (by omega) hM.r2
  have rG : 0 ≤ G ∧ G ≤ 15 := by rw [hG]; exact qm_gn_rng (fun j hj hk => by have := rx9 j hj; have := rn9 j hj; omega) _ 0 _ (by omega) (by decide)
  obtain ⟨W, hW⟩ : ∃ W : Nat → Int → qm_S3, W = qm_VB (qm_ch (J 62 0) G 0) (qm_ch (J 62 0) G 1) M F := ⟨_, rfl⟩
  have f62_6 : 0 ≤ J 62 0 6 ∧ J 62 0 6 ≤ 2 := hM.rstr
  rcases (show J 62 0 6 = 0 ∨ J 62 0 6 = 1 ∨ J 62 0 6 = 2 by omega) with h6 | h6 | h6
  · have c6 : 50 + 4 * Int.toNat (J 62 0 6) = 50 := by omega
    refine qm_G.sp (lv1 := [(0, qm_R (some (2, 0, 0))), (1, qm_R (some (0, 0, 0))), (2, qm_R (some (0, 61, 0))), (3, qm_I (qm_i z))]) rfl rfl (qm_x_aload rfl) ?_
    refine qm_G.cm rfl rfl (hS 0 rfl) rfl ?_
    refine qm_C.go (cd := qm_P203) (lv := [(0, qm_R (some (0, 0, 0)))]) rfl rfl ?_
    refine qm_G.s1 rfl (qm_x_aload rfl) ?_
    refine qm_G.s1 rfl (qm_x_getfR (q := (some (0, 1, 0))) (hS 0 rfl) (hR 0 0 1 rfl rfl)) ?_
    refine qm_G.s1 rfl (qm_x_getfR (q := (some (0, 11, 0))) (hS 1 rfl) (hR 1 2 11 rfl rfl)) ?_
    refine qm_G.s1 rfl (qm_x_astore (lv' := [(1, qm_R (some (0, 11, 0))), (0, qm_R (some (0, 0, 0)))]) rfl) ?_
    refine qm_G.s1 rfl (qm_x_aload rfl) ?_
    refine qm_G.s1 rfl (qm_x_pushI 3 rfl) ?_
    refine qm_G.s1 rfl (qm_x_aload rfl) ?_
    refine qm_G.s1 rfl (qm_x_getfR (q := (some (0, 1, 0))) (hS 0 rfl) (hR 0 0 1 rfl rfl)) ?_
    refine qm_G.s1 rfl (qm_x_getfR (q := (some (0, 2, 0))) (hS 1 rfl) (hR 1 0 2 rfl rfl)) ?_
    refine qm_G.s1 rfl (qm_x_getfR (q := (some (0, 3, 0))) (hS 2 rfl) (hR 2 0 3 rfl rfl)) ?_
    refine qm_G.s1 rfl (qm_x_pushI 3 rfl) ?_
    have f62_3 : 0 ≤ J 62 0 3 ∧ J 62 0 3 ≤ 99 := hI.mk.r3
    have f3_3 : J 3 0 3 = J 62 0 3 := hI.mk.set 3 (by decide)
    refine qm_G.s1 rfl (qm_x_iald (v := (J 3 0 3)) (qm_arS hS rfl rfl) rfl (by decide) (by decide) (by decide) rfl) ?_
    refine qm_G.cm rfl rfl (hS 11 rfl) rfl ?_
    rw [f3_3]
    refine qm_d_last0 hS hR rfl rc9 rk9 rn9 r39 ⟨_, rfl, ?_⟩
    rw [← hF]
    refine qm_G.s1 rfl (qm_x_istore (lv' := [(2, qm_I (qm_i F)), (1, qm_R (some (0, 11, 0))), (0, qm_R (some (0, 0, 0)))]) rfl) ?_
    refine qm_G.s1 rfl (qm_x_aload rfl) ?_
    refine qm_G.s1 rfl (qm_x_pushI 1 rfl) ?_
    refine qm_G.s1 rfl (qm_x_aload rfl) ?_
    refine qm_G.s1 rfl (qm_x_getfR (q := (some (0, 1, 0))) (hS 0 rfl) (hR 0 0 1 rfl rfl)) ?_
    refine qm_G.s1 rfl (qm_x_getfR (q := (some (0, 2, 0))) (hS 1 rfl) (hR 1 0 2 rfl rfl)) ?_
    refine qm_G.s1 rfl (qm_x_getfR (q := (some (0, 3, 0))) (hS 2 rfl) (hR 2 0 3 rfl rfl)) ?_
    refine qm_G.s1 rfl (qm_x_pushI 1 rfl) ?_
    have f62_1 : 1 ≤ J 62 0 1 ∧ J 62 0 1 ≤ 8 := hI.mk.r1
    have f3_1 : J 3 0 1 = J 62 0 1 := hI.mk.set 1 (by decide)
    refine qm_G.s1 rfl (qm_x_iald (v := (J 3 0 1)) (qm_arS hS rfl rfl) rfl (by decide) (by decide) (by decide) rfl) ?_
    refine qm_G.cm rfl rfl (hS 11 rfl) rfl ?_
    rw [f3_1]
    refine qm_d_last1 hS hR rfl rc9 rk9 rn9 r39 ⟨_, rfl, ?_⟩
    rw [← hM1]
    refine qm_G.s1 rfl (qm_x_istore (lv' := [(3, qm_I (qm_i M)), (2, qm_I (qm_i F)), (1, qm_R (some (0, 11, 0))), (0, qm_R (some (0, 0, 0)))]) rfl) ?_
    refine qm_G.s1 rfl (qm_x_aload rfl) ?_
    refine qm_G.s1 rfl (qm_x_pushI 2 rfl) ?_
    refine qm_G.s1 rfl (qm_x_aload rfl) ?_
    refine qm_G.s1 rfl (qm_x_getfR (q := (some (0, 1, 0))) (hS 0 rfl) (hR 0 0 1 rfl rfl)) ?_
    refine qm_G.s1 rfl (qm_x_getfR (q := (some (0, 2, 0))) (hS 1 rfl) (hR 1 0 2 rfl rfl)) ?_
    refine qm_G.s1 rfl (qm_x_getfR (q := (some (0, 3, 0))) (hS 2 rfl) (hR 2 0 3 rfl rfl)) ?_
    refine qm_G.s1 rfl (qm_x_pushI 2 rfl) ?_
    have f62_2 : 0 ≤ J 62 0 2 ∧ J 62 0 2 ≤ 8 := hI.mk.r2
    have f3_2 : J 3 0 2 = J 62 0 2 := hI.mk.set 2 (by decide)
    refine qm_G.s1 rfl (qm_x_iald (v := (J 3 0 2)) (qm_arS hS rfl rfl) rfl (by decide) (by decide) (by decide) rfl) ?_
    refine qm_G.cm rfl rfl (hS 11 rfl) rfl ?_
    rw [f3_2]
    refine qm_d_last2 hS hR rfl rc9 rk9 rn9 r39 ⟨_, rfl, ?_⟩
    rw [← hO]
    refine qm_G.s1 rfl (qm_x_istore (lv' := [(4, qm_I (qm_i O)), (3, qm_I (qm_i M)), (2, qm_I (qm_i F)), (1, qm_R (some (0, 11, 0))), (0, qm_R (some (0, 0, 0)))]) rfl) ?_
    refine qm_G.s1 rfl (qm_x_aload rfl) ?_
    refine qm_G.s1 rfl (qm_x_getfR (q := (some (0, 35, 0))) (hS 0 rfl) (hR 0 3 35 rfl rfl)) ?_
    refine qm_G.s1 rfl (qm_x_aload rfl) ?_
    refine qm_G.s1 rfl (qm_x_getfR (q := (some (0, 1, 0))) (hS 0 rfl) (hR 0 0 1 rfl rfl)) ?_
    refine qm_G.s1 rfl (qm_x_getfR (q := (some (0, 2, 0))) (hS 1 rfl) (hR 1 0 2 rfl rfl)) ?_
    refine qm_G.s1 rfl (qm_x_aload rfl) ?_
    refine qm_G.cm rfl rfl (hS 11 rfl) rfl ?_
    refine qm_d_gone hS hR rfl rc9 rk9 rn9 r39 ⟨_, rfl, ?_⟩
    rw [← hG]
    refine qm_G.cmv rfl rfl (hS 35 rfl) rfl ?_
    refine qm_d_look hS hR hM rG (fun J2 ej2 c2 d2 => ⟨rfl, ?_⟩)
    refine qm_G.s1 rfl (qm_x_aload rfl) ?_
    refine qm_G.s1 rfl (qm_x_getfR (q := (some (0, 35, 0))) (hS 0 rfl) (hR 0 3 35 rfl rfl)) ?_
    refine qm_G.s1 rfl (qm_x_iload rfl) ?_
    refine qm_G.s1 rfl (qm_x_iload rfl) ?_
    refine qm_G.s1 rfl (qm_x_iload rfl) ?_
    refine qm_G.cmv rfl rfl (hS 35 rfl) rfl ?_
    refine qm_d_solve (lim := M) (fine := F) hS hR rM rF rO c2 d2 (fun z a b => qm_ch_rng hN (by decide) ⟨a, b⟩) (fun z a b => qm_ch_rng hN (by decide) ⟨a, b⟩) (fun J3 L3 ej3 l3 fl3 t3 => ⟨rfl, ?_⟩)
    unfold qm_TV at t3
    rw [← hW] at t3
    refine qm_G.s1 rfl (qm_x_aload rfl) ?_
    refine qm_G.s1 rfl (qm_x_getfR (q := (some (0, 35, 0))) (hS 0 rfl) (hR 0 3 35 rfl rfl)) ?_
    refine qm_G.s1 rfl (qm_x_pushI 0 rfl) ?_
    refine qm_G.s1 rfl (qm_x_iload rfl) ?_
    refine qm_G.cm rfl rfl (hS 35 rfl) rfl ?_
    refine qm_C.go (cd := qm_P35) (lv := [(0, qm_R (some (0, 35, 0))), (1, qm_I (qm_i 0)), (2, qm_I (qm_i O))]) rfl rfl ?_
    refine qm_G.s1 rfl (qm_x_aload rfl) ?_
    refine qm_G.s1 rfl (qm_x_getfR (q := (some (0, 37, 0))) (hS 35 rfl) (hR 35 1 37 rfl rfl)) ?_
    refine qm_G.s1 rfl (qm_x_iload rfl) ?_
    refine qm_G.s1 rfl (qm_x_aaldg (hS 37 rfl) rfl rfl (by omega) (by omega)) ?_
    refine qm_G.s1 rfl (qm_x_iload rfl) ?_
    refine qm_G.s1 rfl (qm_x_pushI 8 rfl) ?_
    refine qm_G.s1 rfl (qm_x_iadd) ?_
    refine qm_G.s1 rfl (qm_x_lald (a := ((W (Int.toNat O) 0).1)) (qm_arS hS rfl rfl) rfl (by decide) (by decide) (by omega) (t3 O 0 (by omega) (Or.inl (by omega)) (by omega) (by omega)).1) ?_
    refine qm_G.ret rfl rfl ⟨_, rfl, ?_⟩
    refine qm_G.ret rfl rfl ⟨_, rfl, ?_⟩
    refine qm_G.s1 rfl (qm_x_aload rfl) ?_
    refine qm_G.cm rfl rfl (hS 61 rfl) rfl ?_
    refine qm_C.go (cd := qm_P188) (lv := [(0, qm_R (some (0, 61, 0)))]) rfl rfl ?_
    refine qm_G.s1 rfl (qm_x_aload rfl) ?_
    refine qm_G.s1 rfl (qm_x_getfR (q := (some (0, 62, 0))) (hS 61 rfl) (hR 61 0 62 rfl rfl)) ?_
    refine qm_G.s1 rfl (qm_x_pushI 3 rfl) ?_
    refine qm_G.s1 rfl (qm_x_iald (v := (J 62 0 3)) (qm_arS hS rfl rfl) rfl (by decide) (by decide) (by decide) (Eq.trans (ej3 62 0 3 (by omega)) (ej2 62 0 3 (by omega)))) ?_
    refine qm_G.s1 rfl (qm_x_istore (lv' := [(1, qm_I (qm_i (J 62 0 3))), (0, qm_R (some (0, 61, 0)))]) rfl) ?_
    refine qm_G.s1 rfl (qm_x_aload rfl) ?_
    refine qm_G.s1 rfl (qm_x_getfR (q := (some (0, 62, 0))) (hS 61 rfl) (hR 61 0 62 rfl rfl)) ?_
    refine qm_G.s1 rfl (qm_x_pushI 1 rfl) ?_
    refine qm_G.s1 rfl (qm_x_iald (v := (J 62 0 1)) (qm_arS hS rfl rfl) rfl (by decide) (by decide) (by decide) (Eq.trans (ej3 62 0 1 (by omega)) (ej2 62 0 1 (by omega)))) ?_
    refine qm_G.s1 rfl (qm_x_istore (lv' := [(2, qm_I (qm_i (J 62 0 1))), (1, qm_I (qm_i (J 62 0 3))), (0, qm_R (some (0, 61, 0)))]) rfl) ?_
    refine qm_G.s1 rfl (qm_x_aload rfl) ?_
    refine qm_G.s1 rfl (qm_x_getfR (q := (some (0, 62, 0))) (hS 61 rfl) (hR 61 0 62 rfl rfl)) ?_
    refine qm_G.s1 rfl (qm_x_pushI 2 rfl) ?_
    refine qm_G.s1 rfl (qm_x_iald (v := (J 62 0 2)) (qm_arS hS rfl rfl) rfl (by decide) (by decide) (by decide) (Eq.trans (ej3 62 0 2 (by omega)) (ej2 62 0 2 (by omega)))) ?_
    refine qm_G.s1 rfl (qm_x_istore (lv' := [(3, qm_I (qm_i (J 62 0 2))), (2, qm_I (qm_i (J 62 0 1))), (1, qm_I (qm_i (J 62 0 3))), (0, qm_R (some (0, 61, 0)))]) rfl) ?_
    refine qm_G.s1 rfl (qm_x_pushI 50 rfl) ?_
    refine qm_G.s1 rfl (qm_x_pushI 4 rfl) ?_
    refine qm_G.s1 rfl (qm_x_aload rfl) ?_
    refine qm_G.s1 rfl (qm_x_getfR (q := (some (0, 62, 0))) (hS 61 rfl) (hR 61 0 62 rfl rfl)) ?_
    refine qm_G.s1 rfl (qm_x_pushI 6 rfl) ?_
    refine qm_G.s1 rfl (qm_x_iald (v := 0) (qm_arS hS rfl rfl) rfl (by decide) (by decide) (by decide) (Eq.trans (Eq.trans (ej3 62 0 6 (by omega)) (ej2 62 0 6 (by omega))) h6)) ?_
    refine qm_G.s1 rfl (qm_x_imul) ?_
    refine qm_G.s1 rfl (qm_x_iadd) ?_
    refine qm_G.s1 rfl (qm_x_istore (lv' := [(4, qm_I (qm_i (50 + (4 * 0)))), (3, qm_I (qm_i (J 62 0 2))), (2, qm_I (qm_i (J 62 0 1))), (1, qm_I (qm_i (J 62 0 3))), (0, qm_R (some (0, 61, 0)))]) rfl) ?_
    refine qm_G.s1 rfl (qm_x_aload rfl) ?_
    refine qm_G.s1 rfl (qm_x_getfR (q := (some (0, 62, 0))) (hS 61 rfl) (hR 61 0 62 rfl rfl)) ?_
    refine qm_G.s1 rfl (qm_x_iload rfl) ?_
    refine qm_G.s1 rfl (qm_x_iald (v := (J 62 0 50)) (qm_arS hS rfl rfl) rfl (by decide) (by decide) (by decide) (Eq.trans (ej3 62 0 50 (by omega)) (ej2 62 0 50 (by omega)))) ?_
    refine qm_G.s1 rfl (qm_x_istore (lv' := [(5, qm_I (qm_i (J 62 0 50))), (4, qm_I (qm_i (50 + (4 * 0)))), (3, qm_I (qm_i (J 62 0 2))), (2, qm_I (qm_i (J 62 0 1))), (1, qm_I (qm_i (J 62 0 3))), (0, qm_R (some (0, 61, 0)))]) rfl) ?_
    refine qm_G.s1 rfl (qm_x_aload rfl) ?_
    refine qm_G.s1 rfl (qm_x_getfR (q := (some (0, 62, 0))) (hS 61 rfl) (hR 61 0 62 rfl rfl)) ?_
    refine qm_G.s1 rfl (qm_x_iload rfl) ?_
    refine qm_G.s1 rfl (qm_x_pushI 1 rfl) ?_
    refine qm_G.s1 rfl (qm_x_iadd) ?_
    refine qm_G.s1 rfl (qm_x_iald (v := (J 62 0 51)) (qm_arS hS rfl rfl) rfl (by decide) (by decide) (by decide) (Eq.trans (ej3 62 0 51 (by omega)) (ej2 62 0 51 (by omega)))) ?_
    refine qm_G.s1 rfl (qm_x_istore (lv' := [(6, qm_I (qm_i (J 62 0 51))), (5, qm_I (qm_i (J 62 0 50))), (4, qm_I (qm_i (50 + (4 * 0)))), (3, qm_I (qm_i (J 62 0 2))), (2, qm_I (qm_i (J 62 0 1))), (1, qm_I (qm_i (J 62 0 3))), (0, qm_R (some (0, 61, 0)))]) rfl) ?_
    refine qm_G.s1 rfl (qm_x_aload rfl) ?_
    refine qm_G.s1 rfl (qm_x_getfR (q := (some (0, 62, 0))) (hS 61 rfl) (hR 61 0 62 rfl rfl)) ?_
    refine qm_G.s1 rfl (qm_x_iload rfl) ?_
    refine qm_G.s1 rfl (qm_x_pushI 2 rfl) ?_
    refine qm_G.s1 rfl (qm_x_iadd) ?_
    refine qm_G.s1 rfl (qm_x_iald (v := (J 62 0 52)) (qm_arS hS rfl rfl) rfl (by decide) (by decide) (by decide) (Eq.trans (ej3 62 0 52 (by omega)) (ej2 62 0 52 (by omega)))) ?_
    refine qm_G.s1 rfl (qm_x_istore (lv' := [(7, qm_I (qm_i (J 62 0 52))), (6, qm_I (qm_i (J 62 0 51))), (5, qm_I (qm_i (J 62 0 50))), (4, qm_I (qm_i (50 + (4 * 0)))), (3, qm_I (qm_i (J 62 0 2))), (2, qm_I (qm_i (J 62 0 1))), (1, qm_I (qm_i (J 62 0 3))), (0, qm_R (some (0, 61, 0)))]) rfl) ?_
    refine qm_G.s1 rfl (qm_x_aload rfl) ?_
    refine qm_G.s1 rfl (qm_x_getfR (q := (some (0, 62, 0))) (hS 61 rfl) (hR 61 0 62 rfl rfl)) ?_
    refine qm_G.s1 rfl (qm_x_iload rfl) ?_
    refine qm_G.s1 rfl (qm_x_pushI 3 rfl) ?_
    refine qm_G.s1 rfl (qm_x_iadd) ?_
    refine qm_G.s1 rfl (qm_x_iald (v := (J 62 0 53)) (qm_arS hS rfl rfl) rfl (by decide) (by decide) (by decide) (Eq.trans (ej3 62 0 53 (by omega)) (ej2 62 0 53 (by omega)))) ?_
    refine qm_G.s1 rfl (qm_x_istore (lv' := [(8, qm_I (qm_i (J 62 0 53))), (7, qm_I (qm_i (J 62 0 52))), (6, qm_I (qm_i (J 62 0 51))), (5, qm_I (qm_i (J 62 0 50))), (4, qm_I (qm_i (50 + (4 * 0)))), (3, qm_I (qm_i (J 62 0 2))), (2, qm_I (qm_i (J 62 0 1))), (1, qm_I (qm_i (J 62 0 3))), (0, qm_R (some (0, 61, 0)))]) rfl) ?_
    refine qm_G.s1 rfl (qm_x_pushI 0 rfl) ?_
    refine qm_G.s1 rfl (qm_x_istore (lv' := [(9, qm_I (qm_i 0)), (8, qm_I (qm_i (J 62 0 53))), (7, qm_I (qm_i (J 62 0 52))), (6, qm_I (qm_i (J 62 0 51))), (5, qm_I (qm_i (J 62 0 50))), (4, qm_I (qm_i (50 + (4 * 0)))), (3, qm_I (qm_i (J 62 0 2))), (2, qm_I (qm_i (J 62 0 1))), (1, qm_I (qm_i (J 62 0 3))), (0, qm_R (some (0, 61, 0)))]) rfl) ?_
    refine qm_G.pk (lv1 := [(0, qm_R (some (0, 61, 0))), (1, qm_I (qm_i (J 62 0 3))), (2, qm_I (qm_i (J 62 0 1))), (3, qm_I (qm_i (J 62 0 2))), (4, qm_I (qm_i 50)), (5, qm_I (qm_i (J 62 0 50))), (6, qm_I (qm_i (J 62 0 51))), (7, qm_I (qm_i (J 62 0 52))), (8, qm_I (qm_i (J 62 0 53))), (9, qm_I (qm_i 0))]) rfl rfl rfl ?_
    refine qm_m_ev0 (N := J 62 0) (kd := J 15 0) (nm := J 16 0) (cnt := J 11 0 6) hS hR rc9 rk9 rn9 r39 (Int.toNat (J 11 0 6)) 0 (J 62 0 3) (J 62 0 1) (J 62 0 2) 0 J3 (by omega) (by decide) (by decide) (((ej3 62 0 13 (by omega)).trans (ej2 62 0 13 (by omega))).trans hI.nt.ec.symm) (fun j hj => ⟨((ej3 62 0 _ (by omega)).trans (ej2 62 0 _ (by omega))).trans (hI.nt.evt j hj).1.symm, ((ej3 62 0 _ (by omega)).trans (ej2 62 0 _ (by omega))).trans (hI.nt.evt j hj).2.symm⟩) ((ej3 62 0 3 (by omega)).trans (ej2 62 0 3 (by omega))) ((ej3 62 0 1 (by omega)).trans (ej2 62 0 1 (by omega))) ((ej3 62 0 2 (by omega)).trans (ej2 62 0 2 (by omega))) (fun m hm => by rw [((ej3 62 0 _ (by omega)).trans (ej2 62 0 _ (by omega))), Int.zero_ediv, if_neg (by decide)]) (fun J4 ej4 f4 m4 o4 d4 => ?_)
    replace f4 : J4 62 0 3 = F := f4.trans hF.symm
    replace m4 : J4 62 0 1 = M := m4.trans hM1.symm
    replace o4 : J4 62 0 2 = O := o4.trans hO.symm
    replace d4 : ∀ m : Nat, m < 4 → J4 62 0 (50 + m) = if G / qm_p2 m % 2 = 1 then -5 else J 62 0 (50 + m) := fun m hm => (d4 m hm).trans (by rw [hG]; rfl)
    have k4 : ∀ i, ¬ (1 ≤ i ∧ i ≤ 3 ∨ 50 ≤ i ∧ i < 54) → J4 62 0 i = J 62 0 i := fun i hi => by rw [ej4 62 0 i (by omega), ej3 62 0 i (by omega), ej2 62 0 i (by omega)]
    refine qm_G.sp (lv1 := [(0, qm_R (some (0, 61, 0))), (1, qm_I (qm_i (J 62 0 3))), (2, qm_I (qm_i (J 62 0 1))), (3, qm_I (qm_i (J 62 0 2))), (4, qm_I (qm_i 50)), (5, qm_I (qm_i (J 62 0 50))), (6, qm_I (qm_i (J 62 0 51))), (7, qm_I (qm_i (J 62 0 52))), (8, qm_I (qm_i (J 62 0 53)))]) rfl rfl (qm_x_aload rfl) ?_
    refine qm_G.cmv rfl rfl (hS 61 rfl) rfl ?_
    have hN4 : qm_Nk (J4 62 0) := by
      refine ⟨by rw [m4]; exact rM, by rw [o4]; exact rO, by rw [f4]; exact rF, by rw [k4 6 (by omega)]; exact hN.str, by rw [k4 7 (by omega)]; exact hN.cnt, fun d hd => by rw [k4 (14 + d) (by omega)]; exact hN.odd d hd, fun q hq => ?_, fun r h1 h2 => ?_⟩
      · by_cases c : 50 ≤ 50 + q ∧ 50 + q < 54
        · have h9 := d4 (50 + q - 50) (by omega)
          rw [show 50 + (50 + q - 50) = 50 + q by omega] at h9
          rw [h9, k4 7 (by omega)]
          split
          · exact Or.inl rfl
          · exact hN.dek q hq
        · rw [k4 (50 + q) (by omega), k4 7 (by omega)]; exact hN.dek q hq
      · rw [k4 7 (by omega)] at h2
        rw [k4 (26 + 3 * r) (by omega), k4 (27 + 3 * r) (by omega), k4 (28 + 3 * r) (by omega)]; exact hN.riv r h1 h2
    refine qm_m_values hS hR hN4 (fun J5 L5 ej5 fl5 b5 t5 => ⟨rfl, ?_⟩)
    have cg : ∀ sd z : Int, 0 ≤ sd ∧ sd ≤ 1 → 0 ≤ z → z ≤ 6 → qm_ch (J4 62 0) 0 sd z = qm_ch (J 62 0) G sd z := fun sd z h1 h2 h3 => qm_ch_gone hN h1 ⟨h2, h3⟩ rG (fun i h4 h5 => k4 i (by omega)) (k4 6 (by omega)) (fun m hm => by rw [c6]; exact d4 m hm)
    have t6 : ∀ t x : Int, 0 ≤ t → t < 9 → -M ≤ x → x ≤ M → L5 64 0 (Int.toNat (17 * t + 8 + x)) = (W (Int.toNat t) x).1 := fun t x h0 h1 h2 h3 => by
      have h9 := (t5 t x h0 (Or.inl h1) (by rw [m4]; exact h2) (by rw [m4]; exact h3)).1
      rw [m4, f4, qm_VB_congr (fun z a b => cg 0 z (by decide) a b) (fun z a b => cg 1 z (by decide) a b), ← hW] at h9
      exact h9
    refine qm_G.s1 rfl (qm_x_aload rfl) ?_
    refine qm_G.s1 rfl (qm_x_getfR (q := (some (0, 64, 0))) (hS 61 rfl) (hR 61 7 64 rfl rfl)) ?_
    refine qm_G.s1 rfl (qm_x_aload rfl) ?_
    refine qm_G.s1 rfl (qm_x_getfR (q := (some (0, 62, 0))) (hS 61 rfl) (hR 61 0 62 rfl rfl)) ?_
    refine qm_G.s1 rfl (qm_x_pushI 2 rfl) ?_
    refine qm_G.s1 rfl (qm_x_iald (v := O) (qm_arS hS rfl rfl) rfl (by decide) (by decide) (by decide) (Eq.trans (ej5 62 0 2 (by omega)) o4)) ?_
    refine qm_G.s1 rfl (qm_x_pushI 0 rfl) ?_
    refine qm_G.cs rfl rfl rfl ?_
    refine qm_C.go (cd := qm_P24) (lv := [(0, qm_I (qm_i O)), (1, qm_I (qm_i 0))]) rfl rfl ?_
    refine qm_G.s1 rfl (qm_x_pushI 17 rfl) ?_
    refine qm_G.s1 rfl (qm_x_iload rfl) ?_
    refine qm_G.s1 rfl (qm_x_imul) ?_
    refine qm_G.s1 rfl (qm_x_pushI 8 rfl) ?_
    refine qm_G.s1 rfl (qm_x_iadd) ?_
    refine qm_G.s1 rfl (qm_x_iload rfl) ?_
    refine qm_G.s1 rfl (qm_x_iadd) ?_
    refine qm_G.ret rfl rfl ⟨_, rfl, ?_⟩
    refine qm_G.s1 rfl (qm_x_lald (a := ((W (Int.toNat O) 0).1)) (qm_arS hS rfl rfl) rfl (by omega) (by omega) (by decide) (Eq.trans (congrArg (L5 64 0) (by omega)) (t6 O 0 (by omega) (by omega) (by omega) (by omega)))) ?_
    refine qm_G.s1 rfl (qm_x_lstore (lv' := [(9, qm_L ((W (Int.toNat O) 0).1)), (0, qm_R (some (0, 61, 0))), (1, qm_I (qm_i (J 62 0 3))), (2, qm_I (qm_i (J 62 0 1))), (3, qm_I (qm_i (J 62 0 2))), (4, qm_I (qm_i 50)), (5, qm_I (qm_i (J 62 0 50))), (6, qm_I (qm_i (J 62 0 51))), (7, qm_I (qm_i (J 62 0 52))), (8, qm_I (qm_i (J 62 0 53)))]) rfl) ?_
    refine qm_G.s1 rfl (qm_x_aload rfl) ?_
    refine qm_G.s1 rfl (qm_x_getfR (q := (some (0, 62, 0))) (hS 61 rfl) (hR 61 0 62 rfl rfl)) ?_
    refine qm_G.s1 rfl (qm_x_pushI 3 rfl) ?_
    refine qm_G.s1 rfl (qm_x_iload rfl) ?_
    refine qm_G.s1 rfl (qm_x_iast (qm_arS hS rfl rfl) rfl (by decide) (by decide) (by decide)) ?_
    refine qm_G.s1 rfl (qm_x_aload rfl) ?_
    refine qm_G.s1 rfl (qm_x_getfR (q := (some (0, 62, 0))) (hS 61 rfl) (hR 61 0 62 rfl rfl)) ?_
    refine qm_G.s1 rfl (qm_x_pushI 1 rfl) ?_
    refine qm_G.s1 rfl (qm_x_iload rfl) ?_
    refine qm_G.s1 rfl (qm_x_iast (qm_arS hS rfl rfl) rfl (by decide) (by decide) (by decide)) ?_
    refine qm_G.s1 rfl (qm_x_aload rfl) ?_
    refine qm_G.s1 rfl (qm_x_getfR (q := (some (0, 62, 0))) (hS 61 rfl) (hR 61 0 62 rfl rfl)) ?_
    refine qm_G.s1 rfl (qm_x_pushI 2 rfl) ?_
    refine qm_G.s1 rfl (qm_x_iload rfl) ?_
    refine qm_G.s1 rfl (qm_x_iast (qm_arS hS rfl rfl) rfl (by decide) (by decide) (by decide)) ?_
    refine qm_G.s1 rfl (qm_x_aload rfl) ?_
    refine qm_G.s1 rfl (qm_x_getfR (q := (some (0, 62, 0))) (hS 61 rfl) (hR 61 0 62 rfl rfl)) ?_
    refine qm_G.s1 rfl (qm_x_iload rfl) ?_
    refine qm_G.s1 rfl (qm_x_iload rfl) ?_
    refine qm_G.s1 rfl (qm_x_iast (qm_arS hS rfl rfl) rfl (by decide) (by decide) (by decide)) ?_
    refine qm_G.s1 rfl (qm_x_aload rfl) ?_
    refine qm_G.s1 rfl (qm_x_getfR (q := (some (0, 62, 0))) (hS 61 rfl) (hR 61 0 62 rfl rfl)) ?_
    refine qm_G.s1 rfl (qm_x_iload rfl) ?_
    refine qm_G.s1 rfl (qm_x_pushI 1 rfl) ?_
    refine qm_G.s1 rfl (qm_x_iadd) ?_
    refine qm_G.s1 rfl (qm_x_iload rfl) ?_
    refine qm_G.s1 rfl (qm_x_iast (qm_arS hS rfl rfl) rfl (by decide) (by decide) (by decide)) ?_
    refine qm_G.s1 rfl (qm_x_aload rfl) ?_
    refine qm_G.s1 rfl (qm_x_getfR (q := (some (0, 62, 0))) (hS 61 rfl) (hR 61 0 62 rfl rfl)) ?_
    refine qm_G.s1 rfl (qm_x_iload rfl) ?_
    refine qm_G.s1 rfl (qm_x_pushI 2 rfl) ?_
    refine qm_G.s1 rfl (qm_x_iadd) ?_
    refine qm_G.s1 rfl (qm_x_iload rfl) ?_
    refine qm_G.s1 rfl (qm_x_iast (qm_arS hS rfl rfl) rfl (by decide) (by decide) (by decide)) ?_
    refine qm_G.s1 rfl (qm_x_aload rfl) ?_
    refine qm_G.s1 rfl (qm_x_getfR (q := (some (0, 62, 0))) (hS 61 rfl) (hR 61 0 62 rfl rfl)) ?_
    refine qm_G.s1 rfl (qm_x_iload rfl) ?_
    refine qm_G.s1 rfl (qm_x_pushI 3 rfl) ?_
    refine qm_G.s1 rfl (qm_x_iadd) ?_
    refine qm_G.s1 rfl (qm_x_iload rfl) ?_
    refine qm_G.s1 rfl (qm_x_iast (qm_arS hS rfl rfl) rfl (by decide) (by decide) (by decide)) ?_
    refine qm_G.s1 rfl (qm_x_lload rfl) ?_
    refine qm_G.ret rfl rfl ⟨_, rfl, ?_⟩
    refine qm_G.s1 rfl (qm_x_lcmp_eq rfl) ?_
    refine qm_G.s1 rfl (qm_x_if_eq_t ⟨by decide, by decide⟩ (by decide)) ?_
    have e9 : ∀ r s i, ¬ qm_wJ r i → (qm_set (qm_set (qm_set (qm_set (qm_set (qm_set (qm_set J5 62 0 3 (J 62 0 3)) 62 0 1 (J 62 0 1)) 62 0 2 (J 62 0 2)) 62 0 50 (J 62 0 50)) 62 0 51 (J 62 0 51)) 62 0 52 (J 62 0 52)) 62 0 53 (J 62 0 53)) r s i = J r s i := by
      intro r s i h
      by_cases c : r = 62 ∧ s = 0 ∧ (i = 3 ∨ i = 1 ∨ i = 2 ∨ i = 50 ∨ i = 51 ∨ i = 52 ∨ i = 53)
      · obtain ⟨c1, c2, c3⟩ := c
        subst c1 c2
        rcases c3 with c | c | c | c | c | c | c <;> subst c <;> simp [qm_set]
      · unfold qm_wJ at h
        rw [qm_st_ne (by omega), qm_st_ne (by omega), qm_st_ne (by omega), qm_st_ne (by omega), qm_st_ne (by omega), qm_st_ne (by omega), qm_st_ne (by omega), ej5 r s i (by omega), ej4 r s i (by omega), ej3 r s i (by omega), ej2 r s i (by omega)]
    exact ih _ _ _ _ _ _ (hI.scr e9 (fun r s i h => ((fl5 r s i (by omega)).trans (fl3 r s i (by omega)))) (fun _ _ _ _ => rfl))
  · have c6 : 50 + 4 * Int.toNat (J 62 0 6) = 54 := by omega
    refine qm_G.sp (lv1 := [(0, qm_R (some (2, 0, 0))), (1, qm_R (some (0, 0, 0))), (2, qm_R (some (0, 61, 0))), (3, qm_I (qm_i z))]) rfl rfl (qm_x_aload rfl) ?_
    refine qm_G.cm rfl rfl (hS 0 rfl) rfl ?_
    refine qm_C.go (cd := qm_P203) (lv := [(0, qm_R (some (0, 0, 0)))]) rfl rfl ?_
    refine qm_G.s1 rfl (qm_x_aload rfl) ?_
    refine qm_G.s1 rfl (qm_x_getfR (q := (some (0, 1, 0))) (hS 0 rfl) (hR 0 0 1 rfl rfl)) ?_
    refine qm_G.s1 rfl (qm_x_getfR (q := (some (0, 11, 0))) (hS 1 rfl) (hR 1 2 11 rfl rfl)) ?_
    refine qm_G.s1 rfl (qm_x_astore (lv' := [(1, qm_R (some (0, 11, 0))), (0, qm_R (some (0, 0, 0)))]) rfl) ?_
    refine qm_G.s1 rfl (qm_x_aload rfl) ?_
    refine qm_G.s1 rfl (qm_x_pushI 3 rfl) ?_
    refine qm_G.s1 rfl (qm_x_aload rfl) ?_
    refine qm_G.s1 rfl (qm_x_getfR (q := (some (0, 1, 0))) (hS 0 rfl) (hR 0 0 1 rfl rfl)) ?_
    refine qm_G.s1 rfl (qm_x_getfR (q := (some (0, 2, 0))) (hS 1 rfl) (hR 1 0 2 rfl rfl)) ?_
    refine qm_G.s1 rfl (qm_x_getfR (q := (some (0, 3, 0))) (hS 2 rfl) (hR 2 0 3 rfl rfl)) ?_
    refine qm_G.s1 rfl (qm_x_pushI 3 rfl) ?_
    have f62_3 : 0 ≤ J 62 0 3 ∧ J 62 0 3 ≤ 99 := hI.mk.r3
    have f3_3 : J 3 0 3 = J 62 0 3 := hI.mk.set 3 (by decide)
    refine qm_G.s1 rfl (qm_x_iald (v := (J 3 0 3)) (qm_arS hS rfl rfl) rfl (by decide) (by decide) (by decide) rfl) ?_
    refine qm_G.cm rfl rfl (hS 11 rfl) rfl ?_
    rw [f3_3]
    refine qm_d_last0 hS hR rfl rc9 rk9 rn9 r39 ⟨_, rfl, ?_⟩
    rw [← hF]
    refine qm_G.s1 rfl (qm_x_istore (lv' := [(2, qm_I (qm_i F)), (1, qm_R (some (0, 11, 0))), (0, qm_R (some (0, 0, 0)))]) rfl) ?_
    refine qm_G.s1 rfl (qm_x_aload rfl) ?_
    refine qm_G.s1 rfl (qm_x_pushI 1 rfl) ?_
    refine qm_G.s1 rfl (qm_x_aload rfl) ?_
    refine qm_G.s1 rfl (qm_x_getfR (q := (some (0, 1, 0))) (hS 0 rfl) (hR 0 0 1 rfl rfl)) ?_
    refine qm_G.s1 rfl (qm_x_getfR (q := (some (0, 2, 0))) (hS 1 rfl) (hR 1 0 2 rfl rfl)) ?_
    refine qm_G.s1 rfl (qm_x_getfR (q := (some (0, 3, 0))) (hS 2 rfl) (hR 2 0 3 rfl rfl)) ?_
    refine qm_G.s1 rfl (qm_x_pushI 1 rfl) ?_
    have f62_1 : 1 ≤ J 62 0 1 ∧ J 62 0 1 ≤ 8 := hI.mk.r1
    have f3_1 : J 3 0 1 = J 62 0 1 := hI.mk.set 1 (by decide)
    refine qm_G.s1 rfl (qm_x_iald (v := (J 3 0 1)) (qm_arS hS rfl rfl) rfl (by decide) (by decide) (by decide) rfl) ?_
    refine qm_G.cm rfl rfl (hS 11 rfl) rfl ?_
    rw [f3_1]
    refine qm_d_last1 hS hR rfl rc9 rk9 rn9 r39 ⟨_, rfl, ?_⟩
    rw [← hM1]
    refine qm_G.s1 rfl (qm_x_istore (lv' := [(3, qm_I (qm_i M)), (2, qm_I (qm_i F)), (1, qm_R (some (0, 11, 0))), (0, qm_R (some (0, 0, 0)))]) rfl) ?_
    refine qm_G.s1 rfl (qm_x_aload rfl) ?_
    refine qm_G.s1 rfl (qm_x_pushI 2 rfl) ?_
    refine qm_G.s1 rfl (qm_x_aload rfl) ?_
    refine qm_G.s1 rfl (qm_x_getfR (q := (some (0, 1, 0))) (hS 0 rfl) (hR 0 0 1 rfl rfl)) ?_
    refine qm_G.s1 rfl (qm_x_getfR (q := (some (0, 2, 0))) (hS 1 rfl) (hR 1 0 2 rfl rfl)) ?_
    refine qm_G.s1 rfl (qm_x_getfR (q := (some (0, 3, 0))) (hS 2 rfl) (hR 2 0 3 rfl rfl)) ?_
    refine qm_G.s1 rfl (qm_x_pushI 2 rfl) ?_
    have f62_2 : 0 ≤ J 62 0 2 ∧ J 62 0 2 ≤ 8 := hI.mk.r2
    have f3_2 : J 3 0 2 = J 62 0 2 := hI.mk.set 2 (by decide)
    refine qm_G.s1 rfl (qm_x_iald (v := (J 3 0 2)) (qm_arS hS rfl rfl) rfl (by decide) (by decide) (by decide) rfl) ?_
    refine qm_G.cm rfl rfl (hS 11 rfl) rfl ?_
    rw [f3_2]
    refine qm_d_last2 hS hR rfl rc9 rk9 rn9 r39 ⟨_, rfl, ?_⟩
    rw [← hO]
    refine qm_G.s1 rfl (qm_x_istore (lv' := [(4, qm_I (qm_i O)), (3, qm_I (qm_i M)), (2, qm_I (qm_i F)), (1, qm_R (some (0, 11, 0))), (0, qm_R (some (0, 0, 0)))]) rfl) ?_
    refine qm_G.s1 rfl (qm_x_aload rfl) ?_
    refine qm_G.s1 rfl (qm_x_getfR (q := (some (0, 35, 0))) (hS 0 rfl) (hR 0 3 35 rfl rfl)) ?_
    refine qm_G.s1 rfl (qm_x_aload rfl) ?_
    refine qm_G.s1 rfl (qm_x_getfR (q := (some (0, 1, 0))) (hS 0 rfl) (hR 0 0 1 rfl rfl)) ?_
    refine qm_G.s1 rfl (qm_x_getfR (q := (some (0, 2, 0))) (hS 1 rfl) (hR 1 0 2 rfl rfl)) ?_
    refine qm_G.s1 rfl (qm_x_aload rfl) ?_
    refine qm_G.cm rfl rfl (hS 11 rfl) rfl ?_
    refine qm_d_gone hS hR rfl rc9 rk9 rn9 r39 ⟨_, rfl, ?_⟩
    rw [← hG]
    refine qm_G.cmv rfl rfl (hS 35 rfl) rfl ?_
    refine qm_d_look hS hR hM rG (fun J2 ej2 c2 d2 => ⟨rfl, ?_⟩)
    refine qm_G.s1 rfl (qm_x_aload rfl) ?_
    refine qm_G.s1 rfl (qm_x_getfR (q := (some (0, 35, 0))) (hS 0 rfl) (hR 0 3 35 rfl rfl)) ?_
    refine qm_G.s1 rfl (qm_x_iload rfl) ?_
    refine qm_G.s1 rfl (qm_x_iload rfl) ?_
    refine qm_G.s1 rfl (qm_x_iload rfl) ?_
    refine qm_G.cmv rfl rfl (hS 35 rfl) rfl ?_
    refine qm_d_solve (lim := M) (fine := F) hS hR rM rF rO c2 d2 (fun z a b => qm_ch_rng hN (by decide) ⟨a, b⟩) (fun z a b => qm_ch_rng hN (by decide) ⟨a, b⟩) (fun J3 L3 ej3 l3 fl3 t3 => ⟨rfl, ?_⟩)
    unfold qm_TV at t3
    rw [← hW] at t3
    refine qm_G.s1 rfl (qm_x_aload rfl) ?_
    refine qm_G.s1 rfl (qm_x_getfR (q := (some (0, 35, 0))) (hS 0 rfl) (hR 0 3 35 rfl rfl)) ?_
    refine qm_G.s1 rfl (qm_x_pushI 0 rfl) ?_
    refine qm_G.s1 rfl (qm_x_iload rfl) ?_
    refine qm_G.cm rfl rfl (hS 35 rfl) rfl ?_
    refine qm_C.go (cd := qm_P35) (lv := [(0, qm_R (some (0, 35, 0))), (1, qm_I (qm_i 0)), (2, qm_I (qm_i O))]) rfl rfl ?_
    refine qm_G.s1 rfl (qm_x_aload rfl) ?_
    refine qm_G.s1 rfl (qm_x_getfR (q := (some (0, 37, 0))) (hS 35 rfl) (hR 35 1 37 rfl rfl)) ?_
    refine qm_G.s1 rfl (qm_x_iload rfl) ?_
    refine qm_G.s1 rfl (qm_x_aaldg (hS 37 rfl) rfl rfl (by omega) (by omega)) ?_
    refine qm_G.s1 rfl (qm_x_iload rfl) ?_
    refine qm_G.s1 rfl (qm_x_pushI 8 rfl) ?_
    refine qm_G.s1 rfl (qm_x_iadd) ?_
    refine qm_G.s1 rfl (qm_x_lald (a := ((W (Int.toNat O) 0).1)) (qm_arS hS rfl rfl) rfl (by decide) (by decide) (by omega) (t3 O 0 (by omega) (Or.inl (by omega)) (by omega) (by omega)).1) ?_
    refine qm_G.ret rfl rfl ⟨_, rfl, ?_⟩
    refine qm_G.ret rfl rfl ⟨_, rfl, ?_⟩
    refine qm_G.s1 rfl (qm_x_aload rfl) ?_
    refine qm_G.cm rfl rfl (hS 61 rfl) rfl ?_
    refine qm_C.go (cd := qm_P188) (lv := [(0, qm_R (some (0, 61, 0)))]) rfl rfl ?_
    refine qm_G.s1 rfl (qm_x_aload rfl) ?_
    refine qm_G.s1 rfl (qm_x_getfR (q := (some (0, 62, 0))) (hS 61 rfl) (hR 61 0 62 rfl rfl)) ?_
    refine qm_G.s1 rfl (qm_x_pushI 3 rfl) ?_
    refine qm_G.s1 rfl (qm_x_iald (v := (J 62 0 3)) (qm_arS hS rfl rfl) rfl (by decide) (by decide) (by decide) (Eq.trans (ej3 62 0 3 (by omega)) (ej2 62 0 3 (by omega)))) ?_
    refine qm_G.s1 rfl (qm_x_istore (lv' := [(1, qm_I (qm_i (J 62 0 3))), (0, qm_R (some (0, 61, 0)))]) rfl) ?_
    refine qm_G.s1 rfl (qm_x_aload rfl) ?_
    refine qm_G.s1 rfl (qm_x_getfR (q := (some (0, 62, 0))) (hS 61 rfl) (hR 61 0 62 rfl rfl)) ?_
    refine qm_G.s1 rfl (qm_x_pushI 1 rfl) ?_
    refine qm_G.s1 rfl (qm_x_iald (v := (J 62 0 1)) (qm_arS hS rfl rfl) rfl (by decide) (by decide) (by decide) (Eq.trans (ej3 62 0 1 (by omega)) (ej2 62 0 1 (by omega)))) ?_
    refine qm_G.s1 rfl (qm_x_istore (lv' := [(2, qm_I (qm_i (J 62 0 1))), (1, qm_I (qm_i (J 62 0 3))), (0, qm_R (some (0, 61, 0)))]) rfl) ?_
    refine qm_G.s1 rfl (qm_x_aload rfl) ?_
    refine qm_G.s1 rfl (qm_x_getfR (q := (some (0, 62, 0))) (hS 61 rfl) (hR 61 0 62 rfl rfl)) ?_
    refine qm_G.s1 rfl (qm_x_pushI 2 rfl) ?_
    refine qm_G.s1 rfl (qm_x_iald (v := (J 62 0 2)) (qm_arS hS rfl rfl) rfl (by decide) (by decide) (by decide) (Eq.trans (ej3 62 0 2 (by omega)) (ej2 62 0 2 (by omega)))) ?_
    refine qm_G.s1 rfl (qm_x_istore (lv' := [(3, qm_I (qm_i (J 62 0 2))), (2, qm_I (qm_i (J 62 0 1))), (1, qm_I (qm_i (J 62 0 3))), (0, qm_R (some (0, 61, 0)))]) rfl) ?_
    refine qm_G.s1 rfl (qm_x_pushI 50 rfl) ?_
    refine qm_G.s1 rfl (qm_x_pushI 4 rfl) ?_
    refine qm_G.s1 rfl (qm_x_aload rfl) ?_
    refine qm_G.s1 rfl (qm_x_getfR (q := (some (0, 62, 0))) (hS 61 rfl) (hR 61 0 62 rfl rfl)) ?_
    refine qm_G.s1 rfl (qm_x_pushI 6 rfl) ?_
    refine qm_G.s1 rfl (qm_x_iald (v := 1) (qm_arS hS rfl rfl) rfl (by decide) (by decide) (by decide) (Eq.trans (Eq.trans (ej3 62 0 6 (by omega)) (ej2 62 0 6 (by omega))) h6)) ?_
    refine qm_G.s1 rfl (qm_x_imul) ?_
    refine qm_G.s1 rfl (qm_x_iadd) ?_
    refine qm_G.s1 rfl (qm_x_istore (lv' := [(4, qm_I (qm_i (50 + (4 * 1)))), (3, qm_I (qm_i (J 62 0 2))), (2, qm_I (qm_i (J 62 0 1))), (1, qm_I (qm_i (J 62 0 3))), (0, qm_R (some (0, 61, 0)))]) rfl) ?_
    refine qm_G.s1 rfl (qm_x_aload rfl) ?_
    refine qm_G.s1 rfl (qm_x_getfR (q := (some (0, 62, 0))) (hS 61 rfl) (hR 61 0 62 rfl rfl)) ?_
    refine qm_G.s1 rfl (qm_x_iload rfl) ?_
    refine qm_G.s1 rfl (qm_x_iald (v := (J 62 0 54)) (qm_arS hS rfl rfl) rfl (by decide) (by decide) (by decide) (Eq.trans (ej3 62 0 54 (by omega)) (ej2 62 0 54 (by omega)))) ?_
    refine qm_G.s1 rfl (qm_x_istore (lv' := [(5, qm_I (qm_i (J 62 0 54))), (4, qm_I (qm_i (50 + (4 * 1)))), (3, qm_I (qm_i (J 62 0 2))), (2, qm_I (qm_i (J 62 0 1))), (1, qm_I (qm_i (J 62 0 3))), (0, qm_R (some (0, 61, 0)))]) rfl) ?_
    refine qm_G.s1 rfl (qm_x_aload rfl) ?_
    refine qm_G.s1 rfl (qm_x_getfR (q := (some (0, 62, 0))) (hS 61 rfl) (hR 61 0 62 rfl rfl)) ?_
    refine qm_G.s1 rfl (qm_x_iload rfl) ?_
    refine qm_G.s1 rfl (qm_x_pushI 1 rfl) ?_
    refine qm_G.s1 rfl (qm_x_iadd) ?_
    refine qm_G.s1 rfl (qm_x_iald (v := (J 62 0 55)) (qm_arS hS rfl rfl) rfl (by decide) (by decide) (by decide) (Eq.trans (ej3 62 0 55 (by omega)) (ej2 62 0 55 (by omega)))) ?_
    refine qm_G.s1 rfl (qm_x_istore (lv' := [(6, qm_I (qm_i (J 62 0 55))), (5, qm_I (qm_i (J 62 0 54))), (4, qm_I (qm_i (50 + (4 * 1)))), (3, qm_I (qm_i (J 62 0 2))), (2, qm_I (qm_i (J 62 0 1))), (1, qm_I (qm_i (J 62 0 3))), (0, qm_R (some (0, 61, 0)))]) rfl) ?_
    refine qm_G.s1 rfl (qm_x_aload rfl) ?_
    refine qm_G.s1 rfl (qm_x_getfR (q := (some (0, 62, 0))) (hS 61 rfl) (hR 61 0 62 rfl rfl)) ?_
    refine qm_G.s1 rfl (qm_x_iload rfl) ?_
    refine qm_G.s1 rfl (qm_x_pushI 2 rfl) ?_
    refine qm_G.s1 rfl (qm_x_iadd) ?_
    refine qm_G.s1 rfl (qm_x_iald (v := (J 62 0 56)) (qm_arS hS rfl rfl) rfl (by decide) (by decide) (by decide) (Eq.trans (ej3 62 0 56 (by omega)) (ej2 62 0 56 (by omega)))) ?_
    refine qm_G.s1 rfl (qm_x_istore (lv' := [(7, qm_I (qm_i (J 62 0 56))), (6, qm_I (qm_i (J 62 0 55))), (5, qm_I (qm_i (J 62 0 54))), (4, qm_I (qm_i (50 + (4 * 1)))), (3, qm_I (qm_i (J 62 0 2))), (2, qm_I (qm_i (J 62 0 1))), (1, qm_I (qm_i (J 62 0 3))), (0, qm_R (some (0, 61, 0)))]) rfl) ?_
    refine qm_G.s1 rfl (qm_x_aload rfl) ?_
    refine qm_G.s1 rfl (qm_x_getfR (q := (some (0, 62, 0))) (hS 61 rfl) (hR 61 0 62 rfl rfl)) ?_
    refine qm_G.s1 rfl (qm_x_iload rfl) ?_
    refine qm_G.s1 rfl (qm_x_pushI 3 rfl) ?_
    refine qm_G.s1 rfl (qm_x_iadd) ?_
    refine qm_G.s1 rfl (qm_x_iald (v := (J 62 0 57)) (qm_arS hS rfl rfl) rfl (by decide) (by decide) (by decide) (Eq.trans (ej3 62 0 57 (by omega)) (ej2 62 0 57 (by omega)))) ?_
    refine qm_G.s1 rfl (qm_x_istore (lv' := [(8, qm_I (qm_i (J 62 0 57))), (7, qm_I (qm_i (J 62 0 56))), (6, qm_I (qm_i (J 62 0 55))), (5, qm_I (qm_i (J 62 0 54))), (4, qm_I (qm_i (50 + (4 * 1)))), (3, qm_I (qm_i (J 62 0 2))), (2, qm_I (qm_i (J 62 0 1))), (1, qm_I (qm_i (J 62 0 3))), (0, qm_R (some (0, 61, 0)))]) rfl) ?_
    refine qm_G.s1 rfl (qm_x_pushI 0 rfl) ?_
    refine qm_G.s1 rfl (qm_x_istore (lv' := [(9, qm_I (qm_i 0)), (8, qm_I (qm_i (J 62 0 57))), (7, qm_I (qm_i (J 62 0 56))), (6, qm_I (qm_i (J 62 0 55))), (5, qm_I (qm_i (J 62 0 54))), (4, qm_I (qm_i (50 + (4 * 1)))), (3, qm_I (qm_i (J 62 0 2))), (2, qm_I (qm_i (J 62 0 1))), (1, qm_I (qm_i (J 62 0 3))), (0, qm_R (some (0, 61, 0)))]) rfl) ?_
    refine qm_G.pk (lv1 := [(0, qm_R (some (0, 61, 0))), (1, qm_I (qm_i (J 62 0 3))), (2, qm_I (qm_i (J 62 0 1))), (3, qm_I (qm_i (J 62 0 2))), (4, qm_I (qm_i 54)), (5, qm_I (qm_i (J 62 0 54))), (6, qm_I (qm_i (J 62 0 55))), (7, qm_I (qm_i (J 62 0 56))), (8, qm_I (qm_i (J 62 0 57))), (9, qm_I (qm_i 0))]) rfl rfl rfl ?_
    refine qm_m_ev1 (N := J 62 0) (kd := J 15 0) (nm := J 16 0) (cnt := J 11 0 6) hS hR rc9 rk9 rn9 r39 (Int.toNat (J 11 0 6)) 0 (J 62 0 3) (J 62 0 1) (J 62 0 2) 0 J3 (by omega) (by decide) (by decide) (((ej3 62 0 13 (by omega)).trans (ej2 62 0 13 (by omega))).trans hI.nt.ec.symm) (fun j hj => ⟨((ej3 62 0 _ (by omega)).trans (ej2 62 0 _ (by omega))).trans (hI.nt.evt j hj).1.symm, ((ej3 62 0 _ (by omega)).trans (ej2 62 0 _ (by omega))).trans (hI.nt.evt j hj).2.symm⟩) ((ej3 62 0 3 (by omega)).trans (ej2 62 0 3 (by omega))) ((ej3 62 0 1 (by omega)).trans (ej2 62 0 1 (by omega))) ((ej3 62 0 2 (by omega)).trans (ej2 62 0 2 (by omega))) (fun m hm => by rw [((ej3 62 0 _ (by omega)).trans (ej2 62 0 _ (by omega))), Int.zero_ediv, if_neg (by decide)]) (fun J4 ej4 f4 m4 o4 d4 => ?_)
    replace f4 : J4 62 0 3 = F := f4.trans hF.symm
    replace m4 : J4 62 0 1 = M := m4.trans hM1.symm
    replace o4 : J4 62 0 2 = O := o4.trans hO.symm
    replace d4 : ∀ m : Nat, m < 4 → J4 62 0 (54 + m) = if G / qm_p2 m % 2 = 1 then -5 else J 62 0 (54 + m) := fun m hm => (d4 m hm).trans (by rw [hG]; rfl)
    have k4 : ∀ i, ¬ (1 ≤ i ∧ i ≤ 3 ∨ 54 ≤ i ∧ i < 58) → J4 62 0 i = J 62 0 i := fun i hi => by rw [ej4 62 0 i (by omega), ej3 62 0 i (by omega), ej2 62 0 i (by omega)]
    refine qm_G.sp (lv1 := [(0, qm_R (some (0, 61, 0))), (1, qm_I (qm_i (J 62 0 3))), (2, qm_I (qm_i (J 62 0 1))), (3, qm_I (qm_i (J 62 0 2))), (4, qm_I (qm_i 54)), (5, qm_I (qm_i (J 62 0 54))), (6, qm_I (qm_i (J 62 0 55))), (7, qm_I (qm_i (J 62 0 56))), (8, qm_I (qm_i (J 62 0 57)))]) rfl rfl (qm_x_aload rfl) ?_
    refine qm_G.cmv rfl rfl (hS 61 rfl) rfl ?_
    have hN4 : qm_Nk (J4 62 0) := by
      refine ⟨by rw [m4]; exact rM, by rw [o4]; exact rO, by rw [f4]; exact rF, by rw [k4 6 (by omega)]; exact hN.str, by rw [k4 7 (by omega)]; exact hN.cnt, fun d hd => by rw [k4 (14 + d) (by omega)]; exact hN.odd d hd, fun q hq => ?_, fun r h1 h2 => ?_⟩
      · by_cases c : 54 ≤ 50 + q ∧ 50 + q < 58
        · have h9 := d4 (50 + q - 54) (by omega)
          rw [show 54 + (50 + q - 54) = 50 + q by omega] at h9
          rw [h9, k4 7 (by omega)]
          split
          · exact Or.inl rfl
          · exact hN.dek q hq
        · rw [k4 (50 + q) (by omega), k4 7 (by omega)]; exact hN.dek q hq
      · rw [k4 7 (by omega)] at h2
        rw [k4 (26 + 3 * r) (by omega), k4 (27 + 3 * r) (by omega), k4 (28 + 3 * r) (by omega)]; exact hN.riv r h1 h2
    refine qm_m_values hS hR hN4 (fun J5 L5 ej5 fl5 b5 t5 => ⟨rfl, ?_⟩)
    have cg : ∀ sd z : Int, 0 ≤ sd ∧ sd ≤ 1 → 0 ≤ z → z ≤ 6 → qm_ch (J4 62 0) 0 sd z = qm_ch (J 62 0) G sd z := fun sd z h1 h2 h3 => qm_ch_gone hN h1 ⟨h2, h3⟩ rG (fun i h4 h5 => k4 i (by omega)) (k4 6 (by omega)) (fun m hm => by rw [c6]; exact d4 m hm)
    have t6 : ∀ t x : Int, 0 ≤ t → t < 9 → -M ≤ x → x ≤ M → L5 64 0 (Int.toNat (17 * t + 8 + x)) = (W (Int.toNat t) x).1 := fun t x h0 h1 h2 h3 => by
      have h9 := (t5 t x h0 (Or.inl h1) (by rw [m4]; exact h2) (by rw [m4]; exact h3)).1
      rw [m4, f4, qm_VB_congr (fun z a b => cg 0 z (by decide) a b) (fun z a b => cg 1 z (by decide) a b), ← hW] at h9
      exact h9
    refine qm_G.s1 rfl (qm_x_aload rfl) ?_
    refine qm_G.s1 rfl (qm_x_getfR (q := (some (0, 64, 0))) (hS 61 rfl) (hR 61 7 64 rfl rfl)) ?_
    refine qm_G.s1 rfl (qm_x_aload rfl) ?_
    refine qm_G.s1 rfl (qm_x_getfR (q := (some (0, 62, 0))) (hS 61 rfl) (hR 61 0 62 rfl rfl)) ?_
    refine qm_G.s1 rfl (qm_x_pushI 2 rfl) ?_
    refine qm_G.s1 rfl (qm_x_iald (v := O) (qm_arS hS rfl rfl) rfl (by decide) (by decide) (by decide) (Eq.trans (ej5 62 0 2 (by omega)) o4)) ?_
    refine qm_G.s1 rfl (qm_x_pushI 0 rfl) ?_
    refine qm_G.cs rfl rfl rfl ?_
    refine qm_C.go (cd := qm_P24) (lv := [(0, qm_I (qm_i O)), (1, qm_I (qm_i 0))]) rfl rfl ?_
    refine qm_G.s1 rfl (qm_x_pushI 17 rfl) ?_
    refine qm_G.s1 rfl (qm_x_iload rfl) ?_
    refine qm_G.s1 rfl (qm_x_imul) ?_
    refine qm_G.s1 rfl (qm_x_pushI 8 rfl) ?_
    refine qm_G.s1 rfl (qm_x_iadd) ?_
    refine qm_G.s1 rfl (qm_x_iload rfl) ?_
    refine qm_G.s1 rfl (qm_x_iadd) ?_
    refine qm_G.ret rfl rfl ⟨_, rfl, ?_⟩
    refine qm_G.s1 rfl (qm_x_lald (a := ((W (Int.toNat O) 0).1)) (qm_arS hS rfl rfl) rfl (by omega) (by omega) (by decide) (Eq.trans (congrArg (L5 64 0) (by omega)) (t6 O 0 (by omega) (by omega) (by omega) (by omega)))) ?_
    refine qm_G.s1 rfl (qm_x_lstore (lv' := [(9, qm_L ((W (Int.toNat O) 0).1)), (0, qm_R (some (0, 61, 0))), (1, qm_I (qm_i (J 62 0 3))), (2, qm_I (qm_i (J 62 0 1))), (3, qm_I (qm_i (J 62 0 2))), (4, qm_I (qm_i 54)), (5, qm_I (qm_i (J 62 0 54))), (6, qm_I (qm_i (J 62 0 55))), (7, qm_I (qm_i (J 62 0 56))), (8, qm_I (qm_i (J 62 0 57)))]) rfl) ?_
    refine qm_G.s1 rfl (qm_x_aload rfl) ?_
    refine qm_G.s1 rfl (qm_x_getfR (q := (some (0, 62, 0))) (hS 61 rfl) (hR 61 0 62 rfl rfl)) ?_
    refine qm_G.s1 rfl (qm_x_pushI 3 rfl) ?_
    refine qm_G.s1 rfl (qm_x_iload rfl) ?_
    refine qm_G.s1 rfl (qm_x_iast (qm_arS hS rfl rfl) rfl (by decide) (by decide) (by decide)) ?_
    refine qm_G.s1 rfl (qm_x_aload rfl) ?_
    refine qm_G.s1 rfl (qm_x_getfR (q := (some (0, 62, 0))) (hS 61 rfl) (hR 61 0 62 rfl rfl)) ?_
    refine qm_G.s1 rfl (qm_x_pushI 1 rfl) ?_
    refine qm_G.s1 rfl (qm_x_iload rfl) ?_
    refine qm_G.s1 rfl (qm_x_iast (qm_arS hS rfl rfl) rfl (by decide) (by decide) (by decide)) ?_
    refine qm_G.s1 rfl (qm_x_aload rfl) ?_
    refine qm_G.s1 rfl (qm_x_getfR (q := (some (0, 62, 0))) (hS 61 rfl) (hR 61 0 62 rfl rfl)) ?_
    refine qm_G.s1 rfl (qm_x_pushI 2 rfl) ?_
    refine qm_G.s1 rfl (qm_x_iload rfl) ?_
    refine qm_G.s1 rfl (qm_x_iast (qm_arS hS rfl rfl) rfl (by decide) (by decide) (by decide)) ?_
    refine qm_G.s1 rfl (qm_x_aload rfl) ?_
    refine qm_G.s1 rfl (qm_x_getfR (q := (some (0, 62, 0))) (hS 61 rfl) (hR 61 0 62 rfl rfl)) ?_
    refine qm_G.s1 rfl (qm_x_iload rfl) ?_
    refine qm_G.s1 rfl (qm_x_iload rfl) ?_
    refine qm_G.s1 rfl (qm_x_iast (qm_arS hS rfl rfl) rfl (by decide) (by decide) (by decide)) ?_
    refine qm_G.s1 rfl (qm_x_aload rfl) ?_
    refine qm_G.s1 rfl (qm_x_getfR (q := (some (0, 62, 0))) (hS 61 rfl) (hR 61 0 62 rfl rfl)) ?_
    refine qm_G.s1 rfl (qm_x_iload rfl) ?_
    refine qm_G.s1 rfl (qm_x_pushI 1 rfl) ?_
    refine qm_G.s1 rfl (qm_x_iadd) ?_
    refine qm_G.s1 rfl (qm_x_iload rfl) ?_
    refine qm_G.s1 rfl (qm_x_iast (qm_arS hS rfl rfl) rfl (by decide) (by decide) (by decide)) ?_
    refine qm_G.s1 rfl (qm_x_aload rfl) ?_
    refine qm_G.s1 rfl (qm_x_getfR (q := (some (0, 62, 0))) (hS 61 rfl) (hR 61 0 62 rfl rfl)) ?_
    refine qm_G.s1 rfl (qm_x_iload rfl) ?_
    refine qm_G.s1 rfl (qm_x_pushI 2 rfl) ?_
    refine qm_G.s1 rfl (qm_x_iadd) ?_
    refine qm_G.s1 rfl (qm_x_iload rfl) ?_
    refine qm_G.s1 rfl (qm_x_iast (qm_arS hS rfl rfl) rfl (by decide) (by decide) (by decide)) ?_
    refine qm_G.s1 rfl (qm_x_aload rfl) ?_
    refine qm_G.s1 rfl (qm_x_getfR (q := (some (0, 62, 0))) (hS 61 rfl) (hR 61 0 62 rfl rfl)) ?_
    refine qm_G.s1 rfl (qm_x_iload rfl) ?_
    refine qm_G.s1 rfl (qm_x_pushI 3 rfl) ?_
    refine qm_G.s1 rfl (qm_x_iadd) ?_
    refine qm_G.s1 rfl (qm_x_iload rfl) ?_
    refine qm_G.s1 rfl (qm_x_iast (qm_arS hS rfl rfl) rfl (by decide) (by decide) (by decide)) ?_
    refine qm_G.s1 rfl (qm_x_lload rfl) ?_
    refine qm_G.ret rfl rfl ⟨_, rfl, ?_⟩
    refine qm_G.s1 rfl (qm_x_lcmp_eq rfl) ?_
    refine qm_G.s1 rfl (qm_x_if_eq_t ⟨by decide, by decide⟩ (by decide)) ?_
    have e9 : ∀ r s i, ¬ qm_wJ r i → (qm_set (qm_set (qm_set (qm_set (qm_set (qm_set (qm_set J5 62 0 3 (J 62 0 3)) 62 0 1 (J 62 0 1)) 62 0 2 (J 62 0 2)) 62 0 54 (J 62 0 54)) 62 0 55 (J 62 0 55)) 62 0 56 (J 62 0 56)) 62 0 57 (J 62 0 57)) r s i = J r s i := by
      intro r s i h
      by_cases c : r = 62 ∧ s = 0 ∧ (i = 3 ∨ i = 1 ∨ i = 2 ∨ i = 54 ∨ i = 55 ∨ i = 56 ∨ i = 57)
      · obtain ⟨c1, c2, c3⟩ := c
        subst c1 c2
        rcases c3 with c | c | c | c | c | c | c <;> subst c <;> simp [qm_set]
      · unfold qm_wJ at h
        rw [qm_st_ne (by omega), qm_st_ne (by omega), qm_st_ne (by omega), qm_st_ne (by omega), qm_st_ne (by omega), qm_st_ne (by omega), qm_st_ne (by omega), ej5 r s i (by omega), ej4 r s i (by omega), ej3 r s i (by omega), ej2 r s i (by omega)]
    exact ih _ _ _ _ _ _ (hI.scr e9 (fun r s i h => ((fl5 r s i (by omega)).trans (fl3 r s i (by omega)))) (fun _ _ _ _ => rfl))
  · have c6 : 50 + 4 * Int.toNat (J 62 0 6) = 58 := by omega
    refine qm_G.sp (lv1 := [(0, qm_R (some (2, 0, 0))), (1, qm_R (some (0, 0, 0))), (2, qm_R (some (0, 61, 0))), (3, qm_I (qm_i z))]) rfl rfl (qm_x_aload rfl) ?_
    refine qm_G.cm rfl rfl (hS 0 rfl) rfl ?_
    refine qm_C.go (cd := qm_P203) (lv := [(0, qm_R (some (0, 0, 0)))]) rfl rfl ?_
    refine qm_G.s1 rfl (qm_x_aload rfl) ?_
    refine qm_G.s1 rfl (qm_x_getfR (q := (some (0, 1, 0))) (hS 0 rfl) (hR 0 0 1 rfl rfl)) ?_
    refine qm_G.s1 rfl (qm_x_getfR (q := (some (0, 11, 0))) (hS 1 rfl) (hR 1 2 11 rfl rfl)) ?_
    refine qm_G.s1 rfl (qm_x_astore (lv' := [(1, qm_R (some (0, 11, 0))), (0, qm_R (some (0, 0, 0)))]) rfl) ?_
    refine qm_G.s1 rfl (qm_x_aload rfl) ?_
    refine qm_G.s1 rfl (qm_x_pushI 3 rfl) ?_
    refine qm_G.s1 rfl (qm_x_aload rfl) ?_
    refine qm_G.s1 rfl (qm_x_getfR (q := (some (0, 1, 0))) (hS 0 rfl) (hR 0 0 1 rfl rfl)) ?_
    refine qm_G.s1 rfl (qm_x_getfR (q := (some (0, 2, 0))) (hS 1 rfl) (hR 1 0 2 rfl rfl)) ?_
    refine qm_G.s1 rfl (qm_x_getfR (q := (some (0, 3, 0))) (hS 2 rfl) (hR 2 0 3 rfl rfl)) ?_
    refine qm_G.s1 rfl (qm_x_pushI 3 rfl) ?_
    have f62_3 : 0 ≤ J 62 0 3 ∧ J 62 0 3 ≤ 99 := hI.mk.r3
    have f3_3 : J 3 0 3 = J 62 0 3 := hI.mk.set 3 (by decide)
    refine qm_G.s1 rfl (qm_x_iald (v := (J 3 0 3)) (qm_arS hS rfl rfl) rfl (by decide) (by decide) (by decide) rfl) ?_
    refine qm_G.cm rfl rfl (hS 11 rfl) rfl ?_
    rw [f3_3]
    refine qm_d_last0 hS hR rfl rc9 rk9 rn9 r39 ⟨_, rfl, ?_⟩
    rw [← hF]
    refine qm_G.s1 rfl (qm_x_istore (lv' := [(2, qm_I (qm_i F)), (1, qm_R (some (0, 11, 0))), (0, qm_R (some (0, 0, 0)))]) rfl) ?_
    refine qm_G.s1 rfl (qm_x_aload rfl) ?_
    refine qm_G.s1 rfl (qm_x_pushI 1 rfl) ?_
    refine qm_G.s1 rfl (qm_x_aload rfl) ?_
    refine qm_G.s1 rfl (qm_x_getfR (q := (some (0, 1, 0))) (hS 0 rfl) (hR 0 0 1 rfl rfl)) ?_
    refine qm_G.s1 rfl (qm_x_getfR (q := (some (0, 2, 0))) (hS 1 rfl) (hR 1 0 2 rfl rfl)) ?_
    refine qm_G.s1 rfl (qm_x_getfR (q := (some (0, 3, 0))) (hS 2 rfl) (hR 2 0 3 rfl rfl)) ?_
    refine qm_G.s1 rfl (qm_x_pushI 1 rfl) ?_
    have f62_1 : 1 ≤ J 62 0 1 ∧ J 62 0 1 ≤ 8 := hI.mk.r1
    have f3_1 : J 3 0 1 = J 62 0 1 := hI.mk.set 1 (by decide)
    refine qm_G.s1 rfl (qm_x_iald (v := (J 3 0 1)) (qm_arS hS rfl rfl) rfl (by decide) (by decide) (by decide) rfl) ?_
    refine qm_G.cm rfl rfl (hS 11 rfl) rfl ?_
    rw [f3_1]
    refine qm_d_last1 hS hR rfl rc9 rk9 rn9 r39 ⟨_, rfl, ?_⟩
    rw [← hM1]
    refine qm_G.s1 rfl (qm_x_istore (lv' := [(3, qm_I (qm_i M)), (2, qm_I (qm_i F)), (1, qm_R (some (0, 11, 0))), (0, qm_R (some (0, 0, 0)))]) rfl) ?_
    refine qm_G.s1 rfl (qm_x_aload rfl) ?_
    refine qm_G.s1 rfl (qm_x_pushI 2 rfl) ?_
    refine qm_G.s1 rfl (qm_x_aload rfl) ?_
    refine qm_G.s1 rfl (qm_x_getfR (q := (some (0, 1, 0))) (hS 0 rfl) (hR 0 0 1 rfl rfl)) ?_
    refine qm_G.s1 rfl (qm_x_getfR (q := (some (0, 2, 0))) (hS 1 rfl) (hR 1 0 2 rfl rfl)) ?_
    refine qm_G.s1 rfl (qm_x_getfR (q := (some (0, 3, 0))) (hS 2 rfl) (hR 2 0 3 rfl rfl)) ?_
    refine qm_G.s1 rfl (qm_x_pushI 2 rfl) ?_
    have f62_2 : 0 ≤ J 62 0 2 ∧ J 62 0 2 ≤ 8 := hI.mk.r2
    have f3_2 : J 3 0 2 = J 62 0 2 := hI.mk.set 2 (by decide)
    refine qm_G.s1 rfl (qm_x_iald (v := (J 3 0 2)) (qm_arS hS rfl rfl) rfl (by decide) (by decide) (by decide) rfl) ?_
    refine qm_G.cm rfl rfl (hS 11 rfl) rfl ?_
    rw [f3_2]
    refine qm_d_last2 hS hR rfl rc9 rk9 rn9 r39 ⟨_, rfl, ?_⟩
    rw [← hO]
    refine qm_G.s1 rfl (qm_x_istore (lv' := [(4, qm_I (qm_i O)), (3, qm_I (qm_i M)), (2, qm_I (qm_i F)), (1, qm_R (some (0, 11, 0))), (0, qm_R (some (0, 0, 0)))]) rfl) ?_
    refine qm_G.s1 rfl (qm_x_aload rfl) ?_
    refine qm_G.s1 rfl (qm_x_getfR (q := (some (0, 35, 0))) (hS 0 rfl) (hR 0 3 35 rfl rfl)) ?_
    refine qm_G.s1 rfl (qm_x_aload rfl) ?_
    refine qm_G.s1 rfl (qm_x_getfR (q := (some (0, 1, 0))) (hS 0 rfl) (hR 0 0 1 rfl rfl)) ?_
    refine qm_G.s1 rfl (qm_x_getfR (q := (some (0, 2, 0))) (hS 1 rfl) (hR 1 0 2 rfl rfl)) ?_
    refine qm_G.s1 rfl (qm_x_aload rfl) ?_
    refine qm_G.cm rfl rfl (hS 11 rfl) rfl ?_
    refine qm_d_gone hS hR rfl rc9 rk9 rn9 r39 ⟨_, rfl, ?_⟩
    rw [← hG]
    refine qm_G.cmv rfl rfl (hS 35 rfl) rfl ?_
    refine qm_d_look hS hR hM rG (fun J2 ej2 c2 d2 => ⟨rfl, ?_⟩)
    refine qm_G.s1 rfl (qm_x_aload rfl) ?_
    refine qm_G.s1 rfl (qm_x_getfR (q := (some (0, 35, 0))) (hS 0 rfl) (hR 0 3 35 rfl rfl)) ?_
    refine qm_G.s1 rfl (qm_x_iload rfl) ?_
    refine qm_G.s1 rfl (qm_x_iload rfl) ?_
    refine qm_G.s1 rfl (qm_x_iload rfl) ?_
    refine qm_G.cmv rfl rfl (hS 35 rfl) rfl ?_
    refine qm_d_solve (lim := M) (fine := F) hS hR rM rF rO c2 d2 (fun z a b => qm_ch_rng hN (by decide) ⟨a, b⟩) (fun z a b => qm_ch_rng hN (by decide) ⟨a, b⟩) (fun J3 L3 ej3 l3 fl3 t3 => ⟨rfl, ?_⟩)
    unfold qm_TV at t3
    rw [← hW] at t3
    refine qm_G.s1 rfl (qm_x_aload rfl) ?_
    refine qm_G.s1 rfl (qm_x_getfR (q := (some (0, 35, 0))) (hS 0 rfl) (hR 0 3 35 rfl rfl)) ?_
    refine qm_G.s1 rfl (qm_x_pushI 0 rfl) ?_
    refine qm_G.s1 rfl (qm_x_iload rfl) ?_
    refine qm_G.cm rfl rfl (hS 35 rfl) rfl ?_
    refine qm_C.go (cd := qm_P35) (lv := [(0, qm_R (some (0, 35, 0))), (1, qm_I (qm_i 0)), (2, qm_I (qm_i O))]) rfl rfl ?_
    refine qm_G.s1 rfl (qm_x_aload rfl) ?_
    refine qm_G.s1 rfl (qm_x_getfR (q := (some (0, 37, 0))) (hS 35 rfl) (hR 35 1 37 rfl rfl)) ?_
    refine qm_G.s1 rfl (qm_x_iload rfl) ?_
    refine qm_G.s1 rfl (qm_x_aaldg (hS 37 rfl) rfl rfl (by omega) (by omega)) ?_
    refine qm_G.s1 rfl (qm_x_iload rfl) ?_
    refine qm_G.s1 rfl (qm_x_pushI 8 rfl) ?_
    refine qm_G.s1 rfl (qm_x_iadd) ?_
    refine qm_G.s1 rfl (qm_x_lald (a := ((W (Int.toNat O) 0).1)) (qm_arS hS rfl rfl) rfl (by decide) (by decide) (by omega) (t3 O 0 (by omega) (Or.inl (by omega)) (by omega) (by omega)).1) ?_
    refine qm_G.ret rfl rfl ⟨_, rfl, ?_⟩
    refine qm_G.ret rfl rfl ⟨_, rfl, ?_⟩
    refine qm_G.s1 rfl (qm_x_aload rfl) ?_
    refine qm_G.cm rfl rfl (hS 61 rfl) rfl ?_
    refine qm_C.go (cd := qm_P188) (lv := [(0, qm_R (some (0, 61, 0)))]) rfl rfl ?_
    refine qm_G.s1 rfl (qm_x_aload rfl) ?_
    refine qm_G.s1 rfl (qm_x_getfR (q := (some (0, 62, 0))) (hS 61 rfl) (hR 61 0 62 rfl rfl)) ?_
    refine qm_G.s1 rfl (qm_x_pushI 3 rfl) ?_
    refine qm_G.s1 rfl (qm_x_iald (v := (J 62 0 3)) (qm_arS hS rfl rfl) rfl (by decide) (by decide) (by decide) (Eq.trans (ej3 62 0 3 (by omega)) (ej2 62 0 3 (by omega)))) ?_
    refine qm_G.s1 rfl (qm_x_istore (lv' := [(1, qm_I (qm_i (J 62 0 3))), (0, qm_R (some (0, 61, 0)))]) rfl) ?_
    refine qm_G.s1 rfl (qm_x_aload rfl) ?_
    refine qm_G.s1 rfl (qm_x_getfR (q := (some (0, 62, 0))) (hS 61 rfl) (hR 61 0 62 rfl rfl)) ?_
    refine qm_G.s1 rfl (qm_x_pushI 1 rfl) ?_
    refine qm_G.s1 rfl (qm_x_iald (v := (J 62 0 1)) (qm_arS hS rfl rfl) rfl (by decide) (by decide) (by decide) (Eq.trans (ej3 62 0 1 (by omega)) (ej2 62 0 1 (by omega)))) ?_
    refine qm_G.s1 rfl (qm_x_istore (lv' := [(2, qm_I (qm_i (J 62 0 1))), (1, qm_I (qm_i (J 62 0 3))), (0, qm_R (some (0, 61, 0)))]) rfl) ?_
    refine qm_G.s1 rfl (qm_x_aload rfl) ?_
    refine qm_G.s1 rfl (qm_x_getfR (q := (some (0, 62, 0))) (hS 61 rfl) (hR 61 0 62 rfl rfl)) ?_
    refine qm_G.s1 rfl (qm_x_pushI 2 rfl) ?_
    refine qm_G.s1 rfl (qm_x_iald (v := (J 62 0 2)) (qm_arS hS rfl rfl) rfl (by decide) (by decide) (by decide) (Eq.trans (ej3 62 0 2 (by omega)) (ej2 62 0 2 (by omega)))) ?_
    refine qm_G.s1 rfl (qm_x_istore (lv' := [(3, qm_I (qm_i (J 62 0 2))), (2, qm_I (qm_i (J 62 0 1))), (1, qm_I (qm_i (J 62 0 3))), (0, qm_R (some (0, 61, 0)))]) rfl) ?_
    refine qm_G.s1 rfl (qm_x_pushI 50 rfl) ?_
    refine qm_G.s1 rfl (qm_x_pushI 4 rfl) ?_
    refine qm_G.s1 rfl (qm_x_aload rfl) ?_
    refine qm_G.s1 rfl (qm_x_getfR (q := (some (0, 62, 0))) (hS 61 rfl) (hR 61 0 62 rfl rfl)) ?_
    refine qm_G.s1 rfl (qm_x_pushI 6 rfl) ?_
    refine qm_G.s1 rfl (qm_x_iald (v := 2) (qm_arS hS rfl rfl) rfl (by decide) (by decide) (by decide) (Eq.trans (Eq.trans (ej3 62 0 6 (by omega)) (ej2 62 0 6 (by omega))) h6)) ?_
    refine qm_G.s1 rfl (qm_x_imul) ?_
    refine qm_G.s1 rfl (qm_x_iadd) ?_
    refine qm_G.s1 rfl (qm_x_istore (lv' := [(4, qm_I (qm_i (50 + (4 * 2)))), (3, qm_I (qm_i (J 62 0 2))), (2, qm_I (qm_i (J 62 0 1))), (1, qm_I (qm_i (J 62 0 3))), (0, qm_R (some (0, 61, 0)))]) rfl) ?_
    refine qm_G.s1 rfl (qm_x_aload rfl) ?_
    refine qm_G.s1 rfl (qm_x_getfR (q := (some (0, 62, 0))) (hS 61 rfl) (hR 61 0 62 rfl rfl)) ?_
    refine qm_G.s1 rfl (qm_x_iload rfl) ?_
    refine qm_G.s1 rfl (qm_x_iald (v := (J 62 0 58)) (qm_arS hS rfl rfl) rfl (by decide) (by decide) (by decide) (Eq.trans (ej3 62 0 58 (by omega)) (ej2 62 0 58 (by omega)))) ?_
    refine qm_G.s1 rfl (qm_x_istore (lv' := [(5, qm_I (qm_i (J 62 0 58))), (4, qm_I (qm_i (50 + (4 * 2)))), (3, qm_I (qm_i (J 62 0 2))), (2, qm_I (qm_i (J 62 0 1))), (1, qm_I (qm_i (J 62 0 3))), (0, qm_R (some (0, 61, 0)))]) rfl) ?_
    refine qm_G.s1 rfl (qm_x_aload rfl) ?_
    refine qm_G.s1 rfl (qm_x_getfR (q := (some (0, 62, 0))) (hS 61 rfl) (hR 61 0 62 rfl rfl)) ?_
    refine qm_G.s1 rfl (qm_x_iload rfl) ?_
    refine qm_G.s1 rfl (qm_x_pushI 1 rfl) ?_
    refine qm_G.s1 rfl (qm_x_iadd) ?_
    refine qm_G.s1 rfl (qm_x_iald (v := (J 62 0 59)) (qm_arS hS rfl rfl) rfl (by decide) (by decide) (by decide) (Eq.trans (ej3 62 0 59 (by omega)) (ej2 62 0 59 (by omega)))) ?_
    refine qm_G.s1 rfl (qm_x_istore (lv' := [(6, qm_I (qm_i (J 62 0 59))), (5, qm_I (qm_i (J 62 0 58))), (4, qm_I (qm_i (50 + (4 * 2)))), (3, qm_I (qm_i (J 62 0 2))), (2, qm_I (qm_i (J 62 0 1))), (1, qm_I (qm_i (J 62 0 3))), (0, qm_R (some (0, 61, 0)))]) rfl) ?_
    refine qm_G.s1 rfl (qm_x_aload rfl) ?_
    refine qm_G.s1 rfl (qm_x_getfR (q := (some (0, 62, 0))) (hS 61 rfl) (hR 61 0 62 rfl rfl)) ?_
    refine qm_G.s1 rfl (qm_x_iload rfl) ?_
    refine qm_G.s1 rfl (qm_x_pushI 2 rfl) ?_
    refine qm_G.s1 rfl (qm_x_iadd) ?_
    refine qm_G.s1 rfl (qm_x_iald (v := (J 62 0 60)) (qm_arS hS rfl rfl) rfl (by decide) (by decide) (by decide) (Eq.trans (ej3 62 0 60 (by omega)) (ej2 62 0 60 (by omega)))) ?_
    refine qm_G.s1 rfl (qm_x_istore (lv' := [(7, qm_I (qm_i (J 62 0 60))), (6, qm_I (qm_i (J 62 0 59))), (5, qm_I (qm_i (J 62 0 58))), (4, qm_I (qm_i (50 + (4 * 2)))), (3, qm_I (qm_i (J 62 0 2))), (2, qm_I (qm_i (J 62 0 1))), (1, qm_I (qm_i (J 62 0 3))), (0, qm_R (some (0, 61, 0)))]) rfl) ?_
    refine qm_G.s1 rfl (qm_x_aload rfl) ?_
    refine qm_G.s1 rfl (qm_x_getfR (q := (some (0, 62, 0))) (hS 61 rfl) (hR 61 0 62 rfl rfl)) ?_
    refine qm_G.s1 rfl (qm_x_iload rfl) ?_
    refine qm_G.s1 rfl (qm_x_pushI 3 rfl) ?_
    refine qm_G.s1 rfl (qm_x_iadd) ?_
    refine qm_G.s1 rfl (qm_x_iald (v := (J 62 0 61)) (qm_arS hS rfl rfl) rfl (by decide) (by decide) (by decide) (Eq.trans (ej3 62 0 61 (by omega)) (ej2 62 0 61 (by omega)))) ?_
    refine qm_G.s1 rfl (qm_x_istore (lv' := [(8, qm_I (qm_i (J 62 0 61))), (7, qm_I (qm_i (J 62 0 60))), (6, qm_I (qm_i (J 62 0 59))), (5, qm_I (qm_i (J 62 0 58))), (4, qm_I (qm_i (50 + (4 * 2)))), (3, qm_I (qm_i (J 62 0 2))), (2, qm_I (qm_i (J 62 0 1))), (1, qm_I (qm_i (J 62 0 3))), (0, qm_R (some (0, 61, 0)))]) rfl) ?_
    refine qm_G.s1 rfl (qm_x_pushI 0 rfl) ?_
    refine qm_G.s1 rfl (qm_x_istore (lv' := [(9, qm_I (qm_i 0)), (8, qm_I (qm_i (J 62 0 61))), (7, qm_I (qm_i (J 62 0 60))), (6, qm_I (qm_i (J 62 0 59))), (5, qm_I (qm_i (J 62 0 58))), (4, qm_I (qm_i (50 + (4 * 2)))), (3, qm_I (qm_i (J 62 0 2))), (2, qm_I (qm_i (J 62 0 1))), (1, qm_I (qm_i (J 62 0 3))), (0, qm_R (some (0, 61, 0)))]) rfl) ?_
    refine qm_G.pk (lv1 := [(0, qm_R (some (0, 61, 0))), (1, qm_I (qm_i (J 62 0 3))), (2, qm_I (qm_i (J 62 0 1))), (3, qm_I (qm_i (J 62 0 2))), (4, qm_I (qm_i 58)), (5, qm_I (qm_i (J 62 0 58))), (6, qm_I (qm_i (J 62 0 59))), (7, qm_I (qm_i (J 62 0 60))), (8, qm_I (qm_i (J 62 0 61))), (9, qm_I (qm_i 0))]) rfl rfl rfl ?_
    refine qm_m_ev2 (N := J 62 0) (kd := J 15 0) (nm := J 16 0) (cnt := J 11 0 6) hS hR rc9 rk9 rn9 r39 (Int.toNat (J 11 0 6)) 0 (J 62 0 3) (J 62 0 1) (J 62 0 2) 0 J3 (by omega) (by decide) (by decide) (((ej3 62 0 13 (by omega)).trans (ej2 62 0 13 (by omega))).trans hI.nt.ec.symm) (fun j hj => ⟨((ej3 62 0 _ (by omega)).trans (ej2 62 0 _ (by omega))).trans (hI.nt.evt j hj).1.symm, ((ej3 62 0 _ (by omega)).trans (ej2 62 0 _ (by omega))).trans (hI.nt.evt j hj).2.symm⟩) ((ej3 62 0 3 (by omega)).trans (ej2 62 0 3 (by omega))) ((ej3 62 0 1 (by omega)).trans (ej2 62 0 1 (by omega))) ((ej3 62 0 2 (by omega)).trans (ej2 62 0 2 (by omega))) (fun m hm => by rw [((ej3 62 0 _ (by omega)).trans (ej2 62 0 _ (by omega))), Int.zero_ediv, if_neg (by decide)]) (fun J4 ej4 f4 m4 o4 d4 => ?_)
    replace f4 : J4 62 0 3 = F := f4.trans hF.symm
    replace m4 : J4 62 0 1 = M := m4.trans hM1.symm
    replace o4 : J4 62 0 2 = O := o4.trans hO.symm
    replace d4 : ∀ m : Nat, m < 4 → J4 62 0 (58 + m) = if G / qm_p2 m % 2 = 1 then -5 else J 62 0 (58 + m) := fun m hm => (d4 m hm).trans (by rw [hG]; rfl)
    have k4 : ∀ i, ¬ (1 ≤ i ∧ i ≤ 3 ∨ 58 ≤ i ∧ i < 62) → J4 62 0 i = J 62 0 i := fun i hi => by rw [ej4 62 0 i (by omega), ej3 62 0 i (by omega), ej2 62 0 i (by omega)]
    refine qm_G.sp (lv1 := [(0, qm_R (some (0, 61, 0))), (1, qm_I (qm_i (J 62 0 3))), (2, qm_I (qm_i (J 62 0 1))), (3, qm_I (qm_i (J 62 0 2))), (4, qm_I (qm_i 58)), (5, qm_I (qm_i (J 62 0 58))), (6, qm_I (qm_i (J 62 0 59))), (7, qm_I (qm_i (J 62 0 60))), (8, qm_I (qm_i (J 62 0 61)))]) rfl rfl (qm_x_aload rfl) ?_
    refine qm_G.cmv rfl rfl (hS 61 rfl) rfl ?_
    have hN4 : qm_Nk (J4 62 0) := by
      refine ⟨by rw [m4]; exact rM, by rw [o4]; exact rO, by rw [f4]; exact rF, by rw [k4 6 (by omega)]; exact hN.str, by rw [k4 7 (by omega)]; exact hN.cnt, fun d hd => by rw [k4 (14 + d) (by omega)]; exact hN.odd d hd, fun q hq => ?_, fun r h1 h2 => ?_⟩
      · by_cases c : 58 ≤ 50 + q ∧ 50 + q < 62
        · have h9 := d4 (50 + q - 58) (by omega)
          rw [show 58 + (50 + q - 58) = 50 + q by omega] at h9
          rw [h9, k4 7 (by omega)]
          split
          · exact Or.inl rfl
          · exact hN.dek q hq
        · rw [k4 (50 + q) (by omega), k4 7 (by omega)]; exact hN.dek q hq
      · rw [k4 7 (by omega)] at h2
        rw [k4 (26 + 3 * r) (by omega), k4 (27 + 3 * r) (by omega), k4 (28 + 3 * r) (by omega)]; exact hN.riv r h1 h2
    refine qm_m_values hS hR hN4 (fun J5 L5 ej5 fl5 b5 t5 => ⟨rfl, ?_⟩)
    have cg : ∀ sd z : Int, 0 ≤ sd ∧ sd ≤ 1 → 0 ≤ z → z ≤ 6 → qm_ch (J4 62 0) 0 sd z = qm_ch (J 62 0) G sd z := fun sd z h1 h2 h3 => qm_ch_gone hN h1 ⟨h2, h3⟩ rG (fun i h4 h5 => k4 i (by omega)) (k4 6 (by omega)) (fun m hm => by rw [c6]; exact d4 m hm)
    have t6 : ∀ t x : Int, 0 ≤ t → t < 9 → -M ≤ x → x ≤ M → L5 64 0 (Int.toNat (17 * t + 8 + x)) = (W (Int.toNat t) x).1 := fun t x h0 h1 h2 h3 => by
      have h9 := (t5 t x h0 (Or.inl h1) (by rw [m4]; exact h2) (by rw [m4]; exact h3)).1
      rw [m4, f4, qm_VB_congr (fun z a b => cg 0 z (by decide) a b) (fun z a b => cg 1 z (by decide) a b), ← hW] at h9
      exact h9
    refine qm_G.s1 rfl (qm_x_aload rfl) ?_
    refine qm_G.s1 rfl (qm_x_getfR (q := (some (0, 64, 0))) (hS 61 rfl) (hR 61 7 64 rfl rfl)) ?_
    refine qm_G.s1 rfl (qm_x_aload rfl) ?_
    refine qm_G.s1 rfl (qm_x_getfR (q := (some (0, 62, 0))) (hS 61 rfl) (hR 61 0 62 rfl rfl)) ?_
    refine qm_G.s1 rfl (qm_x_pushI 2 rfl) ?_
    refine qm_G.s1 rfl (qm_x_iald (v := O) (qm_arS hS rfl rfl) rfl (by decide) (by decide) (by decide) (Eq.trans (ej5 62 0 2 (by omega)) o4)) ?_
    refine qm_G.s1 rfl (qm_x_pushI 0 rfl) ?_
    refine qm_G.cs rfl rfl rfl ?_
    refine qm_C.go (cd := qm_P24) (lv := [(0, qm_I (qm_i O)), (1, qm_I (qm_i 0))]) rfl rfl ?_
    refine qm_G.s1 rfl (qm_x_pushI 17 rfl) ?_
    refine qm_G.s1 rfl (qm_x_iload rfl) ?_
    refine qm_G.s1 rfl (qm_x_imul) ?_
    refine qm_G.s1 rfl (qm_x_pushI 8 rfl) ?_
    refine qm_G.s1 rfl (qm_x_iadd) ?_
    refine qm_G.s1 rfl (qm_x_iload rfl) ?_
    refine qm_G.s1 rfl (qm_x_iadd) ?_
    refine qm_G.ret rfl rfl ⟨_, rfl, ?_⟩
    refine qm_G.s1 rfl (qm_x_lald (a := ((W (Int.toNat O) 0).1)) (qm_arS hS rfl rfl) rfl (by omega) (by omega) (by decide) (Eq.trans (congrArg (L5 64 0) (by omega)) (t6 O 0 (by omega) (by omega) (by omega) (by omega)))) ?_
    refine qm_G.s1 rfl (qm_x_lstore (lv' := [(9, qm_L ((W (Int.toNat O) 0).1)), (0, qm_R (some (0, 61, 0))), (1, qm_I (qm_i (J 62 0 3))), (2, qm_I (qm_i (J 62 0 1))), (3, qm_I (qm_i (J 62 0 2))), (4, qm_I (qm_i 58)), (5, qm_I (qm_i (J 62 0 58))), (6, qm_I (qm_i (J 62 0 59))), (7, qm_I (qm_i (J 62 0 60))), (8, qm_I (qm_i (J 62 0 61)))]) rfl) ?_
    refine qm_G.s1 rfl (qm_x_aload rfl) ?_
    refine qm_G.s1 rfl (qm_x_getfR (q := (some (0, 62, 0))) (hS 61 rfl) (hR 61 0 62 rfl rfl)) ?_
    refine qm_G.s1 rfl (qm_x_pushI 3 rfl) ?_
    refine qm_G.s1 rfl (qm_x_iload rfl) ?_
    refine qm_G.s1 rfl (qm_x_iast (qm_arS hS rfl rfl) rfl (by decide) (by decide) (by decide)) ?_
    refine qm_G.s1 rfl (qm_x_aload rfl) ?_
    refine qm_G.s1 rfl (qm_x_getfR (q := (some (0, 62, 0))) (hS 61 rfl) (hR 61 0 62 rfl rfl)) ?_
    refine qm_G.s1 rfl (qm_x_pushI 1 rfl) ?_
    refine qm_G.s1 rfl (qm_x_iload rfl) ?_
    refine qm_G.s1 rfl (qm_x_iast (qm_arS hS rfl rfl) rfl (by decide) (by decide) (by decide)) ?_
    refine qm_G.s1 rfl (qm_x_aload rfl) ?_
    refine qm_G.s1 rfl (qm_x_getfR (q := (some (0, 62, 0))) (hS 61 rfl) (hR 61 0 62 rfl rfl)) ?_
    refine qm_G.s1 rfl (qm_x_pushI 2 rfl) ?_
    refine qm_G.s1 rfl (qm_x_iload rfl) ?_
    refine qm_G.s1 rfl (qm_x_iast (qm_arS hS rfl rfl) rfl (by decide) (by decide) (by decide)) ?_
    refine qm_G.s1 rfl (qm_x_aload rfl) ?_
    refine qm_G.s1 rfl (qm_x_getfR (q := (some (0, 62, 0))) (hS 61 rfl) (hR 61 0 62 rfl rfl)) ?_
    refine qm_G.s1 rfl (qm_x_iload rfl) ?_
    refine qm_G.s1 rfl (qm_x_iload rfl) ?_
    refine qm_G.s1 rfl (qm_x_iast (qm_arS hS rfl rfl) rfl (by decide) (by decide) (by decide)) ?_
    refine qm_G.s1 rfl (qm_x_aload rfl) ?_
    refine qm_G.s1 rfl (qm_x_getfR (q := (some (0, 62, 0))) (hS 61 rfl) (hR 61 0 62 rfl rfl)) ?_
    refine qm_G.s1 rfl (qm_x_iload rfl) ?_
    refine qm_G.s1 rfl (qm_x_pushI 1 rfl) ?_
    refine qm_G.s1 rfl (qm_x_iadd) ?_
    refine qm_G.s1 rfl (qm_x_iload rfl) ?_
    refine qm_G.s1 rfl (qm_x_iast (qm_arS hS rfl rfl) rfl (by decide) (by decide) (by decide)) ?_
    refine qm_G.s1 rfl (qm_x_aload rfl) ?_
    refine qm_G.s1 rfl (qm_x_getfR (q := (some (0, 62, 0))) (hS 61 rfl) (hR 61 0 62 rfl rfl)) ?_
    refine qm_G.s1 rfl (qm_x_iload rfl) ?_
    refine qm_G.s1 rfl (qm_x_pushI 2 rfl) ?_
    refine qm_G.s1 rfl (qm_x_iadd) ?_
    refine qm_G.s1 rfl (qm_x_iload rfl) ?_
    refine qm_G.s1 rfl (qm_x_iast (qm_arS hS rfl rfl) rfl (by decide) (by decide) (by decide)) ?_
    refine qm_G.s1 rfl (qm_x_aload rfl) ?_
    refine qm_G.s1 rfl (qm_x_getfR (q := (some (0, 62, 0))) (hS 61 rfl) (hR 61 0 62 rfl rfl)) ?_
    refine qm_G.s1 rfl (qm_x_iload rfl) ?_
    refine qm_G.s1 rfl (qm_x_pushI 3 rfl) ?_
    refine qm_G.s1 rfl (qm_x_iadd) ?_
    refine qm_G.s1 rfl (qm_x_iload rfl) ?_
    refine qm_G.s1 rfl (qm_x_iast (qm_arS hS rfl rfl) rfl (by decide) (by decide) (by decide)) ?_
    refine qm_G.s1 rfl (qm_x_lload rfl) ?_
    refine qm_G.ret rfl rfl ⟨_, rfl, ?_⟩
    refine qm_G.s1 rfl (qm_x_lcmp_eq rfl) ?_
    refine qm_G.s1 rfl (qm_x_if_eq_t ⟨by decide, by decide⟩ (by decide)) ?_
    have e9 : ∀ r s i, ¬ qm_wJ r i → (qm_set (qm_set (qm_set (qm_set (qm_set (qm_set (qm_set J5 62 0 3 (J 62 0 3)) 62 0 1 (J 62 0 1)) 62 0 2 (J 62 0 2)) 62 0 58 (J 62 0 58)) 62 0 59 (J 62 0 59)) 62 0 60 (J 62 0 60)) 62 0 61 (J 62 0 61)) r s i = J r s i := by
      intro r s i h
      by_cases c : r = 62 ∧ s = 0 ∧ (i = 3 ∨ i = 1 ∨ i = 2 ∨ i = 58 ∨ i = 59 ∨ i = 60 ∨ i = 61)
      · obtain ⟨c1, c2, c3⟩ := c
        subst c1 c2
        rcases c3 with c | c | c | c | c | c | c <;> subst c <;> simp [qm_set]
      · unfold qm_wJ at h
        rw [qm_st_ne (by omega), qm_st_ne (by omega), qm_st_ne (by omega), qm_st_ne (by omega), qm_st_ne (by omega), qm_st_ne (by omega), qm_st_ne (by omega), ej5 r s i (by omega), ej4 r s i (by omega), ej3 r s i (by omega), ej2 r s i (by omega)]
    exact ih _ _ _ _ _ _ (hI.scr e9 (fun r s i h => ((fl5 r s i (by omega)).trans (fl3 r s i (by omega)))) (fun _ _ _ _ => rfl))
