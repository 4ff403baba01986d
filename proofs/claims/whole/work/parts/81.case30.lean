/-! THE LAW, case 30 -/
theorem qm_case30 {S : List qm_Sh} {J K : qm_J} {L : qm_Ct Int64} {D : qm_Ct UInt64} {R : qm_Ct (Option qm_Rf)} {X : Nat × (Nat → Int32)} {k : Nat} {z : Int} {Q : Option qm_V → qm_Hp → Prop} (hI : qm_Inv S J K L D R k) (hX : X.1 ≤ 3072) (h0 : 0 ≤ z) (h6 : z + 6 ≤ X.1) (ih : ∀ (S : List qm_Sh) (J K : qm_J) (L : qm_Ct Int64) (D : qm_Ct UInt64) (R : qm_Ct (Option qm_Rf)), qm_Inv S J K L D R (k + 1) → qm_G qm_P qm_P222 1445 [(0, qm_R (some (2, 0, 0))), (1, qm_R (some (0, 0, 0))), (2, qm_R (some (0, 61, 0))), (3, qm_I (qm_i z))] [] (qm_H S J K L D R X) Q) : qm_G qm_P qm_P222 1183 [(0, qm_R (some (2, 0, 0))), (1, qm_R (some (0, 0, 0))), (2, qm_R (some (0, 61, 0))), (3, qm_I (qm_i z))] [] (qm_H S J K L D R X) Q := by
  have hS := hI.sd
  have hR := hI.rd
  refine qm_G.sp (lv1 := [(0, qm_R (some (2, 0, 0))), (1, qm_R (some (0, 0, 0))), (2, qm_R (some (0, 61, 0))), (3, qm_I (qm_i z))]) rfl rfl (qm_x_aload rfl) ?_
  refine qm_G.cm rfl rfl (hS 0 rfl) rfl ?_
  refine qm_C.go (cd := qm_P194) (lv := [(0, qm_R (some (0, 0, 0)))]) rfl rfl ?_
  refine qm_G.s1 rfl (qm_x_aload rfl) ?_
  refine qm_G.s1 rfl (qm_x_getfR (q := (some (0, 18, 0))) (hS 0 rfl) (hR 0 1 18 rfl rfl)) ?_
  refine qm_G.s1 rfl (qm_x_aload rfl) ?_
  refine qm_G.s1 rfl (qm_x_getfR (q := (some (0, 1, 0))) (hS 0 rfl) (hR 0 0 1 rfl rfl)) ?_
  refine qm_G.cmv rfl rfl (hS 18 rfl) rfl ?_
  refine qm_C.go (cd := qm_P174) (lv := [(0, qm_R (some (0, 18, 0))), (1, qm_R (some (0, 1, 0)))]) rfl rfl ?_
  have hv5 := hI.slp.2
  refine qm_G.s1 rfl (qm_x_aload rfl) ?_
  refine qm_G.s1 rfl (qm_x_getfR (q := (some (0, 19, 0))) (hS 18 rfl) (hR 18 0 19 rfl rfl)) ?_
  refine qm_G.s1 rfl (qm_x_aload rfl) ?_
  refine qm_G.s1 rfl (qm_x_getfR (q := (some (0, 2, 0))) (hS 1 rfl) (hR 1 0 2 rfl rfl)) ?_
  refine qm_G.cmv rfl rfl (hS 19 rfl) rfl ?_
  refine qm_bm_img hS hR hv5 (fun Jc1 R1 ex1 fx1_0 fx1_1 fx1_2 fx1_3 fx1_4 fx1_5 fx1_6 fx1_7 rr0 rr1 => ⟨rfl, ?_⟩)
  have eE1 : ∀ r s i : Nat, ¬ (18 ≤ r ∧ r ≤ 34) → Jc1 r s i = J r s i := fun r s i h => (ex1 r s i (by omega))
  have eF1_0 : Jc1 19 0 3 = J 2 0 3 := fx1_0
  have eF1_1 : Jc1 19 0 5 = J 2 0 5 := fx1_1
  have eF1_2 : ∀ i : Nat, i < 6 → Jc1 20 0 i = J 3 0 i := fun i h => (fx1_2 i h)
  have eF1_3 : ∀ i : Nat, i < 6 → Jc1 22 0 i = J 5 0 i := fun i h => (fx1_3 i h)
  have eF1_4 : ∀ i : Nat, i < 6 → Jc1 23 0 i = J 6 0 i := fun i h => (fx1_4 i h)
  have eF1_5 : ∀ i : Nat, i < 4 → Jc1 25 1 i = J 8 1 i := fun i h => (fx1_5 i h)
  have eF1_6 : ∀ i : Nat, i < 4 → Jc1 25 2 i = J 8 2 i := fun i h => (fx1_6 i h)
  have eF1_7 : ∀ i : Nat, i < 4 → Jc1 25 3 i = J 8 3 i := fun i h => (fx1_7 i h)
  have hR2 : qm_Rd R1 := fun r i q h1 h2 => (rr0 r 0 i (fun h => by subst h; cases h1)).trans (hR r i q h1 h2)
  refine qm_G.s1 rfl (qm_x_aload rfl) ?_
  refine qm_G.s1 rfl (qm_x_getfR (q := (some (0, 26, 0))) (hS 18 rfl) (hR2 18 1 26 rfl rfl)) ?_
  refine qm_G.s1 rfl (qm_x_aload rfl) ?_
  refine qm_G.s1 rfl (qm_x_getfR (q := (some (0, 9, 0))) (hS 1 rfl) (hR2 1 1 9 rfl rfl)) ?_
  refine qm_G.cmv rfl rfl (hS 26 rfl) rfl ?_
  refine qm_bt_img hS hR2 (fun Jc2 ex2 fx2_0 fx2_1 fx2_2 fx2_3 => ⟨rfl, ?_⟩)
  have eE2 : ∀ r s i : Nat, ¬ (18 ≤ r ∧ r ≤ 34) → Jc2 r s i = J r s i := fun r s i h => (ex2 r s i (by omega)).trans (eE1 r s i h)
  have eF2_0 : Jc2 19 0 3 = J 2 0 3 := (ex2 19 0 3 (by decide)).trans eF1_0
  have eF2_1 : Jc2 19 0 5 = J 2 0 5 := (ex2 19 0 5 (by decide)).trans eF1_1
  have eF2_2 : ∀ i : Nat, i < 6 → Jc2 20 0 i = J 3 0 i := fun i h => (ex2 20 0 i (by decide)).trans (eF1_2 i h)
  have eF2_3 : ∀ i : Nat, i < 6 → Jc2 22 0 i = J 5 0 i := fun i h => (ex2 22 0 i (by decide)).trans (eF1_3 i h)
  have eF2_4 : ∀ i : Nat, i < 6 → Jc2 23 0 i = J 6 0 i := fun i h => (ex2 23 0 i (by decide)).trans (eF1_4 i h)
  have eF2_5 : ∀ i : Nat, i < 4 → Jc2 25 1 i = J 8 1 i := fun i h => (ex2 25 1 i (by decide)).trans (eF1_5 i h)
  have eF2_6 : ∀ i : Nat, i < 4 → Jc2 25 2 i = J 8 2 i := fun i h => (ex2 25 2 i (by decide)).trans (eF1_6 i h)
  have eF2_7 : ∀ i : Nat, i < 4 → Jc2 25 3 i = J 8 3 i := fun i h => (ex2 25 3 i (by decide)).trans (eF1_7 i h)
  have eF2_8 : Jc2 26 0 1 = J 9 0 1 := fx2_0.trans (eE1 9 0 1 (by decide))
  have eF2_9 : Jc2 26 0 2 = J 9 0 2 := fx2_1.trans (eE1 9 0 2 (by decide))
  have eF2_10 : Jc2 27 0 0 = J 10 0 0 := fx2_2.trans (eE1 10 0 0 (by decide))
  have eF2_11 : Jc2 27 0 1 = J 10 0 1 := fx2_3.trans (eE1 10 0 1 (by decide))
  refine qm_G.s1 rfl (qm_x_aload rfl) ?_
  refine qm_G.s1 rfl (qm_x_getfR (q := (some (0, 28, 0))) (hS 18 rfl) (hR2 18 2 28 rfl rfl)) ?_
  refine qm_G.s1 rfl (qm_x_aload rfl) ?_
  refine qm_G.s1 rfl (qm_x_getfR (q := (some (0, 11, 0))) (hS 1 rfl) (hR2 1 2 11 rfl rfl)) ?_
  refine qm_G.cmv rfl rfl (hS 28 rfl) rfl ?_
  refine qm_bn_img hS hR2 (fun Jc3 ex3 fx3_0 fx3_1 fx3_2 fx3_3 fx3_4 fx3_5 fx3_6 => ⟨rfl, ?_⟩)
  have eE3 : ∀ r s i : Nat, ¬ (18 ≤ r ∧ r ≤ 34) → Jc3 r s i = J r s i := fun r s i h => (ex3 r s i (by omega)).trans (eE2 r s i h)
  have eF3_0 : Jc3 19 0 3 = J 2 0 3 := (ex3 19 0 3 (by decide)).trans eF2_0
  have eF3_1 : Jc3 19 0 5 = J 2 0 5 := (ex3 19 0 5 (by decide)).trans eF2_1
  have eF3_2 : ∀ i : Nat, i < 6 → Jc3 20 0 i = J 3 0 i := fun i h => (ex3 20 0 i (by decide)).trans (eF2_2 i h)
  have eF3_3 : ∀ i : Nat, i < 6 → Jc3 22 0 i = J 5 0 i := fun i h => (ex3 22 0 i (by decide)).trans (eF2_3 i h)
  have eF3_4 : ∀ i : Nat, i < 6 → Jc3 23 0 i = J 6 0 i := fun i h => (ex3 23 0 i (by decide)).trans (eF2_4 i h)
  have eF3_5 : ∀ i : Nat, i < 4 → Jc3 25 1 i = J 8 1 i := fun i h => (ex3 25 1 i (by decide)).trans (eF2_5 i h)
  have eF3_6 : ∀ i : Nat, i < 4 → Jc3 25 2 i = J 8 2 i := fun i h => (ex3 25 2 i (by decide)).trans (eF2_6 i h)
  have eF3_7 : ∀ i : Nat, i < 4 → Jc3 25 3 i = J 8 3 i := fun i h => (ex3 25 3 i (by decide)).trans (eF2_7 i h)
  have eF3_8 : Jc3 26 0 1 = J 9 0 1 := (ex3 26 0 1 (by decide)).trans eF2_8
  have eF3_9 : Jc3 26 0 2 = J 9 0 2 := (ex3 26 0 2 (by decide)).trans eF2_9
  have eF3_10 : Jc3 27 0 0 = J 10 0 0 := (ex3 27 0 0 (by decide)).trans eF2_10
  have eF3_11 : Jc3 27 0 1 = J 10 0 1 := (ex3 27 0 1 (by decide)).trans eF2_11
  have eF3_12 : Jc3 28 0 3 = J 11 0 3 := fx3_0.trans (eE2 11 0 3 (by decide))
  have eF3_13 : Jc3 28 0 6 = J 11 0 6 := fx3_1.trans (eE2 11 0 6 (by decide))
  have eF3_14 : ∀ i : Nat, i < 5 → Jc3 29 0 i = J 12 0 i := fun i h => (fx3_2 i h).trans (eE2 12 0 i (by decide))
  have eF3_15 : ∀ i : Nat, i < 5 → Jc3 30 0 i = J 13 0 i := fun i h => (fx3_3 i h).trans (eE2 13 0 i (by decide))
  have eF3_16 : ∀ i : Nat, i < 5 → Jc3 31 0 i = J 14 0 i := fun i h => (fx3_4 i h).trans (eE2 14 0 i (by decide))
  have eF3_17 : ∀ i : Nat, i < 8 → Jc3 32 0 i = J 15 0 i := fun i h => (fx3_5 i h).trans (eE2 15 0 i (by decide))
  have eF3_18 : ∀ i : Nat, i < 8 → Jc3 33 0 i = J 16 0 i := fun i h => (fx3_6 i h).trans (eE2 16 0 i (by decide))
  refine qm_G.s1 rfl (qm_x_aload rfl) ?_
  refine qm_G.s1 rfl (qm_x_getfR (q := (some (0, 17, 0))) (hS 1 rfl) (hR2 1 3 17 rfl rfl)) ?_
  refine qm_G.s1 rfl (qm_x_aload rfl) ?_
  refine qm_G.s1 rfl (qm_x_getfR (q := (some (0, 34, 0))) (hS 18 rfl) (hR2 18 3 34 rfl rfl)) ?_
  refine qm_G.csv rfl rfl rfl ?_
  refine qm_br_img hS hR2 (fun Jc4 ex4 fx4_0 fx4_1 => ⟨rfl, ?_⟩)
  have eE4 : ∀ r s i : Nat, ¬ (18 ≤ r ∧ r ≤ 34) → Jc4 r s i = J r s i := fun r s i h => (ex4 r s i (by omega)).trans (eE3 r s i h)
  have eF4_0 : Jc4 19 0 3 = J 2 0 3 := (ex4 19 0 3 (by decide)).trans eF3_0
  have eF4_1 : Jc4 19 0 5 = J 2 0 5 := (ex4 19 0 5 (by decide)).trans eF3_1
  have eF4_2 : ∀ i : Nat, i < 6 → Jc4 20 0 i = J 3 0 i := fun i h => (ex4 20 0 i (by decide)).trans (eF3_2 i h)
  have eF4_3 : ∀ i : Nat, i < 6 → Jc4 22 0 i = J 5 0 i := fun i h => (ex4 22 0 i (by decide)).trans (eF3_3 i h)
  have eF4_4 : ∀ i : Nat, i < 6 → Jc4 23 0 i = J 6 0 i := fun i h => (ex4 23 0 i (by decide)).trans (eF3_4 i h)
  have eF4_5 : ∀ i : Nat, i < 4 → Jc4 25 1 i = J 8 1 i := fun i h => (ex4 25 1 i (by decide)).trans (eF3_5 i h)
  have eF4_6 : ∀ i : Nat, i < 4 → Jc4 25 2 i = J 8 2 i := fun i h => (ex4 25 2 i (by decide)).trans (eF3_6 i h)
  have eF4_7 : ∀ i : Nat, i < 4 → Jc4 25 3 i = J 8 3 i := fun i h => (ex4 25 3 i (by decide)).trans (eF3_7 i h)
  have eF4_8 : Jc4 26 0 1 = J 9 0 1 := (ex4 26 0 1 (by decide)).trans eF3_8
  have eF4_9 : Jc4 26 0 2 = J 9 0 2 := (ex4 26 0 2 (by decide)).trans eF3_9
  have eF4_10 : Jc4 27 0 0 = J 10 0 0 := (ex4 27 0 0 (by decide)).trans eF3_10
  have eF4_11 : Jc4 27 0 1 = J 10 0 1 := (ex4 27 0 1 (by decide)).trans eF3_11
  have eF4_12 : Jc4 28 0 3 = J 11 0 3 := (ex4 28 0 3 (by decide)).trans eF3_12
  have eF4_13 : Jc4 28 0 6 = J 11 0 6 := (ex4 28 0 6 (by decide)).trans eF3_13
  have eF4_14 : ∀ i : Nat, i < 5 → Jc4 29 0 i = J 12 0 i := fun i h => (ex4 29 0 i (by decide)).trans (eF3_14 i h)
  have eF4_15 : ∀ i : Nat, i < 5 → Jc4 30 0 i = J 13 0 i := fun i h => (ex4 30 0 i (by decide)).trans (eF3_15 i h)
  have eF4_16 : ∀ i : Nat, i < 5 → Jc4 31 0 i = J 14 0 i := fun i h => (ex4 31 0 i (by decide)).trans (eF3_16 i h)
  have eF4_17 : ∀ i : Nat, i < 8 → Jc4 32 0 i = J 15 0 i := fun i h => (ex4 32 0 i (by decide)).trans (eF3_17 i h)
  have eF4_18 : ∀ i : Nat, i < 8 → Jc4 33 0 i = J 16 0 i := fun i h => (ex4 33 0 i (by decide)).trans (eF3_18 i h)
  have eF4_19 : ∀ i : Nat, i < 17 → Jc4 34 1 i = J 17 1 i := fun i h => (fx4_0 i h).trans (eE3 17 1 i (by decide))
  have eF4_20 : ∀ i : Nat, i < 17 → Jc4 34 2 i = J 17 2 i := fun i h => (fx4_1 i h).trans (eE3 17 2 i (by decide))
  refine qm_G.retv rfl ⟨rfl, ?_⟩
  refine qm_G.s1 rfl (qm_x_aload rfl) ?_
  refine qm_G.s1 rfl (qm_x_pushI 1 rfl) ?_
  refine qm_G.s1 rfl (qm_x_putfZ (hS 0 rfl) (by decide)) ?_
  refine qm_G.s1 rfl (qm_x_aload rfl) ?_
  refine qm_G.s1 rfl (qm_x_getfR (q := (some (0, 1, 0))) (hS 0 rfl) (hR2 0 0 1 rfl rfl)) ?_
  refine qm_G.s1 rfl (qm_x_getfR (q := (some (0, 2, 0))) (hS 1 rfl) (hR2 1 0 2 rfl rfl)) ?_
  have f62_7 : 0 ≤ J 62 0 7 ∧ J 62 0 7 ≤ 8 := hI.mk.rrc
  have f2_3 : J 2 0 3 = J 62 0 7 := hI.mk.rc
  refine qm_G.s1 rfl (qm_x_getfI (v := (J 2 0 3)) (hS 2 rfl) (eE4 2 0 3 (by omega))) ?_
  refine qm_G.ret rfl rfl ⟨_, rfl, ?_⟩
  refine qm_G.s1 rfl (qm_x_aload rfl) ?_
  refine qm_G.cm rfl rfl (hS 61 rfl) rfl ?_
  refine qm_C.go (cd := qm_P23) (lv := [(0, qm_R (some (0, 61, 0)))]) rfl rfl ?_
  refine qm_G.s1 rfl (qm_x_aload rfl) ?_
  refine qm_G.s1 rfl (qm_x_pushI 1 rfl) ?_
  refine qm_G.s1 rfl (qm_x_putfZ (hS 61 rfl) (by decide)) ?_
  refine qm_G.s1 rfl (qm_x_pushI 0 rfl) ?_
  refine qm_G.s1 rfl (qm_x_istore (lv' := [(1, qm_I (qm_i 0)), (0, qm_R (some (0, 61, 0)))]) rfl) ?_
  have fF : ∀ r s i : Nat, qm_Ci r s i → Jc4 (r + 17) s i = J (r + 0) s i := by
    intro r s i h
    unfold qm_Ci at h
    rcases h with ⟨h1, h2, h3⟩ | ⟨h1, h2, h3⟩ | ⟨h1, h2, h3⟩ | ⟨h1, h2, h3⟩ | ⟨h1, h2, h3⟩ | ⟨h1, h2, h3⟩ | ⟨h1, h2, h3⟩ | ⟨h1, h2, h3⟩ | ⟨h1, h2, h3⟩ | ⟨h1, h2, h3⟩ | ⟨h1, h2, h3⟩ | ⟨h1, h2, h3⟩ | ⟨h1, h2, h3⟩ | ⟨h1, h2, h3⟩ | ⟨h1, h2, h3⟩ | ⟨h1, h2, h3⟩ | ⟨h1, h2, h3⟩ | ⟨h1, h2, h3⟩ | ⟨h1, h2, h3⟩ | ⟨h1, h2, h3⟩ | ⟨h1, h2, h3⟩
    · subst h1 h2 h3; exact eF4_0
    · subst h1 h2 h3; exact eF4_1
    · subst h1 h2; exact eF4_2 i h3
    · subst h1 h2; exact eF4_3 i h3
    · subst h1 h2; exact eF4_4 i h3
    · subst h1 h2; exact eF4_5 i h3
    · subst h1 h2; exact eF4_6 i h3
    · subst h1 h2; exact eF4_7 i h3
    · subst h1 h2 h3; exact eF4_8
    · subst h1 h2 h3; exact eF4_9
    · subst h1 h2 h3; exact eF4_10
    · subst h1 h2 h3; exact eF4_11
    · subst h1 h2 h3; exact eF4_12
    · subst h1 h2 h3; exact eF4_13
    · subst h1 h2; exact eF4_14 i h3
    · subst h1 h2; exact eF4_15 i h3
    · subst h1 h2; exact eF4_16 i h3
    · subst h1 h2; exact eF4_17 i h3
    · subst h1 h2; exact eF4_18 i h3
    · subst h1 h2; exact eF4_19 i h3
    · subst h1 h2; exact eF4_20 i h3
  refine qm_G.pk (lv1 := [(0, qm_R (some (0, 61, 0))), (1, qm_I (qm_i 0))]) rfl rfl rfl ?_
  refine qm_m_img hS hR2 127 0 (qm_set (qm_set Jc4 0 0 2 1) 61 0 4 1) rfl (by decide) (fun _ _ _ _ => rfl) (fun i h => absurd h (by omega)) (fun J2 q2 v2 => ?_)
  refine qm_G.sp (lv1 := [(0, qm_R (some (0, 61, 0)))]) rfl rfl (qm_x_aload rfl) ?_
  refine qm_G.s1 rfl (qm_x_aload rfl) ?_
  refine qm_G.s1 rfl (qm_x_getfD (a := (D 61 0 2)) (hS 61 rfl) rfl) ?_
  refine qm_G.s1 rfl (qm_x_putfD (hS 61 rfl)) ?_
  refine qm_G.s1 rfl (qm_x_aload rfl) ?_
  refine qm_G.s1 rfl (qm_x_aload rfl) ?_
  refine qm_G.s1 rfl (qm_x_getfD (a := (D 61 0 3)) (hS 61 rfl) rfl) ?_
  refine qm_G.s1 rfl (qm_x_putfD (hS 61 rfl)) ?_
  refine qm_G.s1 rfl (qm_x_aload rfl) ?_
  refine qm_G.s1 rfl (qm_x_getfR (q := (some (0, 62, 0))) (hS 61 rfl) (hR2 61 0 62 rfl rfl)) ?_
  refine qm_G.s1 rfl (qm_x_pushI 7 rfl) ?_
  refine qm_G.s1 rfl (qm_x_iald (v := (J 62 0 7)) (qm_arS hS rfl rfl) rfl (by decide) (by decide) (by decide) (Eq.trans (q2 62 0 7 (by decide)) (eE4 62 0 7 (by omega)))) ?_
  refine qm_G.ret rfl rfl ⟨_, rfl, ?_⟩
  refine qm_G.s1 rfl (qm_x_icmp_eq_t ⟨by omega, by omega⟩ ⟨by omega, by omega⟩ (by omega)) ?_
  exact ih _ _ _ _ _ _ (qm_U_img (J := J) (D := D) (R := R) (fun r s i h h2 h3 h4 => by rw [q2 r s i h2, qm_st_ne (by omega), qm_st_ne (by omega)]; exact eE4 r s i h) (fun r s i h => by have hr := qm_Ci_le h; rw [q2 _ s i (by omega), qm_st_ne (by omega), qm_st_ne (by omega)]; exact fF r s i h) (fun i h => by rw [v2 i h, qm_st_ne (by omega), qm_st_ne (by omega)]; exact eE4 62 0 i (by omega)) (by rw [q2 0 0 2 (by decide)]; rfl) (by rw [q2 61 0 4 (by decide)]; rfl) rfl rfl rfl rfl rfl rfl rfl rfl  rr0 rr1 hI)
