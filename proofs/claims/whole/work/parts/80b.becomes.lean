/-! THE IMAGE: what becomes what -/
theorem qm_bm_und {S : List qm_Sh} {J K : qm_J} {L : qm_Ct Int64} {D : qm_Ct UInt64} {R : qm_Ct (Option qm_Rf)} {X : Nat × (Nat → Int32)} {Q : Option qm_V → qm_Hp → Prop} (hS : qm_Sd S) (hR : qm_Rd R) (hv5 : ∀ i, i < 8 → qm_rvo S (R 7 0 i) ∧ qm_rvo S (R 24 0 i)) (k : ∀ (J1 : qm_J) (R1 : qm_Ct (Option qm_Rf)), (∀ r s i : Nat, ¬ (2 ≤ r ∧ r ≤ 8) → J1 r s i = J r s i) → (J1 2 0 3 = J 19 0 3) → (J1 2 0 5 = J 19 0 5) → (∀ i : Nat, i < 6 → J1 3 0 i = J 20 0 i) → (∀ i : Nat, i < 6 → J1 5 0 i = J 22 0 i) → (∀ i : Nat, i < 6 → J1 6 0 i = J 23 0 i) → (∀ i : Nat, i < 4 → J1 8 1 i = J 25 1 i) → (∀ i : Nat, i < 4 → J1 8 2 i = J 25 2 i) → (∀ i : Nat, i < 4 → J1 8 3 i = J 25 3 i) → (∀ r s i : Nat, r ≠ 7 → R1 r s i = R r s i) → (∀ i : Nat, i < 8 → R1 7 0 i = R 24 0 i) → Q none (qm_H S J1 K L D R1 X)) : qm_C qm_P 156 [qm_R (some (0, 2, 0)), qm_R (some (0, 19, 0))] (qm_H S J K L D R X) Q := by
  refine qm_C.go (cd := qm_P156) (lv := [(0, qm_R (some (0, 2, 0))), (1, qm_R (some (0, 19, 0)))]) rfl rfl ?_
  refine qm_G.s1 rfl (qm_x_aload rfl) ?_
  refine qm_G.s1 rfl (qm_x_getfR (q := (some (0, 20, 0))) (hS 19 rfl) (hR 19 0 20 rfl rfl)) ?_
  refine qm_G.s1 rfl (qm_x_pushI 0 rfl) ?_
  refine qm_G.s1 rfl (qm_x_aload rfl) ?_
  refine qm_G.s1 rfl (qm_x_getfR (q := (some (0, 3, 0))) (hS 2 rfl) (hR 2 0 3 rfl rfl)) ?_
  refine qm_G.s1 rfl (qm_x_pushI 0 rfl) ?_
  refine qm_G.s1 rfl (qm_x_pushI 6 rfl) ?_
  refine qm_G.s1 rfl (qm_x_acopyI (qm_arS hS rfl rfl) (qm_arS hS rfl rfl) rfl (by decide) (by decide) (by decide) (by decide) (by decide) (by decide) (by decide)) ?_
  show qm_G _ _ _ _ _ (qm_H S (qm_cpy J 20 0 (Int.toNat 0) 3 0 (Int.toNat 0) (Int.toNat 6)) K L D R X) _
  obtain ⟨Jb1, hb⟩ : ∃ x : qm_J, x = qm_cpy J 20 0 (Int.toNat 0) 3 0 (Int.toNat 0) (Int.toNat 6) := ⟨_, rfl⟩
  rw [← hb]
  have eE1 : ∀ r s i : Nat, ¬ (2 ≤ r ∧ r ≤ 8) → Jb1 r s i = J r s i := fun r s i h => by rw [hb, qm_cp_ne (by omega)]
  have eF1_0 : ∀ i : Nat, i < 6 → Jb1 3 0 i = J 20 0 i := fun i h => by rw [hb, qm_cp_in (by omega) (by omega), show Int.toNat 0 + (i - Int.toNat 0) = i by omega]
  clear hb
  refine qm_G.s1 rfl (qm_x_aload rfl) ?_
  refine qm_G.s1 rfl (qm_x_getfR (q := (some (0, 21, 0))) (hS 19 rfl) (hR 19 1 21 rfl rfl)) ?_
  refine qm_G.s1 rfl (qm_x_aload rfl) ?_
  refine qm_G.s1 rfl (qm_x_getfR (q := (some (0, 4, 0))) (hS 2 rfl) (hR 2 1 4 rfl rfl)) ?_
  refine qm_G.csv rfl rfl rfl ?_
  refine qm_C.go (cd := qm_P109) (lv := [(0, qm_R (some (0, 21, 0))), (1, qm_R (some (0, 4, 0)))]) rfl rfl ?_
  refine qm_G.s1 rfl (qm_x_pushI 0 rfl) ?_
  refine qm_G.s1 rfl (qm_x_istore (lv' := [(2, qm_I (qm_i 0)), (0, qm_R (some (0, 21, 0))), (1, qm_R (some (0, 4, 0)))]) rfl) ?_
  refine qm_G.sp (lv1 := [(0, qm_R (some (0, 21, 0))), (1, qm_R (some (0, 4, 0))), (2, qm_I (qm_i 0))]) rfl rfl (qm_x_iload rfl) ?_
  refine qm_G.s1 rfl (qm_x_aload rfl) ?_
  refine qm_G.s1 rfl (qm_x_alen (hS 21 rfl) rfl) ?_
  refine qm_G.s1 rfl (qm_x_icmp_ge_f ⟨by decide, by decide⟩ ⟨by decide, by decide⟩ (by decide)) ?_
  refine qm_G.s1 rfl (qm_x_iload rfl) ?_
  refine qm_G.s1 rfl (qm_x_aload rfl) ?_
  refine qm_G.s1 rfl (qm_x_alen (hS 4 rfl) rfl) ?_
  refine qm_G.s1 rfl (qm_x_icmp_ge_f ⟨by decide, by decide⟩ ⟨by decide, by decide⟩ (by decide)) ?_
  refine qm_G.s1 rfl (qm_x_aload rfl) ?_
  refine qm_G.s1 rfl (qm_x_iload rfl) ?_
  refine qm_G.s1 rfl (qm_x_aaldr (q := (some (0, 22, 0))) (hS 21 rfl) rfl rfl (by decide) (by decide) (hR 21 0 22 rfl rfl)) ?_
  refine qm_G.s1 rfl (qm_x_pushI 0 rfl) ?_
  refine qm_G.s1 rfl (qm_x_aload rfl) ?_
  refine qm_G.s1 rfl (qm_x_iload rfl) ?_
  refine qm_G.s1 rfl (qm_x_aaldr (q := (some (0, 5, 0))) (hS 4 rfl) rfl rfl (by decide) (by decide) (hR 4 0 5 rfl rfl)) ?_
  refine qm_G.s1 rfl (qm_x_pushI 0 rfl) ?_
  refine qm_G.s1 rfl (qm_x_aload rfl) ?_
  refine qm_G.s1 rfl (qm_x_iload rfl) ?_
  refine qm_G.s1 rfl (qm_x_aaldr (q := (some (0, 22, 0))) (hS 21 rfl) rfl rfl (by decide) (by decide) (hR 21 0 22 rfl rfl)) ?_
  refine qm_G.s1 rfl (qm_x_alen (hS 22 rfl) rfl) ?_
  refine qm_G.s1 rfl (qm_x_aload rfl) ?_
  refine qm_G.s1 rfl (qm_x_iload rfl) ?_
  refine qm_G.s1 rfl (qm_x_aaldr (q := (some (0, 5, 0))) (hS 4 rfl) rfl rfl (by decide) (by decide) (hR 4 0 5 rfl rfl)) ?_
  refine qm_G.s1 rfl (qm_x_alen (hS 5 rfl) rfl) ?_
  refine qm_G.cs rfl rfl rfl ?_
  refine qm_v_min (by decide) (by decide) (fun w1 c2 => ⟨_, rfl, ?_⟩)
  obtain rfl : w1 = 6 := by omega
  refine qm_G.s1 rfl (qm_x_acopyI (qm_arS hS rfl rfl) (qm_arS hS rfl rfl) rfl (by decide) (by decide) (by decide) (by decide) (by decide) (by decide) (by decide)) ?_
  show qm_G _ _ _ _ _ (qm_H S (qm_cpy Jb1 22 0 (Int.toNat 0) 5 0 (Int.toNat 0) (Int.toNat 6)) K L D R X) _
  obtain ⟨Jb2, hb⟩ : ∃ x : qm_J, x = qm_cpy Jb1 22 0 (Int.toNat 0) 5 0 (Int.toNat 0) (Int.toNat 6) := ⟨_, rfl⟩
  rw [← hb]
  have eE2 : ∀ r s i : Nat, ¬ (2 ≤ r ∧ r ≤ 8) → Jb2 r s i = J r s i := fun r s i h => by rw [hb, qm_cp_ne (by omega)]; exact eE1 r s i h
  have eF2_0 : ∀ i : Nat, i < 6 → Jb2 3 0 i = J 20 0 i := fun i h => (congrFun (congrFun (congrFun hb 3) 0) i).trans ((qm_cp_ne (fun h => absurd h.1 (by decide))).trans (eF1_0 i h))
  have eF2_1 : ∀ i : Nat, i < 6 → Jb2 5 0 i = J 22 0 i := fun i h => by rw [hb, qm_cp_in (by omega) (by omega), show Int.toNat 0 + (i - Int.toNat 0) = i by omega]; exact eE1 22 0 i (by omega)
  clear hb
  refine qm_G.s1 rfl (qm_x_iinc (lv' := [(2, qm_I (qm_i (0 + 1))), (0, qm_R (some (0, 21, 0))), (1, qm_R (some (0, 4, 0)))]) 1 rfl rfl rfl) ?_
  refine qm_G.s1 rfl (qm_x_goto) ?_
  refine qm_G.sp (lv1 := [(0, qm_R (some (0, 21, 0))), (1, qm_R (some (0, 4, 0))), (2, qm_I (qm_i (0 + 1)))]) rfl rfl (qm_x_iload rfl) ?_
  refine qm_G.s1 rfl (qm_x_aload rfl) ?_
  refine qm_G.s1 rfl (qm_x_alen (hS 21 rfl) rfl) ?_
  refine qm_G.s1 rfl (qm_x_icmp_ge_f ⟨by decide, by decide⟩ ⟨by decide, by decide⟩ (by decide)) ?_
  refine qm_G.s1 rfl (qm_x_iload rfl) ?_
  refine qm_G.s1 rfl (qm_x_aload rfl) ?_
  refine qm_G.s1 rfl (qm_x_alen (hS 4 rfl) rfl) ?_
  refine qm_G.s1 rfl (qm_x_icmp_ge_f ⟨by decide, by decide⟩ ⟨by decide, by decide⟩ (by decide)) ?_
  refine qm_G.s1 rfl (qm_x_aload rfl) ?_
  refine qm_G.s1 rfl (qm_x_iload rfl) ?_
  refine qm_G.s1 rfl (qm_x_aaldr (q := (some (0, 23, 0))) (hS 21 rfl) rfl rfl (by decide) (by decide) (hR 21 1 23 rfl rfl)) ?_
  refine qm_G.s1 rfl (qm_x_pushI 0 rfl) ?_
  refine qm_G.s1 rfl (qm_x_aload rfl) ?_
  refine qm_G.s1 rfl (qm_x_iload rfl) ?_
  refine qm_G.s1 rfl (qm_x_aaldr (q := (some (0, 6, 0))) (hS 4 rfl) rfl rfl (by decide) (by decide) (hR 4 1 6 rfl rfl)) ?_
  refine qm_G.s1 rfl (qm_x_pushI 0 rfl) ?_
  refine qm_G.s1 rfl (qm_x_aload rfl) ?_
  refine qm_G.s1 rfl (qm_x_iload rfl) ?_
  refine qm_G.s1 rfl (qm_x_aaldr (q := (some (0, 23, 0))) (hS 21 rfl) rfl rfl (by decide) (by decide) (hR 21 1 23 rfl rfl)) ?_
  refine qm_G.s1 rfl (qm_x_alen (hS 23 rfl) rfl) ?_
  refine qm_G.s1 rfl (qm_x_aload rfl) ?_
  refine qm_G.s1 rfl (qm_x_iload rfl) ?_
  refine qm_G.s1 rfl (qm_x_aaldr (q := (some (0, 6, 0))) (hS 4 rfl) rfl rfl (by decide) (by decide) (hR 4 1 6 rfl rfl)) ?_
  refine qm_G.s1 rfl (qm_x_alen (hS 6 rfl) rfl) ?_
  refine qm_G.cs rfl rfl rfl ?_
  refine qm_v_min (by decide) (by decide) (fun w3 c4 => ⟨_, rfl, ?_⟩)
  obtain rfl : w3 = 6 := by omega
  refine qm_G.s1 rfl (qm_x_acopyI (qm_arS hS rfl rfl) (qm_arS hS rfl rfl) rfl (by decide) (by decide) (by decide) (by decide) (by decide) (by decide) (by decide)) ?_
  show qm_G _ _ _ _ _ (qm_H S (qm_cpy Jb2 23 0 (Int.toNat 0) 6 0 (Int.toNat 0) (Int.toNat 6)) K L D R X) _
  obtain ⟨Jb3, hb⟩ : ∃ x : qm_J, x = qm_cpy Jb2 23 0 (Int.toNat 0) 6 0 (Int.toNat 0) (Int.toNat 6) := ⟨_, rfl⟩
  rw [← hb]
  have eE3 : ∀ r s i : Nat, ¬ (2 ≤ r ∧ r ≤ 8) → Jb3 r s i = J r s i := fun r s i h => by rw [hb, qm_cp_ne (by omega)]; exact eE2 r s i h
  have eF3_0 : ∀ i : Nat, i < 6 → Jb3 3 0 i = J 20 0 i := fun i h => (congrFun (congrFun (congrFun hb 3) 0) i).trans ((qm_cp_ne (fun h => absurd h.1 (by decide))).trans (eF2_0 i h))
  have eF3_1 : ∀ i : Nat, i < 6 → Jb3 5 0 i = J 22 0 i := fun i h => (congrFun (congrFun (congrFun hb 5) 0) i).trans ((qm_cp_ne (fun h => absurd h.1 (by decide))).trans (eF2_1 i h))
  have eF3_2 : ∀ i : Nat, i < 6 → Jb3 6 0 i = J 23 0 i := fun i h => by rw [hb, qm_cp_in (by omega) (by omega), show Int.toNat 0 + (i - Int.toNat 0) = i by omega]; exact eE2 23 0 i (by omega)
  clear hb
  refine qm_G.s1 rfl (qm_x_iinc (lv' := [(2, qm_I (qm_i ((0 + 1) + 1))), (0, qm_R (some (0, 21, 0))), (1, qm_R (some (0, 4, 0)))]) 1 rfl rfl rfl) ?_
  refine qm_G.s1 rfl (qm_x_goto) ?_
  refine qm_G.sp (lv1 := [(0, qm_R (some (0, 21, 0))), (1, qm_R (some (0, 4, 0))), (2, qm_I (qm_i ((0 + 1) + 1)))]) rfl rfl (qm_x_iload rfl) ?_
  refine qm_G.s1 rfl (qm_x_aload rfl) ?_
  refine qm_G.s1 rfl (qm_x_alen (hS 21 rfl) rfl) ?_
  refine qm_G.s1 rfl (qm_x_icmp_ge_t ⟨by decide, by decide⟩ ⟨by decide, by decide⟩ (by decide)) ?_
  refine qm_G.retv rfl ⟨rfl, ?_⟩
  refine qm_G.s1 rfl (qm_x_pushI 0 rfl) ?_
  refine qm_G.s1 rfl (qm_x_istore (lv' := [(2, qm_I (qm_i 0)), (0, qm_R (some (0, 2, 0))), (1, qm_R (some (0, 19, 0)))]) rfl) ?_
  refine qm_G.sp (lv1 := [(0, qm_R (some (0, 2, 0))), (1, qm_R (some (0, 19, 0))), (2, qm_I (qm_i 0))]) rfl rfl (qm_x_iload rfl) ?_
  refine qm_G.s1 rfl (qm_x_pushI 8 rfl) ?_
  refine qm_G.s1 rfl (qm_x_icmp_ge_f ⟨by decide, by decide⟩ ⟨by decide, by decide⟩ (by decide)) ?_
  refine qm_G.s1 rfl (qm_x_aload rfl) ?_
  refine qm_G.s1 rfl (qm_x_getfR (q := (some (0, 7, 0))) (hS 2 rfl) (hR 2 2 7 rfl rfl)) ?_
  refine qm_G.s1 rfl (qm_x_iload rfl) ?_
  refine qm_G.s1 rfl (qm_x_aload rfl) ?_
  refine qm_G.s1 rfl (qm_x_getfR (q := (some (0, 24, 0))) (hS 19 rfl) (hR 19 2 24 rfl rfl)) ?_
  refine qm_G.s1 rfl (qm_x_iload rfl) ?_
  refine qm_G.s1 rfl (qm_x_aaldr (q := (R 24 0 0)) (hS 24 rfl) rfl rfl (by decide) (by decide) rfl) ?_
  refine qm_G.s1 rfl (qm_x_aastq (hS 7 rfl) (hv5 0 (by decide)).2 rfl (by decide) (by decide)) ?_
  refine qm_G.s1 rfl (qm_x_iinc (lv' := [(2, qm_I (qm_i (0 + 1))), (0, qm_R (some (0, 2, 0))), (1, qm_R (some (0, 19, 0)))]) 1 rfl rfl rfl) ?_
  refine qm_G.s1 rfl (qm_x_goto) ?_
  refine qm_G.sp (lv1 := [(0, qm_R (some (0, 2, 0))), (1, qm_R (some (0, 19, 0))), (2, qm_I (qm_i (0 + 1)))]) rfl rfl (qm_x_iload rfl) ?_
  refine qm_G.s1 rfl (qm_x_pushI 8 rfl) ?_
  refine qm_G.s1 rfl (qm_x_icmp_ge_f ⟨by decide, by decide⟩ ⟨by decide, by decide⟩ (by decide)) ?_
  refine qm_G.s1 rfl (qm_x_aload rfl) ?_
  refine qm_G.s1 rfl (qm_x_getfR (q := (some (0, 7, 0))) (hS 2 rfl) (hR 2 2 7 rfl rfl)) ?_
  refine qm_G.s1 rfl (qm_x_iload rfl) ?_
  refine qm_G.s1 rfl (qm_x_aload rfl) ?_
  refine qm_G.s1 rfl (qm_x_getfR (q := (some (0, 24, 0))) (hS 19 rfl) (hR 19 2 24 rfl rfl)) ?_
  refine qm_G.s1 rfl (qm_x_iload rfl) ?_
  refine qm_G.s1 rfl (qm_x_aaldr (q := (R 24 0 1)) (hS 24 rfl) rfl rfl (by decide) (by decide) rfl) ?_
  refine qm_G.s1 rfl (qm_x_aastq (hS 7 rfl) (hv5 1 (by decide)).2 rfl (by decide) (by decide)) ?_
  refine qm_G.s1 rfl (qm_x_iinc (lv' := [(2, qm_I (qm_i ((0 + 1) + 1))), (0, qm_R (some (0, 2, 0))), (1, qm_R (some (0, 19, 0)))]) 1 rfl rfl rfl) ?_
  refine qm_G.s1 rfl (qm_x_goto) ?_
  refine qm_G.sp (lv1 := [(0, qm_R (some (0, 2, 0))), (1, qm_R (some (0, 19, 0))), (2, qm_I (qm_i ((0 + 1) + 1)))]) rfl rfl (qm_x_iload rfl) ?_
  refine qm_G.s1 rfl (qm_x_pushI 8 rfl) ?_
  refine qm_G.s1 rfl (qm_x_icmp_ge_f ⟨by decide, by decide⟩ ⟨by decide, by decide⟩ (by decide)) ?_
  refine qm_G.s1 rfl (qm_x_aload rfl) ?_
  refine qm_G.s1 rfl (qm_x_getfR (q := (some (0, 7, 0))) (hS 2 rfl) (hR 2 2 7 rfl rfl)) ?_
  refine qm_G.s1 rfl (qm_x_iload rfl) ?_
  refine qm_G.s1 rfl (qm_x_aload rfl) ?_
  refine qm_G.s1 rfl (qm_x_getfR (q := (some (0, 24, 0))) (hS 19 rfl) (hR 19 2 24 rfl rfl)) ?_
  refine qm_G.s1 rfl (qm_x_iload rfl) ?_
  refine qm_G.s1 rfl (qm_x_aaldr (q := (R 24 0 2)) (hS 24 rfl) rfl rfl (by decide) (by decide) rfl) ?_
  refine qm_G.s1 rfl (qm_x_aastq (hS 7 rfl) (hv5 2 (by decide)).2 rfl (by decide) (by decide)) ?_
  refine qm_G.s1 rfl (qm_x_iinc (lv' := [(2, qm_I (qm_i (((0 + 1) + 1) + 1))), (0, qm_R (some (0, 2, 0))), (1, qm_R (some (0, 19, 0)))]) 1 rfl rfl rfl) ?_
  refine qm_G.s1 rfl (qm_x_goto) ?_
  refine qm_G.sp (lv1 := [(0, qm_R (some (0, 2, 0))), (1, qm_R (some (0, 19, 0))), (2, qm_I (qm_i (((0 + 1) + 1) + 1)))]) rfl rfl (qm_x_iload rfl) ?_
  refine qm_G.s1 rfl (qm_x_pushI 8 rfl) ?_
  refine qm_G.s1 rfl (qm_x_icmp_ge_f ⟨by decide, by decide⟩ ⟨by decide, by decide⟩ (by decide)) ?_
  refine qm_G.s1 rfl (qm_x_aload rfl) ?_
  refine qm_G.s1 rfl (qm_x_getfR (q := (some (0, 7, 0))) (hS 2 rfl) (hR 2 2 7 rfl rfl)) ?_
  refine qm_G.s1 rfl (qm_x_iload rfl) ?_
  refine qm_G.s1 rfl (qm_x_aload rfl) ?_
  refine qm_G.s1 rfl (qm_x_getfR (q := (some (0, 24, 0))) (hS 19 rfl) (hR 19 2 24 rfl rfl)) ?_
  refine qm_G.s1 rfl (qm_x_iload rfl) ?_
  refine qm_G.s1 rfl (qm_x_aaldr (q := (R 24 0 3)) (hS 24 rfl) rfl rfl (by decide) (by decide) rfl) ?_
  refine qm_G.s1 rfl (qm_x_aastq (hS 7 rfl) (hv5 3 (by decide)).2 rfl (by decide) (by decide)) ?_
  refine qm_G.s1 rfl (qm_x_iinc (lv' := [(2, qm_I (qm_i ((((0 + 1) + 1) + 1) + 1))), (0, qm_R (some (0, 2, 0))), (1, qm_R (some (0, 19, 0)))]) 1 rfl rfl rfl) ?_
  refine qm_G.s1 rfl (qm_x_goto) ?_
  refine qm_G.sp (lv1 := [(0, qm_R (some (0, 2, 0))), (1, qm_R (some (0, 19, 0))), (2, qm_I (qm_i ((((0 + 1) + 1) + 1) + 1)))]) rfl rfl (qm_x_iload rfl) ?_
  refine qm_G.s1 rfl (qm_x_pushI 8 rfl) ?_
  refine qm_G.s1 rfl (qm_x_icmp_ge_f ⟨by decide, by decide⟩ ⟨by decide, by decide⟩ (by decide)) ?_
  refine qm_G.s1 rfl (qm_x_aload rfl) ?_
  refine qm_G.s1 rfl (qm_x_getfR (q := (some (0, 7, 0))) (hS 2 rfl) (hR 2 2 7 rfl rfl)) ?_
  refine qm_G.s1 rfl (qm_x_iload rfl) ?_
  refine qm_G.s1 rfl (qm_x_aload rfl) ?_
  refine qm_G.s1 rfl (qm_x_getfR (q := (some (0, 24, 0))) (hS 19 rfl) (hR 19 2 24 rfl rfl)) ?_
  refine qm_G.s1 rfl (qm_x_iload rfl) ?_
  refine qm_G.s1 rfl (qm_x_aaldr (q := (R 24 0 4)) (hS 24 rfl) rfl rfl (by decide) (by decide) rfl) ?_
  refine qm_G.s1 rfl (qm_x_aastq (hS 7 rfl) (hv5 4 (by decide)).2 rfl (by decide) (by decide)) ?_
  refine qm_G.s1 rfl (qm_x_iinc (lv' := [(2, qm_I (qm_i (((((0 + 1) + 1) + 1) + 1) + 1))), (0, qm_R (some (0, 2, 0))), (1, qm_R (some (0, 19, 0)))]) 1 rfl rfl rfl) ?_
  refine qm_G.s1 rfl (qm_x_goto) ?_
  refine qm_G.sp (lv1 := [(0, qm_R (some (0, 2, 0))), (1, qm_R (some (0, 19, 0))), (2, qm_I (qm_i (((((0 + 1) + 1) + 1) + 1) + 1)))]) rfl rfl (qm_x_iload rfl) ?_
  refine qm_G.s1 rfl (qm_x_pushI 8 rfl) ?_
  refine qm_G.s1 rfl (qm_x_icmp_ge_f ⟨by decide, by decide⟩ ⟨by decide, by decide⟩ (by decide)) ?_
  refine qm_G.s1 rfl (qm_x_aload rfl) ?_
  refine qm_G.s1 rfl (qm_x_getfR (q := (some (0, 7, 0))) (hS 2 rfl) (hR 2 2 7 rfl rfl)) ?_
  refine qm_G.s1 rfl (qm_x_iload rfl) ?_
  refine qm_G.s1 rfl (qm_x_aload rfl) ?_
  refine qm_G.s1 rfl (qm_x_getfR (q := (some (0, 24, 0))) (hS 19 rfl) (hR 19 2 24 rfl rfl)) ?_
  refine qm_G.s1 rfl (qm_x_iload rfl) ?_
  refine qm_G.s1 rfl (qm_x_aaldr (q := (R 24 0 5)) (hS 24 rfl) rfl rfl (by decide) (by decide) rfl) ?_
  refine qm_G.s1 rfl (qm_x_aastq (hS 7 rfl) (hv5 5 (by decide)).2 rfl (by decide) (by decide)) ?_
  refine qm_G.s1 rfl (qm_x_iinc (lv' := [(2, qm_I (qm_i ((((((0 + 1) + 1) + 1) + 1) + 1) + 1))), (0, qm_R (some (0, 2, 0))), (1, qm_R (some (0, 19, 0)))]) 1 rfl rfl rfl) ?_
  refine qm_G.s1 rfl (qm_x_goto) ?_
  refine qm_G.sp (lv1 := [(0, qm_R (some (0, 2, 0))), (1, qm_R (some (0, 19, 0))), (2, qm_I (qm_i ((((((0 + 1) + 1) + 1) + 1) + 1) + 1)))]) rfl rfl (qm_x_iload rfl) ?_
  refine qm_G.s1 rfl (qm_x_pushI 8 rfl) ?_
  refine qm_G.s1 rfl (qm_x_icmp_ge_f ⟨by decide, by decide⟩ ⟨by decide, by decide⟩ (by decide)) ?_
  refine qm_G.s1 rfl (qm_x_aload rfl) ?_
  refine qm_G.s1 rfl (qm_x_getfR (q := (some (0, 7, 0))) (hS 2 rfl) (hR 2 2 7 rfl rfl)) ?_
  refine qm_G.s1 rfl (qm_x_iload rfl) ?_
  refine qm_G.s1 rfl (qm_x_aload rfl) ?_
  refine qm_G.s1 rfl (qm_x_getfR (q := (some (0, 24, 0))) (hS 19 rfl) (hR 19 2 24 rfl rfl)) ?_
  refine qm_G.s1 rfl (qm_x_iload rfl) ?_
  refine qm_G.s1 rfl (qm_x_aaldr (q := (R 24 0 6)) (hS 24 rfl) rfl rfl (by decide) (by decide) rfl) ?_
  refine qm_G.s1 rfl (qm_x_aastq (hS 7 rfl) (hv5 6 (by decide)).2 rfl (by decide) (by decide)) ?_
  refine qm_G.s1 rfl (qm_x_iinc (lv' := [(2, qm_I (qm_i (((((((0 + 1) + 1) + 1) + 1) + 1) + 1) + 1))), (0, qm_R (some (0, 2, 0))), (1, qm_R (some (0, 19, 0)))]) 1 rfl rfl rfl) ?_
  refine qm_G.s1 rfl (qm_x_goto) ?_
  refine qm_G.sp (lv1 := [(0, qm_R (some (0, 2, 0))), (1, qm_R (some (0, 19, 0))), (2, qm_I (qm_i (((((((0 + 1) + 1) + 1) + 1) + 1) + 1) + 1)))]) rfl rfl (qm_x_iload rfl) ?_
  refine qm_G.s1 rfl (qm_x_pushI 8 rfl) ?_
  refine qm_G.s1 rfl (qm_x_icmp_ge_f ⟨by decide, by decide⟩ ⟨by decide, by decide⟩ (by decide)) ?_
  refine qm_G.s1 rfl (qm_x_aload rfl) ?_
  refine qm_G.s1 rfl (qm_x_getfR (q := (some (0, 7, 0))) (hS 2 rfl) (hR 2 2 7 rfl rfl)) ?_
  refine qm_G.s1 rfl (qm_x_iload rfl) ?_
  refine qm_G.s1 rfl (qm_x_aload rfl) ?_
  refine qm_G.s1 rfl (qm_x_getfR (q := (some (0, 24, 0))) (hS 19 rfl) (hR 19 2 24 rfl rfl)) ?_
  refine qm_G.s1 rfl (qm_x_iload rfl) ?_
  refine qm_G.s1 rfl (qm_x_aaldr (q := (R 24 0 7)) (hS 24 rfl) rfl rfl (by decide) (by decide) rfl) ?_
  refine qm_G.s1 rfl (qm_x_aastq (hS 7 rfl) (hv5 7 (by decide)).2 rfl (by decide) (by decide)) ?_
  refine qm_G.s1 rfl (qm_x_iinc (lv' := [(2, qm_I (qm_i ((((((((0 + 1) + 1) + 1) + 1) + 1) + 1) + 1) + 1))), (0, qm_R (some (0, 2, 0))), (1, qm_R (some (0, 19, 0)))]) 1 rfl rfl rfl) ?_
  refine qm_G.s1 rfl (qm_x_goto) ?_
  refine qm_G.sp (lv1 := [(0, qm_R (some (0, 2, 0))), (1, qm_R (some (0, 19, 0))), (2, qm_I (qm_i ((((((((0 + 1) + 1) + 1) + 1) + 1) + 1) + 1) + 1)))]) rfl rfl (qm_x_iload rfl) ?_
  refine qm_G.s1 rfl (qm_x_pushI 8 rfl) ?_
  refine qm_G.s1 rfl (qm_x_icmp_ge_t ⟨by decide, by decide⟩ ⟨by decide, by decide⟩ (by decide)) ?_
  refine qm_G.sp (lv1 := [(0, qm_R (some (0, 2, 0))), (1, qm_R (some (0, 19, 0)))]) rfl rfl (qm_x_aload rfl) ?_
  refine qm_G.s1 rfl (qm_x_aload rfl) ?_
  refine qm_G.s1 rfl (qm_x_getfI (v := (J 19 0 3)) (hS 19 rfl) (eE3 19 0 3 (by omega))) ?_
  refine qm_G.s1 rfl (qm_x_putfI (hS 2 rfl)) ?_
  show qm_G _ _ _ _ _ (qm_H S (qm_set Jb3 2 0 3 (J 19 0 3)) K L D (qm_set (qm_set (qm_set (qm_set (qm_set (qm_set (qm_set (qm_set R 7 0 0 (R 24 0 0)) 7 0 1 (R 24 0 1)) 7 0 2 (R 24 0 2)) 7 0 3 (R 24 0 3)) 7 0 4 (R 24 0 4)) 7 0 5 (R 24 0 5)) 7 0 6 (R 24 0 6)) 7 0 7 (R 24 0 7)) X) _
  obtain ⟨Jb4, hb⟩ : ∃ x : qm_J, x = qm_set Jb3 2 0 3 (J 19 0 3) := ⟨_, rfl⟩
  rw [← hb]
  have eE4 : ∀ r s i : Nat, ¬ (2 ≤ r ∧ r ≤ 8) → Jb4 r s i = J r s i := fun r s i h => by rw [hb, qm_st_ne (by omega)]; exact eE3 r s i h
  have eF4_0 : ∀ i : Nat, i < 6 → Jb4 3 0 i = J 20 0 i := fun i h => (congrFun (congrFun (congrFun hb 3) 0) i).trans ((qm_st_ne (fun h => absurd h.1 (by decide))).trans (eF3_0 i h))
  have eF4_1 : ∀ i : Nat, i < 6 → Jb4 5 0 i = J 22 0 i := fun i h => (congrFun (congrFun (congrFun hb 5) 0) i).trans ((qm_st_ne (fun h => absurd h.1 (by decide))).trans (eF3_1 i h))
  have eF4_2 : ∀ i : Nat, i < 6 → Jb4 6 0 i = J 23 0 i := fun i h => (congrFun (congrFun (congrFun hb 6) 0) i).trans ((qm_st_ne (fun h => absurd h.1 (by decide))).trans (eF3_2 i h))
  have eF4_3 : Jb4 2 0 3 = J 19 0 3 := by rw [hb, qm_st_eq]
  clear hb
  refine qm_G.s1 rfl (qm_x_aload rfl) ?_
  refine qm_G.s1 rfl (qm_x_getfR (q := (some (0, 25, 0))) (hS 19 rfl) (hR 19 4 25 rfl rfl)) ?_
  refine qm_G.s1 rfl (qm_x_aload rfl) ?_
  refine qm_G.s1 rfl (qm_x_getfR (q := (some (0, 8, 0))) (hS 2 rfl) (hR 2 4 8 rfl rfl)) ?_
  refine qm_G.csv rfl rfl rfl ?_
  refine qm_C.go (cd := qm_P109) (lv := [(0, qm_R (some (0, 25, 0))), (1, qm_R (some (0, 8, 0)))]) rfl rfl ?_
  refine qm_G.s1 rfl (qm_x_pushI 0 rfl) ?_
  refine qm_G.s1 rfl (qm_x_istore (lv' := [(2, qm_I (qm_i 0)), (0, qm_R (some (0, 25, 0))), (1, qm_R (some (0, 8, 0)))]) rfl) ?_
  refine qm_G.sp (lv1 := [(0, qm_R (some (0, 25, 0))), (1, qm_R (some (0, 8, 0))), (2, qm_I (qm_i 0))]) rfl rfl (qm_x_iload rfl) ?_
  refine qm_G.s1 rfl (qm_x_aload rfl) ?_
  refine qm_G.s1 rfl (qm_x_aleng (hS 25 rfl) rfl) ?_
  refine qm_G.s1 rfl (qm_x_icmp_ge_f ⟨by decide, by decide⟩ ⟨by decide, by decide⟩ (by decide)) ?_
  refine qm_G.s1 rfl (qm_x_iload rfl) ?_
  refine qm_G.s1 rfl (qm_x_aload rfl) ?_
  refine qm_G.s1 rfl (qm_x_aleng (hS 8 rfl) rfl) ?_
  refine qm_G.s1 rfl (qm_x_icmp_ge_f ⟨by decide, by decide⟩ ⟨by decide, by decide⟩ (by decide)) ?_
  refine qm_G.s1 rfl (qm_x_aload rfl) ?_
  refine qm_G.s1 rfl (qm_x_iload rfl) ?_
  refine qm_G.s1 rfl (qm_x_aaldg (hS 25 rfl) rfl rfl (by decide) (by decide)) ?_
  refine qm_G.s1 rfl (qm_x_pushI 0 rfl) ?_
  refine qm_G.s1 rfl (qm_x_aload rfl) ?_
  refine qm_G.s1 rfl (qm_x_iload rfl) ?_
  refine qm_G.s1 rfl (qm_x_aaldg (hS 8 rfl) rfl rfl (by decide) (by decide)) ?_
  refine qm_G.s1 rfl (qm_x_pushI 0 rfl) ?_
  refine qm_G.s1 rfl (qm_x_aload rfl) ?_
  refine qm_G.s1 rfl (qm_x_iload rfl) ?_
  refine qm_G.s1 rfl (qm_x_aaldg (hS 25 rfl) rfl rfl (by decide) (by decide)) ?_
  refine qm_G.s1 rfl (qm_x_alenr (hS 25 rfl) rfl (by decide)) ?_
  refine qm_G.s1 rfl (qm_x_aload rfl) ?_
  refine qm_G.s1 rfl (qm_x_iload rfl) ?_
  refine qm_G.s1 rfl (qm_x_aaldg (hS 8 rfl) rfl rfl (by decide) (by decide)) ?_
  refine qm_G.s1 rfl (qm_x_alenr (hS 8 rfl) rfl (by decide)) ?_
  refine qm_G.cs rfl rfl rfl ?_
  refine qm_v_min (by decide) (by decide) (fun w5 c6 => ⟨_, rfl, ?_⟩)
  obtain rfl : w5 = 4 := by omega
  refine qm_G.s1 rfl (qm_x_acopyI (qm_arS hS rfl rfl) (qm_arS hS rfl rfl) rfl (by decide) (by decide) (by decide) (by decide) (by decide) (by decide) (by decide)) ?_
  show qm_G _ _ _ _ _ (qm_H S (qm_cpy Jb4 25 1 (Int.toNat 0) 8 1 (Int.toNat 0) (Int.toNat 4)) K L D (qm_set (qm_set (qm_set (qm_set (qm_set (qm_set (qm_set (qm_set R 7 0 0 (R 24 0 0)) 7 0 1 (R 24 0 1)) 7 0 2 (R 24 0 2)) 7 0 3 (R 24 0 3)) 7 0 4 (R 24 0 4)) 7 0 5 (R 24 0 5)) 7 0 6 (R 24 0 6)) 7 0 7 (R 24 0 7)) X) _
  obtain ⟨Jb5, hb⟩ : ∃ x : qm_J, x = qm_cpy Jb4 25 1 (Int.toNat 0) 8 1 (Int.toNat 0) (Int.toNat 4) := ⟨_, rfl⟩
  rw [← hb]
  have eE5 : ∀ r s i : Nat, ¬ (2 ≤ r ∧ r ≤ 8) → Jb5 r s i = J r s i := fun r s i h => by rw [hb, qm_cp_ne (by omega)]; exact eE4 r s i h
  have eF5_0 : ∀ i : Nat, i < 6 → Jb5 3 0 i = J 20 0 i := fun i h => (congrFun (congrFun (congrFun hb 3) 0) i).trans ((qm_cp_ne (fun h => absurd h.1 (by decide))).trans (eF4_0 i h))
  have eF5_1 : ∀ i : Nat, i < 6 → Jb5 5 0 i = J 22 0 i := fun i h => (congrFun (congrFun (congrFun hb 5) 0) i).trans ((qm_cp_ne (fun h => absurd h.1 (by decide))).trans (eF4_1 i h))
  have eF5_2 : ∀ i : Nat, i < 6 → Jb5 6 0 i = J 23 0 i := fun i h => (congrFun (congrFun (congrFun hb 6) 0) i).trans ((qm_cp_ne (fun h => absurd h.1 (by decide))).trans (eF4_2 i h))
  have eF5_3 : Jb5 2 0 3 = J 19 0 3 := (congrFun (congrFun (congrFun hb 2) 0) 3).trans ((qm_cp_ne (fun h => absurd h.1 (by decide))).trans eF4_3)
  have eF5_4 : ∀ i : Nat, i < 4 → Jb5 8 1 i = J 25 1 i := fun i h => by rw [hb, qm_cp_in (by omega) (by omega), show Int.toNat 0 + (i - Int.toNat 0) = i by omega]; exact eE4 25 1 i (by omega)
  clear hb
  refine qm_G.s1 rfl (qm_x_iinc (lv' := [(2, qm_I (qm_i (0 + 1))), (0, qm_R (some (0, 25, 0))), (1, qm_R (some (0, 8, 0)))]) 1 rfl rfl rfl) ?_
  refine qm_G.s1 rfl (qm_x_goto) ?_
  refine qm_G.sp (lv1 := [(0, qm_R (some (0, 25, 0))), (1, qm_R (some (0, 8, 0))), (2, qm_I (qm_i (0 + 1)))]) rfl rfl (qm_x_iload rfl) ?_
  refine qm_G.s1 rfl (qm_x_aload rfl) ?_
  refine qm_G.s1 rfl (qm_x_aleng (hS 25 rfl) rfl) ?_
  refine qm_G.s1 rfl (qm_x_icmp_ge_f ⟨by decide, by decide⟩ ⟨by decide, by decide⟩ (by decide)) ?_
  refine qm_G.s1 rfl (qm_x_iload rfl) ?_
  refine qm_G.s1 rfl (qm_x_aload rfl) ?_
  refine qm_G.s1 rfl (qm_x_aleng (hS 8 rfl) rfl) ?_
  refine qm_G.s1 rfl (qm_x_icmp_ge_f ⟨by decide, by decide⟩ ⟨by decide, by decide⟩ (by decide)) ?_
  refine qm_G.s1 rfl (qm_x_aload rfl) ?_
  refine qm_G.s1 rfl (qm_x_iload rfl) ?_
  refine qm_G.s1 rfl (qm_x_aaldg (hS 25 rfl) rfl rfl (by decide) (by decide)) ?_
  refine qm_G.s1 rfl (qm_x_pushI 0 rfl) ?_
  refine qm_G.s1 rfl (qm_x_aload rfl) ?_
  refine qm_G.s1 rfl (qm_x_iload rfl) ?_
  refine qm_G.s1 rfl (qm_x_aaldg (hS 8 rfl) rfl rfl (by decide) (by decide)) ?_
  refine qm_G.s1 rfl (qm_x_pushI 0 rfl) ?_
  refine qm_G.s1 rfl (qm_x_aload rfl) ?_
  refine qm_G.s1 rfl (qm_x_iload rfl) ?_
  refine qm_G.s1 rfl (qm_x_aaldg (hS 25 rfl) rfl rfl (by decide) (by decide)) ?_
  refine qm_G.s1 rfl (qm_x_alenr (hS 25 rfl) rfl (by decide)) ?_
  refine qm_G.s1 rfl (qm_x_aload rfl) ?_
  refine qm_G.s1 rfl (qm_x_iload rfl) ?_
  refine qm_G.s1 rfl (qm_x_aaldg (hS 8 rfl) rfl rfl (by decide) (by decide)) ?_
  refine qm_G.s1 rfl (qm_x_alenr (hS 8 rfl) rfl (by decide)) ?_
  refine qm_G.cs rfl rfl rfl ?_
  refine qm_v_min (by decide) (by decide) (fun w7 c8 => ⟨_, rfl, ?_⟩)
  obtain rfl : w7 = 4 := by omega
  refine qm_G.s1 rfl (qm_x_acopyI (qm_arS hS rfl rfl) (qm_arS hS rfl rfl) rfl (by decide) (by decide) (by decide) (by decide) (by decide) (by decide) (by decide)) ?_
  show qm_G _ _ _ _ _ (qm_H S (qm_cpy Jb5 25 2 (Int.toNat 0) 8 2 (Int.toNat 0) (Int.toNat 4)) K L D (qm_set (qm_set (qm_set (qm_set (qm_set (qm_set (qm_set (qm_set R 7 0 0 (R 24 0 0)) 7 0 1 (R 24 0 1)) 7 0 2 (R 24 0 2)) 7 0 3 (R 24 0 3)) 7 0 4 (R 24 0 4)) 7 0 5 (R 24 0 5)) 7 0 6 (R 24 0 6)) 7 0 7 (R 24 0 7)) X) _
  obtain ⟨Jb6, hb⟩ : ∃ x : qm_J, x = qm_cpy Jb5 25 2 (Int.toNat 0) 8 2 (Int.toNat 0) (Int.toNat 4) := ⟨_, rfl⟩
  rw [← hb]
  have eE6 : ∀ r s i : Nat, ¬ (2 ≤ r ∧ r ≤ 8) → Jb6 r s i = J r s i := fun r s i h => by rw [hb, qm_cp_ne (by omega)]; exact eE5 r s i h
  have eF6_0 : ∀ i : Nat, i < 6 → Jb6 3 0 i = J 20 0 i := fun i h => (congrFun (congrFun (congrFun hb 3) 0) i).trans ((qm_cp_ne (fun h => absurd h.1 (by decide))).trans (eF5_0 i h))
  have eF6_1 : ∀ i : Nat, i < 6 → Jb6 5 0 i = J 22 0 i := fun i h => (congrFun (congrFun (congrFun hb 5) 0) i).trans ((qm_cp_ne (fun h => absurd h.1 (by decide))).trans (eF5_1 i h))
  have eF6_2 : ∀ i : Nat, i < 6 → Jb6 6 0 i = J 23 0 i := fun i h => (congrFun (congrFun (congrFun hb 6) 0) i).trans ((qm_cp_ne (fun h => absurd h.1 (by decide))).trans (eF5_2 i h))
  have eF6_3 : Jb6 2 0 3 = J 19 0 3 := (congrFun (congrFun (congrFun hb 2) 0) 3).trans ((qm_cp_ne (fun h => absurd h.1 (by decide))).trans eF5_3)
  have eF6_4 : ∀ i : Nat, i < 4 → Jb6 8 1 i = J 25 1 i := fun i h => (congrFun (congrFun (congrFun hb 8) 1) i).trans ((qm_cp_ne (fun h => absurd h.2.1 (by decide))).trans (eF5_4 i h))
  have eF6_5 : ∀ i : Nat, i < 4 → Jb6 8 2 i = J 25 2 i := fun i h => by rw [hb, qm_cp_in (by omega) (by omega), show Int.toNat 0 + (i - Int.toNat 0) = i by omega]; exact eE5 25 2 i (by omega)
  clear hb
  refine qm_G.s1 rfl (qm_x_iinc (lv' := [(2, qm_I (qm_i ((0 + 1) + 1))), (0, qm_R (some (0, 25, 0))), (1, qm_R (some (0, 8, 0)))]) 1 rfl rfl rfl) ?_
  refine qm_G.s1 rfl (qm_x_goto) ?_
  refine qm_G.sp (lv1 := [(0, qm_R (some (0, 25, 0))), (1, qm_R (some (0, 8, 0))), (2, qm_I (qm_i ((0 + 1) + 1)))]) rfl rfl (qm_x_iload rfl) ?_
  refine qm_G.s1 rfl (qm_x_aload rfl) ?_
  refine qm_G.s1 rfl (qm_x_aleng (hS 25 rfl) rfl) ?_
  refine qm_G.s1 rfl (qm_x_icmp_ge_f ⟨by decide, by decide⟩ ⟨by decide, by decide⟩ (by decide)) ?_
  refine qm_G.s1 rfl (qm_x_iload rfl) ?_
  refine qm_G.s1 rfl (qm_x_aload rfl) ?_
  refine qm_G.s1 rfl (qm_x_aleng (hS 8 rfl) rfl) ?_
  refine qm_G.s1 rfl (qm_x_icmp_ge_f ⟨by decide, by decide⟩ ⟨by decide, by decide⟩ (by decide)) ?_
  refine qm_G.s1 rfl (qm_x_aload rfl) ?_
  refine qm_G.s1 rfl (qm_x_iload rfl) ?_
  refine qm_G.s1 rfl (qm_x_aaldg (hS 25 rfl) rfl rfl (by decide) (by decide)) ?_
  refine qm_G.s1 rfl (qm_x_pushI 0 rfl) ?_
  refine qm_G.s1 rfl (qm_x_aload rfl) ?_
  refine qm_G.s1 rfl (qm_x_iload rfl) ?_
  refine qm_G.s1 rfl (qm_x_aaldg (hS 8 rfl) rfl rfl (by decide) (by decide)) ?_
  refine qm_G.s1 rfl (qm_x_pushI 0 rfl) ?_
  refine qm_G.s1 rfl (qm_x_aload rfl) ?_
  refine qm_G.s1 rfl (qm_x_iload rfl) ?_
  refine qm_G.s1 rfl (qm_x_aaldg (hS 25 rfl) rfl rfl (by decide) (by decide)) ?_
  refine qm_G.s1 rfl (qm_x_alenr (hS 25 rfl) rfl (by decide)) ?_
  refine qm_G.s1 rfl (qm_x_aload rfl) ?_
  refine qm_G.s1 rfl (qm_x_iload rfl) ?_
  refine qm_G.s1 rfl (qm_x_aaldg (hS 8 rfl) rfl rfl (by decide) (by decide)) ?_
  refine qm_G.s1 rfl (qm_x_alenr (hS 8 rfl) rfl (by decide)) ?_
  refine qm_G.cs rfl rfl rfl ?_
  refine qm_v_min (by decide) (by decide) (fun w9 c10 => ⟨_, rfl, ?_⟩)
  obtain rfl : w9 = 4 := by omega
  refine qm_G.s1 rfl (qm_x_acopyI (qm_arS hS rfl rfl) (qm_arS hS rfl rfl) rfl (by decide) (by decide) (by decide) (by decide) (by decide) (by decide) (by decide)) ?_
  show qm_G _ _ _ _ _ (qm_H S (qm_cpy Jb6 25 3 (Int.toNat 0) 8 3 (Int.toNat 0) (Int.toNat 4)) K L D (qm_set (qm_set (qm_set (qm_set (qm_set (qm_set (qm_set (qm_set R 7 0 0 (R 24 0 0)) 7 0 1 (R 24 0 1)) 7 0 2 (R 24 0 2)) 7 0 3 (R 24 0 3)) 7 0 4 (R 24 0 4)) 7 0 5 (R 24 0 5)) 7 0 6 (R 24 0 6)) 7 0 7 (R 24 0 7)) X) _
  obtain ⟨Jb7, hb⟩ : ∃ x : qm_J, x = qm_cpy Jb6 25 3 (Int.toNat 0) 8 3 (Int.toNat 0) (Int.toNat 4) := ⟨_, rfl⟩
  rw [← hb]
  have eE7 : ∀ r s i : Nat, ¬ (2 ≤ r ∧ r ≤ 8) → Jb7 r s i = J r s i := fun r s i h => by rw [hb, qm_cp_ne (by omega)]; exact eE6 r s i h
  have eF7_0 : ∀ i : Nat, i < 6 → Jb7 3 0 i = J 20 0 i := fun i h => (congrFun (congrFun (congrFun hb 3) 0) i).trans ((qm_cp_ne (fun h => absurd h.1 (by decide))).trans (eF6_0 i h))
  have eF7_1 : ∀ i : Nat, i < 6 → Jb7 5 0 i = J 22 0 i := fun i h => (congrFun (congrFun (congrFun hb 5) 0) i).trans ((qm_cp_ne (fun h => absurd h.1 (by decide))).trans (eF6_1 i h))
  have eF7_2 : ∀ i : Nat, i < 6 → Jb7 6 0 i = J 23 0 i := fun i h => (congrFun (congrFun (congrFun hb 6) 0) i).trans ((qm_cp_ne (fun h => absurd h.1 (by decide))).trans (eF6_2 i h))
  have eF7_3 : Jb7 2 0 3 = J 19 0 3 := (congrFun (congrFun (congrFun hb 2) 0) 3).trans ((qm_cp_ne (fun h => absurd h.1 (by decide))).trans eF6_3)
  have eF7_4 : ∀ i : Nat, i < 4 → Jb7 8 1 i = J 25 1 i := fun i h => (congrFun (congrFun (congrFun hb 8) 1) i).trans ((qm_cp_ne (fun h => absurd h.2.1 (by decide))).trans (eF6_4 i h))
  have eF7_5 : ∀ i : Nat, i < 4 → Jb7 8 2 i = J 25 2 i := fun i h => (congrFun (congrFun (congrFun hb 8) 2) i).trans ((qm_cp_ne (fun h => absurd h.2.1 (by decide))).trans (eF6_5 i h))
  have eF7_6 : ∀ i : Nat, i < 4 → Jb7 8 3 i = J 25 3 i := fun i h => by rw [hb, qm_cp_in (by omega) (by omega), show Int.toNat 0 + (i - Int.toNat 0) = i by omega]; exact eE6 25 3 i (by omega)
  clear hb
  refine qm_G.s1 rfl (qm_x_iinc (lv' := [(2, qm_I (qm_i (((0 + 1) + 1) + 1))), (0, qm_R (some (0, 25, 0))), (1, qm_R (some (0, 8, 0)))]) 1 rfl rfl rfl) ?_
  refine qm_G.s1 rfl (qm_x_goto) ?_
  refine qm_G.sp (lv1 := [(0, qm_R (some (0, 25, 0))), (1, qm_R (some (0, 8, 0))), (2, qm_I (qm_i (((0 + 1) + 1) + 1)))]) rfl rfl (qm_x_iload rfl) ?_
  refine qm_G.s1 rfl (qm_x_aload rfl) ?_
  refine qm_G.s1 rfl (qm_x_aleng (hS 25 rfl) rfl) ?_
  refine qm_G.s1 rfl (qm_x_icmp_ge_t ⟨by decide, by decide⟩ ⟨by decide, by decide⟩ (by decide)) ?_
  refine qm_G.retv rfl ⟨rfl, ?_⟩
  refine qm_G.s1 rfl (qm_x_aload rfl) ?_
  refine qm_G.s1 rfl (qm_x_aload rfl) ?_
  refine qm_G.s1 rfl (qm_x_getfI (v := (J 19 0 5)) (hS 19 rfl) (eE7 19 0 5 (by omega))) ?_
  refine qm_G.s1 rfl (qm_x_putfI (hS 2 rfl)) ?_
  show qm_G _ _ _ _ _ (qm_H S (qm_set Jb7 2 0 5 (J 19 0 5)) K L D (qm_set (qm_set (qm_set (qm_set (qm_set (qm_set (qm_set (qm_set R 7 0 0 (R 24 0 0)) 7 0 1 (R 24 0 1)) 7 0 2 (R 24 0 2)) 7 0 3 (R 24 0 3)) 7 0 4 (R 24 0 4)) 7 0 5 (R 24 0 5)) 7 0 6 (R 24 0 6)) 7 0 7 (R 24 0 7)) X) _
  obtain ⟨Jb8, hb⟩ : ∃ x : qm_J, x = qm_set Jb7 2 0 5 (J 19 0 5) := ⟨_, rfl⟩
  rw [← hb]
  have eE8 : ∀ r s i : Nat, ¬ (2 ≤ r ∧ r ≤ 8) → Jb8 r s i = J r s i := fun r s i h => by rw [hb, qm_st_ne (by omega)]; exact eE7 r s i h
  have eF8_0 : ∀ i : Nat, i < 6 → Jb8 3 0 i = J 20 0 i := fun i h => (congrFun (congrFun (congrFun hb 3) 0) i).trans ((qm_st_ne (fun h => absurd h.1 (by decide))).trans (eF7_0 i h))
  have eF8_1 : ∀ i : Nat, i < 6 → Jb8 5 0 i = J 22 0 i := fun i h => (congrFun (congrFun (congrFun hb 5) 0) i).trans ((qm_st_ne (fun h => absurd h.1 (by decide))).trans (eF7_1 i h))
  have eF8_2 : ∀ i : Nat, i < 6 → Jb8 6 0 i = J 23 0 i := fun i h => (congrFun (congrFun (congrFun hb 6) 0) i).trans ((qm_st_ne (fun h => absurd h.1 (by decide))).trans (eF7_2 i h))
  have eF8_3 : Jb8 2 0 3 = J 19 0 3 := (congrFun (congrFun (congrFun hb 2) 0) 3).trans ((qm_st_ne (fun h => absurd h.2.2 (by decide))).trans eF7_3)
  have eF8_4 : ∀ i : Nat, i < 4 → Jb8 8 1 i = J 25 1 i := fun i h => (congrFun (congrFun (congrFun hb 8) 1) i).trans ((qm_st_ne (fun h => absurd h.1 (by decide))).trans (eF7_4 i h))
  have eF8_5 : ∀ i : Nat, i < 4 → Jb8 8 2 i = J 25 2 i := fun i h => (congrFun (congrFun (congrFun hb 8) 2) i).trans ((qm_st_ne (fun h => absurd h.1 (by decide))).trans (eF7_5 i h))
  have eF8_6 : ∀ i : Nat, i < 4 → Jb8 8 3 i = J 25 3 i := fun i h => (congrFun (congrFun (congrFun hb 8) 3) i).trans ((qm_st_ne (fun h => absurd h.1 (by decide))).trans (eF7_6 i h))
  have eF8_7 : Jb8 2 0 5 = J 19 0 5 := by rw [hb, qm_st_eq]
  clear hb
  exact qm_G.retv rfl (k Jb8 _ eE8 eF8_3 eF8_7 eF8_0 eF8_1 eF8_2 eF8_4 eF8_5 eF8_6 (fun r s i h => by rw [qm_st_ne (by omega), qm_st_ne (by omega), qm_st_ne (by omega), qm_st_ne (by omega), qm_st_ne (by omega), qm_st_ne (by omega), qm_st_ne (by omega), qm_st_ne (by omega)]) (fun i h => by rcases (show i = 0 ∨ i = 1 ∨ i = 2 ∨ i = 3 ∨ i = 4 ∨ i = 5 ∨ i = 6 ∨ i = 7 by omega) with c | c | c | c | c | c | c | c <;> subst c <;> rfl))
theorem qm_bt_und {S : List qm_Sh} {J K : qm_J} {L : qm_Ct Int64} {D : qm_Ct UInt64} {R : qm_Ct (Option qm_Rf)} {X : Nat × (Nat → Int32)} {Q : Option qm_V → qm_Hp → Prop} (hS : qm_Sd S) (hR : qm_Rd R) (k : ∀ (J1 : qm_J), (∀ r s i : Nat, ¬ (9 ≤ r ∧ r ≤ 10) → J1 r s i = J r s i) → (J1 9 0 1 = J 26 0 1) → (J1 9 0 2 = J 26 0 2) → (J1 10 0 0 = J 27 0 0) → (J1 10 0 1 = J 27 0 1) → Q none (qm_H S J1 K L (qm_set (qm_set D 9 0 3 (D 26 0 3)) 9 0 4 (D 26 0 4)) R X)) : qm_C qm_P 50 [qm_R (some (0, 9, 0)), qm_R (some (0, 26, 0))] (qm_H S J K L D R X) Q := by
  refine qm_C.go (cd := qm_P50) (lv := [(0, qm_R (some (0, 9, 0))), (1, qm_R (some (0, 26, 0)))]) rfl rfl ?_
  refine qm_G.s1 rfl (qm_x_aload rfl) ?_
  refine qm_G.s1 rfl (qm_x_getfR (q := (some (0, 10, 0))) (hS 9 rfl) (hR 9 0 10 rfl rfl)) ?_
  refine qm_G.s1 rfl (qm_x_pushI 0 rfl) ?_
  refine qm_G.s1 rfl (qm_x_aload rfl) ?_
  refine qm_G.s1 rfl (qm_x_getfR (q := (some (0, 27, 0))) (hS 26 rfl) (hR 26 0 27 rfl rfl)) ?_
  refine qm_G.s1 rfl (qm_x_pushI 0 rfl) ?_
  refine qm_G.s1 rfl (qm_x_iald (v := (J 27 0 0)) (qm_arS hS rfl rfl) rfl (by decide) (by decide) (by decide) rfl) ?_
  refine qm_G.s1 rfl (qm_x_iast (qm_arS hS rfl rfl) rfl (by decide) (by decide) (by decide)) ?_
  show qm_G _ _ _ _ _ (qm_H S (qm_set J 10 0 0 (J 27 0 0)) K L D R X) _
  obtain ⟨Jb1, hb⟩ : ∃ x : qm_J, x = qm_set J 10 0 0 (J 27 0 0) := ⟨_, rfl⟩
  rw [← hb]
  have eE1 : ∀ r s i : Nat, ¬ (9 ≤ r ∧ r ≤ 10) → Jb1 r s i = J r s i := fun r s i h => by rw [hb, qm_st_ne (by omega)]
  have eF1_0 : Jb1 10 0 0 = J 27 0 0 := by rw [hb, qm_st_eq]
  clear hb
  refine qm_G.s1 rfl (qm_x_aload rfl) ?_
  refine qm_G.s1 rfl (qm_x_getfR (q := (some (0, 10, 0))) (hS 9 rfl) (hR 9 0 10 rfl rfl)) ?_
  refine qm_G.s1 rfl (qm_x_pushI 1 rfl) ?_
  refine qm_G.s1 rfl (qm_x_aload rfl) ?_
  refine qm_G.s1 rfl (qm_x_getfR (q := (some (0, 27, 0))) (hS 26 rfl) (hR 26 0 27 rfl rfl)) ?_
  refine qm_G.s1 rfl (qm_x_pushI 1 rfl) ?_
  refine qm_G.s1 rfl (qm_x_iald (v := (J 27 0 1)) (qm_arS hS rfl rfl) rfl (by decide) (by decide) (by decide) (eE1 27 0 1 (by omega))) ?_
  refine qm_G.s1 rfl (qm_x_iast (qm_arS hS rfl rfl) rfl (by decide) (by decide) (by decide)) ?_
  show qm_G _ _ _ _ _ (qm_H S (qm_set Jb1 10 0 1 (J 27 0 1)) K L D R X) _
  obtain ⟨Jb2, hb⟩ : ∃ x : qm_J, x = qm_set Jb1 10 0 1 (J 27 0 1) := ⟨_, rfl⟩
  rw [← hb]
  have eE2 : ∀ r s i : Nat, ¬ (9 ≤ r ∧ r ≤ 10) → Jb2 r s i = J r s i := fun r s i h => by rw [hb, qm_st_ne (by omega)]; exact eE1 r s i h
  have eF2_0 : Jb2 10 0 0 = J 27 0 0 := (congrFun (congrFun (congrFun hb 10) 0) 0).trans ((qm_st_ne (fun h => absurd h.2.2 (by decide))).trans eF1_0)
  have eF2_1 : Jb2 10 0 1 = J 27 0 1 := by rw [hb, qm_st_eq]
  clear hb
  refine qm_G.s1 rfl (qm_x_aload rfl) ?_
  refine qm_G.s1 rfl (qm_x_aload rfl) ?_
  refine qm_G.s1 rfl (qm_x_getfI (v := (J 26 0 1)) (hS 26 rfl) (eE2 26 0 1 (by omega))) ?_
  refine qm_G.s1 rfl (qm_x_putfI (hS 9 rfl)) ?_
  show qm_G _ _ _ _ _ (qm_H S (qm_set Jb2 9 0 1 (J 26 0 1)) K L D R X) _
  obtain ⟨Jb3, hb⟩ : ∃ x : qm_J, x = qm_set Jb2 9 0 1 (J 26 0 1) := ⟨_, rfl⟩
  rw [← hb]
  have eE3 : ∀ r s i : Nat, ¬ (9 ≤ r ∧ r ≤ 10) → Jb3 r s i = J r s i := fun r s i h => by rw [hb, qm_st_ne (by omega)]; exact eE2 r s i h
  have eF3_0 : Jb3 10 0 0 = J 27 0 0 := (congrFun (congrFun (congrFun hb 10) 0) 0).trans ((qm_st_ne (fun h => absurd h.1 (by decide))).trans eF2_0)
  have eF3_1 : Jb3 10 0 1 = J 27 0 1 := (congrFun (congrFun (congrFun hb 10) 0) 1).trans ((qm_st_ne (fun h => absurd h.1 (by decide))).trans eF2_1)
  have eF3_2 : Jb3 9 0 1 = J 26 0 1 := by rw [hb, qm_st_eq]
  clear hb
  refine qm_G.s1 rfl (qm_x_aload rfl) ?_
  refine qm_G.s1 rfl (qm_x_aload rfl) ?_
  refine qm_G.s1 rfl (qm_x_getfI (v := (J 26 0 2)) (hS 26 rfl) (eE3 26 0 2 (by omega))) ?_
  refine qm_G.s1 rfl (qm_x_putfI (hS 9 rfl)) ?_
  show qm_G _ _ _ _ _ (qm_H S (qm_set Jb3 9 0 2 (J 26 0 2)) K L D R X) _
  obtain ⟨Jb4, hb⟩ : ∃ x : qm_J, x = qm_set Jb3 9 0 2 (J 26 0 2) := ⟨_, rfl⟩
  rw [← hb]
  have eE4 : ∀ r s i : Nat, ¬ (9 ≤ r ∧ r ≤ 10) → Jb4 r s i = J r s i := fun r s i h => by rw [hb, qm_st_ne (by omega)]; exact eE3 r s i h
  have eF4_0 : Jb4 10 0 0 = J 27 0 0 := (congrFun (congrFun (congrFun hb 10) 0) 0).trans ((qm_st_ne (fun h => absurd h.1 (by decide))).trans eF3_0)
  have eF4_1 : Jb4 10 0 1 = J 27 0 1 := (congrFun (congrFun (congrFun hb 10) 0) 1).trans ((qm_st_ne (fun h => absurd h.1 (by decide))).trans eF3_1)
  have eF4_2 : Jb4 9 0 1 = J 26 0 1 := (congrFun (congrFun (congrFun hb 9) 0) 1).trans ((qm_st_ne (fun h => absurd h.2.2 (by decide))).trans eF3_2)
  have eF4_3 : Jb4 9 0 2 = J 26 0 2 := by rw [hb, qm_st_eq]
  clear hb
  refine qm_G.s1 rfl (qm_x_aload rfl) ?_
  refine qm_G.s1 rfl (qm_x_aload rfl) ?_
  refine qm_G.s1 rfl (qm_x_getfD (a := (D 26 0 3)) (hS 26 rfl) rfl) ?_
  refine qm_G.s1 rfl (qm_x_putfD (hS 9 rfl)) ?_
  refine qm_G.s1 rfl (qm_x_aload rfl) ?_
  refine qm_G.s1 rfl (qm_x_aload rfl) ?_
  refine qm_G.s1 rfl (qm_x_getfD (a := (D 26 0 4)) (hS 26 rfl) rfl) ?_
  refine qm_G.s1 rfl (qm_x_putfD (hS 9 rfl)) ?_
  exact qm_G.retv rfl (k Jb4 eE4 eF4_2 eF4_3 eF4_0 eF4_1)
theorem qm_bn_und {S : List qm_Sh} {J K : qm_J} {L : qm_Ct Int64} {D : qm_Ct UInt64} {R : qm_Ct (Option qm_Rf)} {X : Nat × (Nat → Int32)} {Q : Option qm_V → qm_Hp → Prop} (hS : qm_Sd S) (hR : qm_Rd R) (k : ∀ (J1 : qm_J), (∀ r s i : Nat, ¬ (11 ≤ r ∧ r ≤ 16) → J1 r s i = J r s i) → (J1 11 0 3 = J 28 0 3) → (J1 11 0 6 = J 28 0 6) → (∀ i : Nat, i < 5 → J1 12 0 i = J 29 0 i) → (∀ i : Nat, i < 5 → J1 13 0 i = J 30 0 i) → (∀ i : Nat, i < 5 → J1 14 0 i = J 31 0 i) → (∀ i : Nat, i < 8 → J1 15 0 i = J 32 0 i) → (∀ i : Nat, i < 8 → J1 16 0 i = J 33 0 i) → Q none (qm_H S J1 K L D R X)) : qm_C qm_P 110 [qm_R (some (0, 11, 0)), qm_R (some (0, 28, 0))] (qm_H S J K L D R X) Q := by
  refine qm_C.go (cd := qm_P110) (lv := [(0, qm_R (some (0, 11, 0))), (1, qm_R (some (0, 28, 0)))]) rfl rfl ?_
  refine qm_G.s1 rfl (qm_x_aload rfl) ?_
  refine qm_G.s1 rfl (qm_x_getfR (q := (some (0, 29, 0))) (hS 28 rfl) (hR 28 0 29 rfl rfl)) ?_
  refine qm_G.s1 rfl (qm_x_pushI 0 rfl) ?_
  refine qm_G.s1 rfl (qm_x_aload rfl) ?_
  refine qm_G.s1 rfl (qm_x_getfR (q := (some (0, 12, 0))) (hS 11 rfl) (hR 11 0 12 rfl rfl)) ?_
  refine qm_G.s1 rfl (qm_x_pushI 0 rfl) ?_
  refine qm_G.s1 rfl (qm_x_pushI 5 rfl) ?_
  refine qm_G.s1 rfl (qm_x_acopyI (qm_arS hS rfl rfl) (qm_arS hS rfl rfl) rfl (by decide) (by decide) (by decide) (by decide) (by decide) (by decide) (by decide)) ?_
  show qm_G _ _ _ _ _ (qm_H S (qm_cpy J 29 0 (Int.toNat 0) 12 0 (Int.toNat 0) (Int.toNat 5)) K L D R X) _
  obtain ⟨Jb1, hb⟩ : ∃ x : qm_J, x = qm_cpy J 29 0 (Int.toNat 0) 12 0 (Int.toNat 0) (Int.toNat 5) := ⟨_, rfl⟩
  rw [← hb]
  have eE1 : ∀ r s i : Nat, ¬ (11 ≤ r ∧ r ≤ 16) → Jb1 r s i = J r s i := fun r s i h => by rw [hb, qm_cp_ne (by omega)]
  have eF1_0 : ∀ i : Nat, i < 5 → Jb1 12 0 i = J 29 0 i := fun i h => by rw [hb, qm_cp_in (by omega) (by omega), show Int.toNat 0 + (i - Int.toNat 0) = i by omega]
  clear hb
  refine qm_G.s1 rfl (qm_x_aload rfl) ?_
  refine qm_G.s1 rfl (qm_x_getfR (q := (some (0, 30, 0))) (hS 28 rfl) (hR 28 1 30 rfl rfl)) ?_
  refine qm_G.s1 rfl (qm_x_pushI 0 rfl) ?_
  refine qm_G.s1 rfl (qm_x_aload rfl) ?_
  refine qm_G.s1 rfl (qm_x_getfR (q := (some (0, 13, 0))) (hS 11 rfl) (hR 11 1 13 rfl rfl)) ?_
  refine qm_G.s1 rfl (qm_x_pushI 0 rfl) ?_
  refine qm_G.s1 rfl (qm_x_pushI 5 rfl) ?_
  refine qm_G.s1 rfl (qm_x_acopyI (qm_arS hS rfl rfl) (qm_arS hS rfl rfl) rfl (by decide) (by decide) (by decide) (by decide) (by decide) (by decide) (by decide)) ?_
  show qm_G _ _ _ _ _ (qm_H S (qm_cpy Jb1 30 0 (Int.toNat 0) 13 0 (Int.toNat 0) (Int.toNat 5)) K L D R X) _
  obtain ⟨Jb2, hb⟩ : ∃ x : qm_J, x = qm_cpy Jb1 30 0 (Int.toNat 0) 13 0 (Int.toNat 0) (Int.toNat 5) := ⟨_, rfl⟩
  rw [← hb]
  have eE2 : ∀ r s i : Nat, ¬ (11 ≤ r ∧ r ≤ 16) → Jb2 r s i = J r s i := fun r s i h => by rw [hb, qm_cp_ne (by omega)]; exact eE1 r s i h
  have eF2_0 : ∀ i : Nat, i < 5 → Jb2 12 0 i = J 29 0 i := fun i h => (congrFun (congrFun (congrFun hb 12) 0) i).trans ((qm_cp_ne (fun h => absurd h.1 (by decide))).trans (eF1_0 i h))
  have eF2_1 : ∀ i : Nat, i < 5 → Jb2 13 0 i = J 30 0 i := fun i h => by rw [hb, qm_cp_in (by omega) (by omega), show Int.toNat 0 + (i - Int.toNat 0) = i by omega]; exact eE1 30 0 i (by omega)
  clear hb
  refine qm_G.s1 rfl (qm_x_aload rfl) ?_
  refine qm_G.s1 rfl (qm_x_getfR (q := (some (0, 31, 0))) (hS 28 rfl) (hR 28 2 31 rfl rfl)) ?_
  refine qm_G.s1 rfl (qm_x_pushI 0 rfl) ?_
  refine qm_G.s1 rfl (qm_x_aload rfl) ?_
  refine qm_G.s1 rfl (qm_x_getfR (q := (some (0, 14, 0))) (hS 11 rfl) (hR 11 2 14 rfl rfl)) ?_
  refine qm_G.s1 rfl (qm_x_pushI 0 rfl) ?_
  refine qm_G.s1 rfl (qm_x_pushI 5 rfl) ?_
  refine qm_G.s1 rfl (qm_x_acopyI (qm_arS hS rfl rfl) (qm_arS hS rfl rfl) rfl (by decide) (by decide) (by decide) (by decide) (by decide) (by decide) (by decide)) ?_
  show qm_G _ _ _ _ _ (qm_H S (qm_cpy Jb2 31 0 (Int.toNat 0) 14 0 (Int.toNat 0) (Int.toNat 5)) K L D R X) _
  obtain ⟨Jb3, hb⟩ : ∃ x : qm_J, x = qm_cpy Jb2 31 0 (Int.toNat 0) 14 0 (Int.toNat 0) (Int.toNat 5) := ⟨_, rfl⟩
  rw [← hb]
  have eE3 : ∀ r s i : Nat, ¬ (11 ≤ r ∧ r ≤ 16) → Jb3 r s i = J r s i := fun r s i h => by rw [hb, qm_cp_ne (by omega)]; exact eE2 r s i h
  have eF3_0 : ∀ i : Nat, i < 5 → Jb3 12 0 i = J 29 0 i := fun i h => (congrFun (congrFun (congrFun hb 12) 0) i).trans ((qm_cp_ne (fun h => absurd h.1 (by decide))).trans (eF2_0 i h))
  have eF3_1 : ∀ i : Nat, i < 5 → Jb3 13 0 i = J 30 0 i := fun i h => (congrFun (congrFun (congrFun hb 13) 0) i).trans ((qm_cp_ne (fun h => absurd h.1 (by decide))).trans (eF2_1 i h))
  have eF3_2 : ∀ i : Nat, i < 5 → Jb3 14 0 i = J 31 0 i := fun i h => by rw [hb, qm_cp_in (by omega) (by omega), show Int.toNat 0 + (i - Int.toNat 0) = i by omega]; exact eE2 31 0 i (by omega)
  clear hb
  refine qm_G.s1 rfl (qm_x_aload rfl) ?_
  refine qm_G.s1 rfl (qm_x_aload rfl) ?_
  refine qm_G.s1 rfl (qm_x_getfI (v := (J 28 0 3)) (hS 28 rfl) (eE3 28 0 3 (by omega))) ?_
  refine qm_G.s1 rfl (qm_x_putfI (hS 11 rfl)) ?_
  show qm_G _ _ _ _ _ (qm_H S (qm_set Jb3 11 0 3 (J 28 0 3)) K L D R X) _
  obtain ⟨Jb4, hb⟩ : ∃ x : qm_J, x = qm_set Jb3 11 0 3 (J 28 0 3) := ⟨_, rfl⟩
  rw [← hb]
  have eE4 : ∀ r s i : Nat, ¬ (11 ≤ r ∧ r ≤ 16) → Jb4 r s i = J r s i := fun r s i h => by rw [hb, qm_st_ne (by omega)]; exact eE3 r s i h
  have eF4_0 : ∀ i : Nat, i < 5 → Jb4 12 0 i = J 29 0 i := fun i h => (congrFun (congrFun (congrFun hb 12) 0) i).trans ((qm_st_ne (fun h => absurd h.1 (by decide))).trans (eF3_0 i h))
  have eF4_1 : ∀ i : Nat, i < 5 → Jb4 13 0 i = J 30 0 i := fun i h => (congrFun (congrFun (congrFun hb 13) 0) i).trans ((qm_st_ne (fun h => absurd h.1 (by decide))).trans (eF3_1 i h))
  have eF4_2 : ∀ i : Nat, i < 5 → Jb4 14 0 i = J 31 0 i := fun i h => (congrFun (congrFun (congrFun hb 14) 0) i).trans ((qm_st_ne (fun h => absurd h.1 (by decide))).trans (eF3_2 i h))
  have eF4_3 : Jb4 11 0 3 = J 28 0 3 := by rw [hb, qm_st_eq]
  clear hb
  refine qm_G.s1 rfl (qm_x_aload rfl) ?_
  refine qm_G.s1 rfl (qm_x_getfR (q := (some (0, 32, 0))) (hS 28 rfl) (hR 28 4 32 rfl rfl)) ?_
  refine qm_G.s1 rfl (qm_x_pushI 0 rfl) ?_
  refine qm_G.s1 rfl (qm_x_aload rfl) ?_
  refine qm_G.s1 rfl (qm_x_getfR (q := (some (0, 15, 0))) (hS 11 rfl) (hR 11 4 15 rfl rfl)) ?_
  refine qm_G.s1 rfl (qm_x_pushI 0 rfl) ?_
  refine qm_G.s1 rfl (qm_x_pushI 8 rfl) ?_
  refine qm_G.s1 rfl (qm_x_acopyI (qm_arS hS rfl rfl) (qm_arS hS rfl rfl) rfl (by decide) (by decide) (by decide) (by decide) (by decide) (by decide) (by decide)) ?_
  show qm_G _ _ _ _ _ (qm_H S (qm_cpy Jb4 32 0 (Int.toNat 0) 15 0 (Int.toNat 0) (Int.toNat 8)) K L D R X) _
  obtain ⟨Jb5, hb⟩ : ∃ x : qm_J, x = qm_cpy Jb4 32 0 (Int.toNat 0) 15 0 (Int.toNat 0) (Int.toNat 8) := ⟨_, rfl⟩
  rw [← hb]
  have eE5 : ∀ r s i : Nat, ¬ (11 ≤ r ∧ r ≤ 16) → Jb5 r s i = J r s i := fun r s i h => by rw [hb, qm_cp_ne (by omega)]; exact eE4 r s i h
  have eF5_0 : ∀ i : Nat, i < 5 → Jb5 12 0 i = J 29 0 i := fun i h => (congrFun (congrFun (congrFun hb 12) 0) i).trans ((qm_cp_ne (fun h => absurd h.1 (by decide))).trans (eF4_0 i h))
  have eF5_1 : ∀ i : Nat, i < 5 → Jb5 13 0 i = J 30 0 i := fun i h => (congrFun (congrFun (congrFun hb 13) 0) i).trans ((qm_cp_ne (fun h => absurd h.1 (by decide))).trans (eF4_1 i h))
  have eF5_2 : ∀ i : Nat, i < 5 → Jb5 14 0 i = J 31 0 i := fun i h => (congrFun (congrFun (congrFun hb 14) 0) i).trans ((qm_cp_ne (fun h => absurd h.1 (by decide))).trans (eF4_2 i h))
  have eF5_3 : Jb5 11 0 3 = J 28 0 3 := (congrFun (congrFun (congrFun hb 11) 0) 3).trans ((qm_cp_ne (fun h => absurd h.1 (by decide))).trans eF4_3)
  have eF5_4 : ∀ i : Nat, i < 8 → Jb5 15 0 i = J 32 0 i := fun i h => by rw [hb, qm_cp_in (by omega) (by omega), show Int.toNat 0 + (i - Int.toNat 0) = i by omega]; exact eE4 32 0 i (by omega)
  clear hb
  refine qm_G.s1 rfl (qm_x_aload rfl) ?_
  refine qm_G.s1 rfl (qm_x_getfR (q := (some (0, 33, 0))) (hS 28 rfl) (hR 28 5 33 rfl rfl)) ?_
  refine qm_G.s1 rfl (qm_x_pushI 0 rfl) ?_
  refine qm_G.s1 rfl (qm_x_aload rfl) ?_
  refine qm_G.s1 rfl (qm_x_getfR (q := (some (0, 16, 0))) (hS 11 rfl) (hR 11 5 16 rfl rfl)) ?_
  refine qm_G.s1 rfl (qm_x_pushI 0 rfl) ?_
  refine qm_G.s1 rfl (qm_x_pushI 8 rfl) ?_
  refine qm_G.s1 rfl (qm_x_acopyI (qm_arS hS rfl rfl) (qm_arS hS rfl rfl) rfl (by decide) (by decide) (by decide) (by decide) (by decide) (by decide) (by decide)) ?_
  show qm_G _ _ _ _ _ (qm_H S (qm_cpy Jb5 33 0 (Int.toNat 0) 16 0 (Int.toNat 0) (Int.toNat 8)) K L D R X) _
  obtain ⟨Jb6, hb⟩ : ∃ x : qm_J, x = qm_cpy Jb5 33 0 (Int.toNat 0) 16 0 (Int.toNat 0) (Int.toNat 8) := ⟨_, rfl⟩
  rw [← hb]
  have eE6 : ∀ r s i : Nat, ¬ (11 ≤ r ∧ r ≤ 16) → Jb6 r s i = J r s i := fun r s i h => by rw [hb, qm_cp_ne (by omega)]; exact eE5 r s i h
  have eF6_0 : ∀ i : Nat, i < 5 → Jb6 12 0 i = J 29 0 i := fun i h => (congrFun (congrFun (congrFun hb 12) 0) i).trans ((qm_cp_ne (fun h => absurd h.1 (by decide))).trans (eF5_0 i h))
  have eF6_1 : ∀ i : Nat, i < 5 → Jb6 13 0 i = J 30 0 i := fun i h => (congrFun (congrFun (congrFun hb 13) 0) i).trans ((qm_cp_ne (fun h => absurd h.1 (by decide))).trans (eF5_1 i h))
  have eF6_2 : ∀ i : Nat, i < 5 → Jb6 14 0 i = J 31 0 i := fun i h => (congrFun (congrFun (congrFun hb 14) 0) i).trans ((qm_cp_ne (fun h => absurd h.1 (by decide))).trans (eF5_2 i h))
  have eF6_3 : Jb6 11 0 3 = J 28 0 3 := (congrFun (congrFun (congrFun hb 11) 0) 3).trans ((qm_cp_ne (fun h => absurd h.1 (by decide))).trans eF5_3)
  have eF6_4 : ∀ i : Nat, i < 8 → Jb6 15 0 i = J 32 0 i := fun i h => (congrFun (congrFun (congrFun hb 15) 0) i).trans ((qm_cp_ne (fun h => absurd h.1 (by decide))).trans (eF5_4 i h))
  have eF6_5 : ∀ i : Nat, i < 8 → Jb6 16 0 i = J 33 0 i := fun i h => by rw [hb, qm_cp_in (by omega) (by omega), show Int.toNat 0 + (i - Int.toNat 0) = i by omega]; exact eE5 33 0 i (by omega)
  clear hb
  refine qm_G.s1 rfl (qm_x_aload rfl) ?_
  refine qm_G.s1 rfl (qm_x_aload rfl) ?_
  refine qm_G.s1 rfl (qm_x_getfI (v := (J 28 0 6)) (hS 28 rfl) (eE6 28 0 6 (by omega))) ?_
  refine qm_G.s1 rfl (qm_x_putfI (hS 11 rfl)) ?_
  show qm_G _ _ _ _ _ (qm_H S (qm_set Jb6 11 0 6 (J 28 0 6)) K L D R X) _
  obtain ⟨Jb7, hb⟩ : ∃ x : qm_J, x = qm_set Jb6 11 0 6 (J 28 0 6) := ⟨_, rfl⟩
  rw [← hb]
  have eE7 : ∀ r s i : Nat, ¬ (11 ≤ r ∧ r ≤ 16) → Jb7 r s i = J r s i := fun r s i h => by rw [hb, qm_st_ne (by omega)]; exact eE6 r s i h
  have eF7_0 : ∀ i : Nat, i < 5 → Jb7 12 0 i = J 29 0 i := fun i h => (congrFun (congrFun (congrFun hb 12) 0) i).trans ((qm_st_ne (fun h => absurd h.1 (by decide))).trans (eF6_0 i h))
  have eF7_1 : ∀ i : Nat, i < 5 → Jb7 13 0 i = J 30 0 i := fun i h => (congrFun (congrFun (congrFun hb 13) 0) i).trans ((qm_st_ne (fun h => absurd h.1 (by decide))).trans (eF6_1 i h))
  have eF7_2 : ∀ i : Nat, i < 5 → Jb7 14 0 i = J 31 0 i := fun i h => (congrFun (congrFun (congrFun hb 14) 0) i).trans ((qm_st_ne (fun h => absurd h.1 (by decide))).trans (eF6_2 i h))
  have eF7_3 : Jb7 11 0 3 = J 28 0 3 := (congrFun (congrFun (congrFun hb 11) 0) 3).trans ((qm_st_ne (fun h => absurd h.2.2 (by decide))).trans eF6_3)
  have eF7_4 : ∀ i : Nat, i < 8 → Jb7 15 0 i = J 32 0 i := fun i h => (congrFun (congrFun (congrFun hb 15) 0) i).trans ((qm_st_ne (fun h => absurd h.1 (by decide))).trans (eF6_4 i h))
  have eF7_5 : ∀ i : Nat, i < 8 → Jb7 16 0 i = J 33 0 i := fun i h => (congrFun (congrFun (congrFun hb 16) 0) i).trans ((qm_st_ne (fun h => absurd h.1 (by decide))).trans (eF6_5 i h))
  have eF7_6 : Jb7 11 0 6 = J 28 0 6 := by rw [hb, qm_st_eq]
  clear hb
  exact qm_G.retv rfl (k Jb7 eE7 eF7_3 eF7_6 eF7_0 eF7_1 eF7_2 eF7_4 eF7_5)
theorem qm_br_und {S : List qm_Sh} {J K : qm_J} {L : qm_Ct Int64} {D : qm_Ct UInt64} {R : qm_Ct (Option qm_Rf)} {X : Nat × (Nat → Int32)} {Q : Option qm_V → qm_Hp → Prop} (hS : qm_Sd S) (hR : qm_Rd R) (k : ∀ (J1 : qm_J), (∀ r s i : Nat, ¬ (17 ≤ r ∧ r ≤ 17) → J1 r s i = J r s i) → (∀ i : Nat, i < 17 → J1 17 1 i = J 34 1 i) → (∀ i : Nat, i < 17 → J1 17 2 i = J 34 2 i) → Q none (qm_H S J1 K L D R X)) : qm_C qm_P 109 [qm_R (some (0, 34, 0)), qm_R (some (0, 17, 0))] (qm_H S J K L D R X) Q := by
  refine qm_C.go (cd := qm_P109) (lv := [(0, qm_R (some (0, 34, 0))), (1, qm_R (some (0, 17, 0)))]) rfl rfl ?_
  refine qm_G.s1 rfl (qm_x_pushI 0 rfl) ?_
  refine qm_G.s1 rfl (qm_x_istore (lv' := [(2, qm_I (qm_i 0)), (0, qm_R (some (0, 34, 0))), (1, qm_R (some (0, 17, 0)))]) rfl) ?_
  refine qm_G.sp (lv1 := [(0, qm_R (some (0, 34, 0))), (1, qm_R (some (0, 17, 0))), (2, qm_I (qm_i 0))]) rfl rfl (qm_x_iload rfl) ?_
  refine qm_G.s1 rfl (qm_x_aload rfl) ?_
  refine qm_G.s1 rfl (qm_x_aleng (hS 34 rfl) rfl) ?_
  refine qm_G.s1 rfl (qm_x_icmp_ge_f ⟨by decide, by decide⟩ ⟨by decide, by decide⟩ (by decide)) ?_
  refine qm_G.s1 rfl (qm_x_iload rfl) ?_
  refine qm_G.s1 rfl (qm_x_aload rfl) ?_
  refine qm_G.s1 rfl (qm_x_aleng (hS 17 rfl) rfl) ?_
  refine qm_G.s1 rfl (qm_x_icmp_ge_f ⟨by decide, by decide⟩ ⟨by decide, by decide⟩ (by decide)) ?_
  refine qm_G.s1 rfl (qm_x_aload rfl) ?_
  refine qm_G.s1 rfl (qm_x_iload rfl) ?_
  refine qm_G.s1 rfl (qm_x_aaldg (hS 34 rfl) rfl rfl (by decide) (by decide)) ?_
  refine qm_G.s1 rfl (qm_x_pushI 0 rfl) ?_
  refine qm_G.s1 rfl (qm_x_aload rfl) ?_
  refine qm_G.s1 rfl (qm_x_iload rfl) ?_
  refine qm_G.s1 rfl (qm_x_aaldg (hS 17 rfl) rfl rfl (by decide) (by decide)) ?_
  refine qm_G.s1 rfl (qm_x_pushI 0 rfl) ?_
  refine qm_G.s1 rfl (qm_x_aload rfl) ?_
  refine qm_G.s1 rfl (qm_x_iload rfl) ?_
  refine qm_G.s1 rfl (qm_x_aaldg (hS 34 rfl) rfl rfl (by decide) (by decide)) ?_
  refine qm_G.s1 rfl (qm_x_alenr (hS 34 rfl) rfl (by decide)) ?_
  refine qm_G.s1 rfl (qm_x_aload rfl) ?_
  refine qm_G.s1 rfl (qm_x_iload rfl) ?_
  refine qm_G.s1 rfl (qm_x_aaldg (hS 17 rfl) rfl rfl (by decide) (by decide)) ?_
  refine qm_G.s1 rfl (qm_x_alenr (hS 17 rfl) rfl (by decide)) ?_
  refine qm_G.cs rfl rfl rfl ?_
  refine qm_v_min (by decide) (by decide) (fun w1 c2 => ⟨_, rfl, ?_⟩)
  obtain rfl : w1 = 17 := by omega
  refine qm_G.s1 rfl (qm_x_acopyI (qm_arS hS rfl rfl) (qm_arS hS rfl rfl) rfl (by decide) (by decide) (by decide) (by decide) (by decide) (by decide) (by decide)) ?_
  show qm_G _ _ _ _ _ (qm_H S (qm_cpy J 34 1 (Int.toNat 0) 17 1 (Int.toNat 0) (Int.toNat 17)) K L D R X) _
  obtain ⟨Jb1, hb⟩ : ∃ x : qm_J, x = qm_cpy J 34 1 (Int.toNat 0) 17 1 (Int.toNat 0) (Int.toNat 17) := ⟨_, rfl⟩
  rw [← hb]
  have eE1 : ∀ r s i : Nat, ¬ (17 ≤ r ∧ r ≤ 17) → Jb1 r s i = J r s i := fun r s i h => by rw [hb, qm_cp_ne (by omega)]
  have eF1_0 : ∀ i : Nat, i < 17 → Jb1 17 1 i = J 34 1 i := fun i h => by rw [hb, qm_cp_in (by omega) (by omega), show Int.toNat 0 + (i - Int.toNat 0) = i by omega]
  clear hb
  refine qm_G.s1 rfl (qm_x_iinc (lv' := [(2, qm_I (qm_i (0 + 1))), (0, qm_R (some (0, 34, 0))), (1, qm_R (some (0, 17, 0)))]) 1 rfl rfl rfl) ?_
  refine qm_G.s1 rfl (qm_x_goto) ?_
  refine qm_G.sp (lv1 := [(0, qm_R (some (0, 34, 0))), (1, qm_R (some (0, 17, 0))), (2, qm_I (qm_i (0 + 1)))]) rfl rfl (qm_x_iload rfl) ?_
  refine qm_G.s1 rfl (qm_x_aload rfl) ?_
  refine qm_G.s1 rfl (qm_x_aleng (hS 34 rfl) rfl) ?_
  refine qm_G.s1 rfl (qm_x_icmp_ge_f ⟨by decide, by decide⟩ ⟨by decide, by decide⟩ (by decide)) ?_
  refine qm_G.s1 rfl (qm_x_iload rfl) ?_
  refine qm_G.s1 rfl (qm_x_aload rfl) ?_
  refine qm_G.s1 rfl (qm_x_aleng (hS 17 rfl) rfl) ?_
  refine qm_G.s1 rfl (qm_x_icmp_ge_f ⟨by decide, by decide⟩ ⟨by decide, by decide⟩ (by decide)) ?_
  refine qm_G.s1 rfl (qm_x_aload rfl) ?_
  refine qm_G.s1 rfl (qm_x_iload rfl) ?_
  refine qm_G.s1 rfl (qm_x_aaldg (hS 34 rfl) rfl rfl (by decide) (by decide)) ?_
  refine qm_G.s1 rfl (qm_x_pushI 0 rfl) ?_
  refine qm_G.s1 rfl (qm_x_aload rfl) ?_
  refine qm_G.s1 rfl (qm_x_iload rfl) ?_
  refine qm_G.s1 rfl (qm_x_aaldg (hS 17 rfl) rfl rfl (by decide) (by decide)) ?_
  refine qm_G.s1 rfl (qm_x_pushI 0 rfl) ?_
  refine qm_G.s1 rfl (qm_x_aload rfl) ?_
  refine qm_G.s1 rfl (qm_x_iload rfl) ?_
  refine qm_G.s1 rfl (qm_x_aaldg (hS 34 rfl) rfl rfl (by decide) (by decide)) ?_
  refine qm_G.s1 rfl (qm_x_alenr (hS 34 rfl) rfl (by decide)) ?_
  refine qm_G.s1 rfl (qm_x_aload rfl) ?_
  refine qm_G.s1 rfl (qm_x_iload rfl) ?_
  refine qm_G.s1 rfl (qm_x_aaldg (hS 17 rfl) rfl rfl (by decide) (by decide)) ?_
  refine qm_G.s1 rfl (qm_x_alenr (hS 17 rfl) rfl (by decide)) ?_
  refine qm_G.cs rfl rfl rfl ?_
  refine qm_v_min (by decide) (by decide) (fun w3 c4 => ⟨_, rfl, ?_⟩)
  obtain rfl : w3 = 17 := by omega
  refine qm_G.s1 rfl (qm_x_acopyI (qm_arS hS rfl rfl) (qm_arS hS rfl rfl) rfl (by decide) (by decide) (by decide) (by decide) (by decide) (by decide) (by decide)) ?_
  show qm_G _ _ _ _ _ (qm_H S (qm_cpy Jb1 34 2 (Int.toNat 0) 17 2 (Int.toNat 0) (Int.toNat 17)) K L D R X) _
  obtain ⟨Jb2, hb⟩ : ∃ x : qm_J, x = qm_cpy Jb1 34 2 (Int.toNat 0) 17 2 (Int.toNat 0) (Int.toNat 17) := ⟨_, rfl⟩
  rw [← hb]
  have eE2 : ∀ r s i : Nat, ¬ (17 ≤ r ∧ r ≤ 17) → Jb2 r s i = J r s i := fun r s i h => by rw [hb, qm_cp_ne (by omega)]; exact eE1 r s i h
  have eF2_0 : ∀ i : Nat, i < 17 → Jb2 17 1 i = J 34 1 i := fun i h => (congrFun (congrFun (congrFun hb 17) 1) i).trans ((qm_cp_ne (fun h => absurd h.2.1 (by decide))).trans (eF1_0 i h))
  have eF2_1 : ∀ i : Nat, i < 17 → Jb2 17 2 i = J 34 2 i := fun i h => by rw [hb, qm_cp_in (by omega) (by omega), show Int.toNat 0 + (i - Int.toNat 0) = i by omega]; exact eE1 34 2 i (by omega)
  clear hb
  refine qm_G.s1 rfl (qm_x_iinc (lv' := [(2, qm_I (qm_i ((0 + 1) + 1))), (0, qm_R (some (0, 34, 0))), (1, qm_R (some (0, 17, 0)))]) 1 rfl rfl rfl) ?_
  refine qm_G.s1 rfl (qm_x_goto) ?_
  refine qm_G.sp (lv1 := [(0, qm_R (some (0, 34, 0))), (1, qm_R (some (0, 17, 0))), (2, qm_I (qm_i ((0 + 1) + 1)))]) rfl rfl (qm_x_iload rfl) ?_
  refine qm_G.s1 rfl (qm_x_aload rfl) ?_
  refine qm_G.s1 rfl (qm_x_aleng (hS 34 rfl) rfl) ?_
  refine qm_G.s1 rfl (qm_x_icmp_ge_t ⟨by decide, by decide⟩ ⟨by decide, by decide⟩ (by decide)) ?_
  exact qm_G.retv rfl (k Jb2 eE2 eF2_0 eF2_1)
