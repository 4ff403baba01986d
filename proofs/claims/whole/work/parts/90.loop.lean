/-! THE LOOP OVER THE CALLS -/
theorem qm_loop {X : Nat × (Nat → Int32)} {Q : Option qm_V → qm_Hp → Prop} (hX : X.1 ≤ 3072) (fin : ∀ (S : List qm_Sh) (J K : qm_J) (L : qm_Ct Int64) (D : qm_Ct UInt64) (R : qm_Ct (Option qm_Rf)), qm_tot S ≤ 600000 → qm_slt S ≤ 7302250 → Q (some (qm_I (qm_i 1))) (qm_H S J K L D R X)) : ∀ (m : Nat) (z : Int) (k : Nat) (S : List qm_Sh) (J K : qm_J) (L : qm_Ct Int64) (D : qm_Ct UInt64) (R : qm_Ct (Option qm_Rf)), (X.1 : Int) ≤ z + 6 * m → 0 ≤ z → 6 * (k : Int) ≤ z → z ≤ 3072 → qm_Inv S J K L D R k → qm_G qm_P qm_P222 18 [(0, qm_R (some (2, 0, 0))), (1, qm_R (some (0, 0, 0))), (2, qm_R (some (0, 61, 0))), (3, qm_I (qm_i z))] [] (qm_H S J K L D R X) Q := by
  intro m
  induction m with
  | zero =>
    intro z k S J K L D R h1 h0 hk h3 hI
    refine qm_G.pk (lv1 := [(0, qm_R (some (2, 0, 0))), (1, qm_R (some (0, 0, 0))), (2, qm_R (some (0, 61, 0))), (3, qm_I (qm_i z))]) rfl rfl rfl ?_
    refine qm_G.sp (lv1 := [(0, qm_R (some (2, 0, 0))), (1, qm_R (some (0, 0, 0))), (2, qm_R (some (0, 61, 0))), (3, qm_I (qm_i z))]) rfl rfl (qm_x_iload rfl) ?_
    refine qm_G.s1 rfl (qm_x_aload rfl) ?_
    refine qm_G.s1 rfl (qm_x_alen2) ?_
    refine qm_G.s1 rfl (qm_x_pushI 6 rfl) ?_
    refine qm_G.s1 rfl (qm_x_isub) ?_
    refine qm_G.s1 rfl (qm_x_icmp_gt_t ⟨by omega, by omega⟩ ⟨by omega, by omega⟩ (by omega)) ?_
    refine qm_G.sp (lv1 := []) rfl rfl (qm_x_pushI 1 rfl) ?_
    exact qm_G.ret rfl rfl (fin _ _ _ _ _ _ (by have := hI.room.1; omega) (by have := hI.room.2; omega))
  | succ m ih =>
    intro z k S J K L D R h1 h0 hk h3 hI
    have nx : z + 6 ≤ X.1 → ∀ (S : List qm_Sh) (J K : qm_J) (L : qm_Ct Int64) (D : qm_Ct UInt64) (R : qm_Ct (Option qm_Rf)), qm_Inv S J K L D R (k + 1) → qm_G qm_P qm_P222 1445 [(0, qm_R (some (2, 0, 0))), (1, qm_R (some (0, 0, 0))), (2, qm_R (some (0, 61, 0))), (3, qm_I (qm_i z))] [] (qm_H S J K L D R X) Q := by
      intro h6 S J K L D R hI
      refine qm_G.sp (lv1 := [(0, qm_R (some (2, 0, 0))), (1, qm_R (some (0, 0, 0))), (2, qm_R (some (0, 61, 0))), (3, qm_I (qm_i z))]) rfl rfl (qm_x_iinc (lv' := [(3, qm_I (qm_i (z + 6))), (0, qm_R (some (2, 0, 0))), (1, qm_R (some (0, 0, 0))), (2, qm_R (some (0, 61, 0)))]) 6 rfl rfl rfl) ?_
      refine qm_G.s1 rfl (qm_x_goto) ?_
      refine qm_G.pk (lv1 := [(0, qm_R (some (2, 0, 0))), (1, qm_R (some (0, 0, 0))), (2, qm_R (some (0, 61, 0))), (3, qm_I (qm_i (z + 6)))]) rfl rfl rfl ?_
      exact ih (z + 6) (k + 1) _ _ _ _ _ _ (by omega) (by omega) (by omega) (by omega) hI
    refine qm_G.pk (lv1 := [(0, qm_R (some (2, 0, 0))), (1, qm_R (some (0, 0, 0))), (2, qm_R (some (0, 61, 0))), (3, qm_I (qm_i z))]) rfl rfl rfl ?_
    refine qm_G.sp (lv1 := [(0, qm_R (some (2, 0, 0))), (1, qm_R (some (0, 0, 0))), (2, qm_R (some (0, 61, 0))), (3, qm_I (qm_i z))]) rfl rfl (qm_x_iload rfl) ?_
    refine qm_G.s1 rfl (qm_x_aload rfl) ?_
    refine qm_G.s1 rfl (qm_x_alen2) ?_
    refine qm_G.s1 rfl (qm_x_pushI 6 rfl) ?_
    refine qm_G.s1 rfl (qm_x_isub) ?_
    refine qm_y_icmp_gt rfl ⟨by omega, by omega⟩ ⟨by omega, by omega⟩ (fun c1 => ?_) (fun c1 => ?_)
    · refine qm_G.sp (lv1 := []) rfl rfl (qm_x_pushI 1 rfl) ?_
      exact qm_G.ret rfl rfl (fin _ _ _ _ _ _ (by have := hI.room.1; omega) (by have := hI.room.2; omega))
    · refine qm_G.s1 rfl (qm_x_aload rfl) ?_
      refine qm_G.s1 rfl (qm_x_iload rfl) ?_
      refine qm_G.s1 rfl (qm_x_iald2 (by omega) (by omega) hX) ?_
      refine qm_G.s1 rfl (qm_x_pushI 63 rfl) ?_
      refine qm_y_iand63 rfl (fun w w1 w2 => ?_)
      rcases (show w = 0 ∨ w = 1 ∨ w = 2 ∨ w = 3 ∨ w = 4 ∨ w = 5 ∨ w = 6 ∨ w = 7 ∨ w = 8 ∨ w = 9 ∨ w = 10 ∨ w = 11 ∨ w = 12 ∨ w = 13 ∨ w = 14 ∨ w = 15 ∨ w = 16 ∨ w = 17 ∨ w = 18 ∨ w = 19 ∨ w = 20 ∨ w = 21 ∨ w = 22 ∨ w = 23 ∨ w = 24 ∨ w = 25 ∨ w = 26 ∨ w = 27 ∨ w = 28 ∨ w = 29 ∨ w = 30 ∨ w = 31 ∨ w = 32 ∨ w = 33 ∨ w = 34 ∨ w = 35 ∨ w = 36 ∨ (w < 0 ∨ 37 ≤ w) by omega) with c2 | c2 | c2 | c2 | c2 | c2 | c2 | c2 | c2 | c2 | c2 | c2 | c2 | c2 | c2 | c2 | c2 | c2 | c2 | c2 | c2 | c2 | c2 | c2 | c2 | c2 | c2 | c2 | c2 | c2 | c2 | c2 | c2 | c2 | c2 | c2 | c2 | c2
      · refine qm_G.s1 rfl (qm_x_tsweq (v := 0) (t := 196) c2 rfl) ?_
        exact qm_case0 hI hX h0 (by omega) rfl rfl (nx (by omega))
      · refine qm_G.s1 rfl (qm_x_tsweq (v := 1) (t := 229) c2 rfl) ?_
        exact qm_case1 hI hX h0 (by omega) rfl (nx (by omega))
      · refine qm_G.s1 rfl (qm_x_tsweq (v := 2) (t := 253) c2 rfl) ?_
        exact qm_case2 hI hX h0 (by omega) rfl rfl rfl (nx (by omega))
      · refine qm_G.s1 rfl (qm_x_tsweq (v := 3) (t := 296) c2 rfl) ?_
        exact qm_case3 hI hX h0 (by omega) rfl rfl rfl (nx (by omega))
      · refine qm_G.s1 rfl (qm_x_tsweq (v := 4) (t := 339) c2 rfl) ?_
        exact qm_case4 hI hX h0 (by omega) rfl rfl rfl (nx (by omega))
      · refine qm_G.s1 rfl (qm_x_tsweq (v := 5) (t := 382) c2 rfl) ?_
        exact qm_case5 hI hX h0 (by omega) rfl rfl rfl (nx (by omega))
      · refine qm_G.s1 rfl (qm_x_tsweq (v := 6) (t := 425) c2 rfl) ?_
        exact qm_case6 hI hX h0 (by omega) rfl rfl (nx (by omega))
      · refine qm_G.s1 rfl (qm_x_tsweq (v := 7) (t := 458) c2 rfl) ?_
        exact qm_case7 hI hX h0 (by omega) rfl (nx (by omega))
      · refine qm_G.s1 rfl (qm_x_tsweq (v := 8) (t := 481) c2 rfl) ?_
        exact qm_case8 hI hX h0 (by omega) rfl rfl (nx (by omega))
      · refine qm_G.s1 rfl (qm_x_tsweq (v := 9) (t := 514) c2 rfl) ?_
        exact qm_case9 hI hX h0 (by omega) rfl rfl (nx (by omega))
      · refine qm_G.s1 rfl (qm_x_tsweq (v := 10) (t := 547) c2 rfl) ?_
        exact qm_case10 hI hX h0 (by omega) rfl rfl (nx (by omega))
      · refine qm_G.s1 rfl (qm_x_tsweq (v := 11) (t := 581) c2 rfl) ?_
        exact qm_case11 hI hX h0 (by omega) rfl rfl rfl (nx (by omega))
      · refine qm_G.s1 rfl (qm_x_tsweq (v := 12) (t := 624) c2 rfl) ?_
        exact qm_case12 hI hX h0 (by omega) rfl rfl rfl (nx (by omega))
      · refine qm_G.s1 rfl (qm_x_tsweq (v := 13) (t := 667) c2 rfl) ?_
        exact qm_case13 hI hX h0 (by omega) rfl (nx (by omega))
      · refine qm_G.s1 rfl (qm_x_tsweq (v := 14) (t := 690) c2 rfl) ?_
        exact qm_case14 hI hX h0 (by omega) rfl rfl rfl (nx (by omega))
      · refine qm_G.s1 rfl (qm_x_tsweq (v := 15) (t := 734) c2 rfl) ?_
        exact qm_case15 hI hX h0 (by omega) rfl rfl (nx (by omega))
      · refine qm_G.s1 rfl (qm_x_tsweq (v := 16) (t := 767) c2 rfl) ?_
        exact qm_case16 hI hX h0 (by omega) rfl rfl rfl (nx (by omega))
      · refine qm_G.s1 rfl (qm_x_tsweq (v := 17) (t := 810) c2 rfl) ?_
        exact qm_case17 hI hX h0 (by omega) rfl rfl (nx (by omega))
      · refine qm_G.s1 rfl (qm_x_tsweq (v := 18) (t := 844) c2 rfl) ?_
        exact qm_case18 hI hX h0 (by omega) (by omega) rfl (nx (by omega))
      · refine qm_G.s1 rfl (qm_x_tsweq (v := 19) (t := 868) c2 rfl) ?_
        exact qm_case19 hI hX h0 (by omega) rfl rfl (nx (by omega))
      · refine qm_G.s1 rfl (qm_x_tsweq (v := 20) (t := 901) c2 rfl) ?_
        exact qm_case20 hI hX h0 (by omega) (by omega) rfl (nx (by omega))
      · refine qm_G.s1 rfl (qm_x_tsweq (v := 21) (t := 924) c2 rfl) ?_
        exact qm_case21 hI hX h0 (by omega) rfl (nx (by omega))
      · refine qm_G.s1 rfl (qm_x_tsweq (v := 22) (t := 947) c2 rfl) ?_
        exact qm_case22 hI hX h0 (by omega) (by omega) (nx (by omega))
      · refine qm_G.s1 rfl (qm_x_tsweq (v := 23) (t := 960) c2 rfl) ?_
        exact qm_case23 hI hX h0 (by omega) rfl (nx (by omega))
      · refine qm_G.s1 rfl (qm_x_tsweq (v := 24) (t := 983) c2 rfl) ?_
        exact qm_case24 hI hX h0 (by omega) rfl rfl rfl (nx (by omega))
      · refine qm_G.s1 rfl (qm_x_tsweq (v := 25) (t := 1026) c2 rfl) ?_
        exact qm_case25 hI hX h0 (by omega) rfl (nx (by omega))
      · refine qm_G.s1 rfl (qm_x_tsweq (v := 26) (t := 1049) c2 rfl) ?_
        exact qm_case26 hI hX h0 (by omega) rfl rfl (nx (by omega))
      · refine qm_G.s1 rfl (qm_x_tsweq (v := 27) (t := 1082) c2 rfl) ?_
        exact qm_case27 hI hX h0 (by omega) (nx (by omega))
      · refine qm_G.s1 rfl (qm_x_tsweq (v := 28) (t := 1096) c2 rfl) ?_
        exact qm_case28 hI hX h0 (by omega) rfl rfl rfl (nx (by omega))
      · refine qm_G.s1 rfl (qm_x_tsweq (v := 29) (t := 1140) c2 rfl) ?_
        exact qm_case29 hI hX h0 (by omega) rfl rfl rfl (nx (by omega))
      · refine qm_G.s1 rfl (qm_x_tsweq (v := 30) (t := 1183) c2 rfl) ?_
        exact qm_case30 hI hX h0 (by omega) (nx (by omega))
      · refine qm_G.s1 rfl (qm_x_tsweq (v := 31) (t := 1196) c2 rfl) ?_
        exact qm_case31 hI hX h0 (by omega) (nx (by omega))
      · refine qm_G.s1 rfl (qm_x_tsweq (v := 32) (t := 1209) c2 rfl) ?_
        exact qm_case32 hI hX h0 (by omega) rfl (nx (by omega))
      · refine qm_G.s1 rfl (qm_x_tsweq (v := 33) (t := 1232) c2 rfl) ?_
        exact qm_case33 hI hX h0 (by omega) rfl rfl rfl (nx (by omega))
      · refine qm_G.s1 rfl (qm_x_tsweq (v := 34) (t := 1275) c2 rfl) ?_
        exact qm_case34 hI hX h0 (by omega) rfl rfl rfl rfl (nx (by omega))
      · refine qm_G.s1 rfl (qm_x_tsweq (v := 35) (t := 1348) c2 rfl) ?_
        exact qm_case35 hI hX h0 (by omega) rfl rfl (nx (by omega))
      · refine qm_G.s1 rfl (qm_x_tsweq (v := 36) (t := 1382) c2 rfl) ?_
        exact qm_case36 hI hX h0 (by omega) rfl rfl rfl rfl rfl (nx (by omega))
      · refine qm_G.s1 rfl (qm_x_tswd (m := 37) rfl ⟨by omega, by omega⟩ (by omega) (by omega) (by decide)) ?_
        exact nx (by omega) _ _ _ _ _ _ hI.next
