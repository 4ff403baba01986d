/-! JUDGE, TAPES: the loops -/
theorem qm_d_jd0 {S : List qm_Sh} {J K : qm_J} {L : qm_Ct Int64} {D : qm_Ct UInt64} {R : qm_Ct (Option qm_Rf)} {X : Nat × (Nat → Int32)} {Q : Option qm_V → qm_Hp → Prop} {q q' : Nat} {lim i ln : Int} {f : Int → Int64} {b : Int → Int} (hS : qm_Sd S) (hR : qm_Rd R) (rl : 1 ≤ lim ∧ lim ≤ 8) (ri : 0 ≤ i ∧ i ≤ 2147483647) (rn : 0 ≤ ln ∧ ln ≤ 60) (rb : ∀ k : Int, 0 ≤ k → k ≤ 2 * lim → 0 ≤ b k ∧ b k ≤ 6) (hs : qm_nth S q = some (Sum.inl 8)) (hr0 : R q 0 0 = some (0, q', 0)) (hs' : qm_nth S q' = some (Sum.inr (Sum.inl (2, 60)))) (hln : J q 0 2 = ln) (hf : ∀ (x : Int) (y : Nat), y = Int.toNat x → 0 ≤ x → x < 60 → L q' 0 y = f x) (hb : ∀ (k : Int) (y : Nat), y = Int.toNat (k - lim + 8) → 0 ≤ k → k ≤ 2 * lim → J 17 1 y = b k) : ∀ (n : Nat) (k : Int), k + n = 2 * lim + 1 → 0 ≤ k → Q (some (qm_I (qm_i (qm_jd ln i f b n k)))) (qm_H S J K L D R X) → qm_G qm_P qm_P115 69 [(0, qm_R (some (0, 0, 0))), (1, qm_I (qm_i 0)), (3, qm_I (qm_i i)), (4, qm_R (some (0, q, 0))), (5, qm_I (qm_i lim)), (6, qm_I (qm_i k))] [] (qm_H S J K L D R X) Q := by
  intro n
  induction n with
  | zero =>
    intro k h1 h2 k9
    refine qm_G.pk (lv1 := [(0, qm_R (some (0, 0, 0))), (1, qm_I (qm_i 0)), (3, qm_I (qm_i i)), (4, qm_R (some (0, q, 0))), (5, qm_I (qm_i lim)), (6, qm_I (qm_i k))]) rfl rfl rfl ?_
    refine qm_G.sp (lv1 := [(0, qm_R (some (0, 0, 0))), (1, qm_I (qm_i 0)), (3, qm_I (qm_i i)), (4, qm_R (some (0, q, 0))), (5, qm_I (qm_i lim)), (6, qm_I (qm_i k))]) rfl rfl (qm_x_iload rfl) ?_
    refine qm_G.s1 rfl (qm_x_pushI 2 rfl) ?_
    refine qm_G.s1 rfl (qm_x_iload rfl) ?_
    refine qm_G.s1 rfl (qm_x_imul) ?_
    refine qm_G.s1 rfl (qm_x_icmp_gt_t ⟨by omega, by omega⟩ ⟨by omega, by omega⟩ (by omega)) ?_
    refine qm_G.sp (lv1 := []) rfl rfl (qm_x_pushI (-5) rfl) ?_
    exact qm_G.ret rfl rfl k9
  | succ n ih =>
    intro k h1 h2 k9
    have h3 : k ≤ 2 * lim := by omega
    refine qm_G.pk (lv1 := [(0, qm_R (some (0, 0, 0))), (1, qm_I (qm_i 0)), (3, qm_I (qm_i i)), (4, qm_R (some (0, q, 0))), (5, qm_I (qm_i lim)), (6, qm_I (qm_i k))]) rfl rfl rfl ?_
    refine qm_G.sp (lv1 := [(0, qm_R (some (0, 0, 0))), (1, qm_I (qm_i 0)), (3, qm_I (qm_i i)), (4, qm_R (some (0, q, 0))), (5, qm_I (qm_i lim)), (6, qm_I (qm_i k))]) rfl rfl (qm_x_iload rfl) ?_
    refine qm_G.s1 rfl (qm_x_pushI 2 rfl) ?_
    refine qm_G.s1 rfl (qm_x_iload rfl) ?_
    refine qm_G.s1 rfl (qm_x_imul) ?_
    refine qm_G.s1 rfl (qm_x_icmp_gt_f ⟨by omega, by omega⟩ ⟨by omega, by omega⟩ (by omega)) ?_
    refine qm_G.s1 rfl (qm_x_iload rfl) ?_
    refine qm_G.s1 rfl (qm_x_aload rfl) ?_
    refine qm_G.s1 rfl (qm_x_getfI (v := ln) hs hln) ?_
    refine qm_G.s1 rfl (qm_x_iload rfl) ?_
    refine qm_G.s1 rfl (qm_x_isub) ?_
    refine qm_y_icmp_lt rfl ⟨by omega, by omega⟩ ⟨by omega, by omega⟩ (fun c1 => ?_) (fun c1 => ?_)
    · refine qm_G.sp (lv1 := [(0, qm_R (some (0, 0, 0))), (1, qm_I (qm_i 0)), (3, qm_I (qm_i i)), (4, qm_R (some (0, q, 0))), (5, qm_I (qm_i lim)), (6, qm_I (qm_i k))]) rfl rfl (qm_x_aload rfl) ?_
      refine qm_G.s1 rfl (qm_x_getfR (q := (some (0, q', 0))) hs hr0) ?_
      refine qm_G.s1 rfl (qm_x_iload rfl) ?_
      refine qm_G.s1 rfl (qm_x_iload rfl) ?_
      refine qm_G.s1 rfl (qm_x_iadd) ?_
      refine qm_G.s1 rfl (qm_x_lald (a := (f (i + k))) (qm_arD hs') rfl (by omega) (by omega) (by decide) (hf (i + k) _ (by omega) (by omega) (by omega))) ?_
      refine qm_G.s1 rfl (qm_x_aload rfl) ?_
      refine qm_G.s1 rfl (qm_x_getfR (q := (some (0, 1, 0))) (hS 0 rfl) (hR 0 0 1 rfl rfl)) ?_
      refine qm_G.s1 rfl (qm_x_getfR (q := (some (0, 17, 0))) (hS 1 rfl) (hR 1 3 17 rfl rfl)) ?_
      refine qm_G.s1 rfl (qm_x_iload rfl) ?_
      refine qm_G.s1 rfl (qm_x_aaldg (hS 17 rfl) rfl rfl (by decide) (by decide)) ?_
      refine qm_G.s1 rfl (qm_x_iload rfl) ?_
      refine qm_G.s1 rfl (qm_x_iload rfl) ?_
      refine qm_G.s1 rfl (qm_x_isub) ?_
      refine qm_G.s1 rfl (qm_x_pushI 8 rfl) ?_
      refine qm_G.s1 rfl (qm_x_iadd) ?_
      have g2 := rb k (by omega) (by omega)
      refine qm_G.s1 rfl (qm_x_iald (v := (b k)) (qm_arS hS rfl rfl) rfl (by omega) (by omega) (by decide) (hb k _ (by omega) (by omega) (by omega))) ?_
      refine qm_G.s1 rfl (qm_x_i2l ⟨by omega, by omega⟩) ?_
      refine qm_y_lcmpr rfl (fun c3 => ?_) (fun c3 => ?_) (fun c3 => ?_)
      · refine qm_G.s1 rfl (qm_x_if_eq_f ⟨by decide, by decide⟩ (by decide)) ?_
        refine qm_G.s1 rfl (qm_x_iload rfl) ?_
        exact qm_G.ret rfl rfl (by rw [qm_jd_c (by omega) (qm_lt_ne c3)] at k9; exact k9)
      · refine qm_G.s1 rfl (qm_x_if_eq_t ⟨by decide, by decide⟩ (by decide)) ?_
        refine qm_G.sp (lv1 := [(0, qm_R (some (0, 0, 0))), (1, qm_I (qm_i 0)), (3, qm_I (qm_i i)), (4, qm_R (some (0, q, 0))), (5, qm_I (qm_i lim)), (6, qm_I (qm_i k))]) rfl rfl (qm_x_iinc (lv' := [(6, qm_I (qm_i (k + 1))), (0, qm_R (some (0, 0, 0))), (1, qm_I (qm_i 0)), (3, qm_I (qm_i i)), (4, qm_R (some (0, q, 0))), (5, qm_I (qm_i lim))]) 1 rfl rfl rfl) ?_
        refine qm_G.s1 rfl (qm_x_goto) ?_
        refine qm_G.pk (lv1 := [(0, qm_R (some (0, 0, 0))), (1, qm_I (qm_i 0)), (3, qm_I (qm_i i)), (4, qm_R (some (0, q, 0))), (5, qm_I (qm_i lim)), (6, qm_I (qm_i (k + 1)))]) rfl rfl rfl ?_
        exact ih (k + 1) (by omega) (by omega) (by rw [qm_jd_b (by omega) c3] at k9; exact k9)
      · refine qm_G.s1 rfl (qm_x_if_eq_f ⟨by decide, by decide⟩ (by decide)) ?_
        refine qm_G.s1 rfl (qm_x_iload rfl) ?_
        exact qm_G.ret rfl rfl (by rw [qm_jd_c (by omega) (fun e9 => qm_lt_ne c3 e9.symm)] at k9; exact k9)
    · refine qm_G.s1 rfl (qm_x_pushI 100 rfl) ?_
      refine qm_G.s1 rfl (qm_x_iload rfl) ?_
      refine qm_G.s1 rfl (qm_x_iadd) ?_
      exact qm_G.ret rfl rfl (by rw [qm_jd_a (by omega)] at k9; exact k9)
theorem qm_m_jd0 {S : List qm_Sh} {J K : qm_J} {L : qm_Ct Int64} {D : qm_Ct UInt64} {R : qm_Ct (Option qm_Rf)} {X : Nat × (Nat → Int32)} {Q : Option qm_V → qm_Hp → Prop} {T : Int} {lim i ln : Int} {f : Int → Int64} {b : Int → Int} (hS : qm_Sd S) (hR : qm_Rd R) (rl : 1 ≤ lim ∧ lim ≤ 8) (ri : 0 ≤ i ∧ i ≤ 2147483647) (rn : 0 ≤ ln ∧ ln ≤ 60) (rb : ∀ k : Int, 0 ≤ k → k ≤ 2 * lim → 0 ≤ b k ∧ b k ≤ 6) (rT : 0 ≤ T ∧ T ≤ 5) (hl : J 62 0 1 = lim) (h74 : J 74 0 (Int.toNat T) = ln) (hf : ∀ (x : Int) (y : Nat), y = Int.toNat (60 * T + x) → 0 ≤ x → x < 60 → L 75 0 y = f x) (hb : ∀ (k : Int) (y : Nat), y = Int.toNat (62 + 2 * (8 - lim + k) + 0) → 0 ≤ k → k ≤ 2 * lim → J 62 0 y = b k) : ∀ (n : Nat) (k : Int), k + n = 2 * lim + 1 → 0 ≤ k → Q (some (qm_I (qm_i (qm_jd ln i f b n k)))) (qm_H S J K L D R X) → qm_G qm_P qm_P126 60 [(0, qm_R (some (0, 61, 0))), (1, qm_I (qm_i 0)), (2, qm_I (qm_i T)), (3, qm_I (qm_i i)), (4, qm_I (qm_i (2 * lim + 1))), (5, qm_I (qm_i k))] [] (qm_H S J K L D R X) Q := by
  intro n
  induction n with
  | zero =>
    intro k h1 h2 k9
    refine qm_G.pk (lv1 := [(0, qm_R (some (0, 61, 0))), (1, qm_I (qm_i 0)), (2, qm_I (qm_i T)), (3, qm_I (qm_i i)), (4, qm_I (qm_i (2 * lim + 1))), (5, qm_I (qm_i k))]) rfl rfl rfl ?_
    refine qm_G.sp (lv1 := [(0, qm_R (some (0, 61, 0))), (1, qm_I (qm_i 0)), (2, qm_I (qm_i T)), (3, qm_I (qm_i i)), (4, qm_I (qm_i (2 * lim + 1))), (5, qm_I (qm_i k))]) rfl rfl (qm_x_iload rfl) ?_
    refine qm_G.s1 rfl (qm_x_iload rfl) ?_
    refine qm_G.s1 rfl (qm_x_icmp_ge_t ⟨by omega, by omega⟩ ⟨by omega, by omega⟩ (by omega)) ?_
    refine qm_G.sp (lv1 := []) rfl rfl (qm_x_pushI (-5) rfl) ?_
    exact qm_G.ret rfl rfl k9
  | succ n ih =>
    intro k h1 h2 k9
    have h3 : k ≤ 2 * lim := by omega
    refine qm_G.pk (lv1 := [(0, qm_R (some (0, 61, 0))), (1, qm_I (qm_i 0)), (2, qm_I (qm_i T)), (3, qm_I (qm_i i)), (4, qm_I (qm_i (2 * lim + 1))), (5, qm_I (qm_i k))]) rfl rfl rfl ?_
    refine qm_G.sp (lv1 := [(0, qm_R (some (0, 61, 0))), (1, qm_I (qm_i 0)), (2, qm_I (qm_i T)), (3, qm_I (qm_i i)), (4, qm_I (qm_i (2 * lim + 1))), (5, qm_I (qm_i k))]) rfl rfl (qm_x_iload rfl) ?_
    refine qm_G.s1 rfl (qm_x_iload rfl) ?_
    refine qm_G.s1 rfl (qm_x_icmp_ge_f ⟨by omega, by omega⟩ ⟨by omega, by omega⟩ (by omega)) ?_
    refine qm_G.s1 rfl (qm_x_iload rfl) ?_
    refine qm_G.s1 rfl (qm_x_i2l ⟨by omega, by omega⟩) ?_
    refine qm_G.s1 rfl (qm_x_iload rfl) ?_
    refine qm_G.s1 rfl (qm_x_i2l ⟨by omega, by omega⟩) ?_
    refine qm_G.s1 rfl (qm_x_laddz) ?_
    refine qm_G.s1 rfl (qm_x_aload rfl) ?_
    refine qm_G.s1 rfl (qm_x_getfR (q := (some (0, 74, 0))) (hS 61 rfl) (hR 61 21 74 rfl rfl)) ?_
    refine qm_G.s1 rfl (qm_x_iload rfl) ?_
    refine qm_G.s1 rfl (qm_x_iald (v := ln) (qm_arS hS rfl rfl) rfl (by omega) (by omega) (by decide) h74) ?_
    refine qm_G.s1 rfl (qm_x_i2l ⟨by omega, by omega⟩) ?_
    refine qm_y_lcmp rfl ⟨by omega, by omega⟩ ⟨by omega, by omega⟩ (fun c1 => ?_) (fun c1 => ?_) (fun c1 => ?_)
    · refine qm_G.s1 rfl (qm_x_if_lt_t ⟨by decide, by decide⟩ (by decide)) ?_
      refine qm_G.sp (lv1 := [(0, qm_R (some (0, 61, 0))), (1, qm_I (qm_i 0)), (2, qm_I (qm_i T)), (3, qm_I (qm_i i)), (4, qm_I (qm_i (2 * lim + 1))), (5, qm_I (qm_i k))]) rfl rfl (qm_x_aload rfl) ?_
      refine qm_G.s1 rfl (qm_x_getfR (q := (some (0, 75, 0))) (hS 61 rfl) (hR 61 22 75 rfl rfl)) ?_
      refine qm_G.s1 rfl (qm_x_pushI 60 rfl) ?_
      refine qm_G.s1 rfl (qm_x_iload rfl) ?_
      refine qm_G.s1 rfl (qm_x_imul) ?_
      refine qm_G.s1 rfl (qm_x_iload rfl) ?_
      refine qm_G.s1 rfl (qm_x_iadd) ?_
      refine qm_G.s1 rfl (qm_x_iload rfl) ?_
      refine qm_G.s1 rfl (qm_x_iadd) ?_
      refine qm_G.s1 rfl (qm_x_lald (a := (f (i + k))) (qm_arS hS rfl rfl) rfl (by omega) (by omega) (by decide) (hf (i + k) _ (by omega) (by omega) (by omega))) ?_
      refine qm_G.s1 rfl (qm_x_aload rfl) ?_
      refine qm_G.s1 rfl (qm_x_getfR (q := (some (0, 62, 0))) (hS 61 rfl) (hR 61 0 62 rfl rfl)) ?_
      refine qm_G.s1 rfl (qm_x_pushI 62 rfl) ?_
      refine qm_G.s1 rfl (qm_x_pushI 2 rfl) ?_
      refine qm_G.s1 rfl (qm_x_pushI 8 rfl) ?_
      refine qm_G.s1 rfl (qm_x_aload rfl) ?_
      refine qm_G.s1 rfl (qm_x_getfR (q := (some (0, 62, 0))) (hS 61 rfl) (hR 61 0 62 rfl rfl)) ?_
      refine qm_G.s1 rfl (qm_x_pushI 1 rfl) ?_
      refine qm_G.s1 rfl (qm_x_iald (v := lim) (qm_arS hS rfl rfl) rfl (by decide) (by decide) (by decide) hl) ?_
      refine qm_G.s1 rfl (qm_x_isub) ?_
      refine qm_G.s1 rfl (qm_x_iload rfl) ?_
      refine qm_G.s1 rfl (qm_x_iadd) ?_
      refine qm_G.s1 rfl (qm_x_imul) ?_
      refine qm_G.s1 rfl (qm_x_iadd) ?_
      refine qm_G.s1 rfl (qm_x_iload rfl) ?_
      refine qm_G.s1 rfl (qm_x_iadd) ?_
      have g2 := rb k (by omega) (by omega)
      refine qm_G.s1 rfl (qm_x_iald (v := (b k)) (qm_arS hS rfl rfl) rfl (by omega) (by omega) (by decide) (hb k _ (by omega) (by omega) (by omega))) ?_
      refine qm_G.s1 rfl (qm_x_i2l ⟨by omega, by omega⟩) ?_
      refine qm_y_lcmpr rfl (fun c3 => ?_) (fun c3 => ?_) (fun c3 => ?_)
      · refine qm_G.s1 rfl (qm_x_if_eq_f ⟨by decide, by decide⟩ (by decide)) ?_
        refine qm_G.s1 rfl (qm_x_iload rfl) ?_
        exact qm_G.ret rfl rfl (by rw [qm_jd_c (by omega) (qm_lt_ne c3)] at k9; exact k9)
      · refine qm_G.s1 rfl (qm_x_if_eq_t ⟨by decide, by decide⟩ (by decide)) ?_
        refine qm_G.sp (lv1 := [(0, qm_R (some (0, 61, 0))), (1, qm_I (qm_i 0)), (2, qm_I (qm_i T)), (3, qm_I (qm_i i)), (4, qm_I (qm_i (2 * lim + 1))), (5, qm_I (qm_i k))]) rfl rfl (qm_x_iinc (lv' := [(5, qm_I (qm_i (k + 1))), (0, qm_R (some (0, 61, 0))), (1, qm_I (qm_i 0)), (2, qm_I (qm_i T)), (3, qm_I (qm_i i)), (4, qm_I (qm_i (2 * lim + 1)))]) 1 rfl rfl rfl) ?_
        refine qm_G.s1 rfl (qm_x_goto) ?_
        refine qm_G.pk (lv1 := [(0, qm_R (some (0, 61, 0))), (1, qm_I (qm_i 0)), (2, qm_I (qm_i T)), (3, qm_I (qm_i i)), (4, qm_I (qm_i (2 * lim + 1))), (5, qm_I (qm_i (k + 1)))]) rfl rfl rfl ?_
        exact ih (k + 1) (by omega) (by omega) (by rw [qm_jd_b (by omega) c3] at k9; exact k9)
      · refine qm_G.s1 rfl (qm_x_if_eq_f ⟨by decide, by decide⟩ (by decide)) ?_
        refine qm_G.s1 rfl (qm_x_iload rfl) ?_
        exact qm_G.ret rfl rfl (by rw [qm_jd_c (by omega) (fun e9 => qm_lt_ne c3 e9.symm)] at k9; exact k9)
    · refine qm_G.s1 rfl (qm_x_if_lt_f ⟨by decide, by decide⟩ (by decide)) ?_
      refine qm_G.s1 rfl (qm_x_pushI 100 rfl) ?_
      refine qm_G.s1 rfl (qm_x_iload rfl) ?_
      refine qm_G.s1 rfl (qm_x_iadd) ?_
      exact qm_G.ret rfl rfl (by rw [qm_jd_a (by omega)] at k9; exact k9)
    · refine qm_G.s1 rfl (qm_x_if_lt_f ⟨by decide, by decide⟩ (by decide)) ?_
      refine qm_G.s1 rfl (qm_x_pushI 100 rfl) ?_
      refine qm_G.s1 rfl (qm_x_iload rfl) ?_
      refine qm_G.s1 rfl (qm_x_iadd) ?_
      exact qm_G.ret rfl rfl (by rw [qm_jd_a (by omega)] at k9; exact k9)
theorem qm_d_jd1 {S : List qm_Sh} {J K : qm_J} {L : qm_Ct Int64} {D : qm_Ct UInt64} {R : qm_Ct (Option qm_Rf)} {X : Nat × (Nat → Int32)} {Q : Option qm_V → qm_Hp → Prop} {q q' : Nat} {lim i ln : Int} {f : Int → Int64} {b : Int → Int} (hS : qm_Sd S) (hR : qm_Rd R) (rl : 1 ≤ lim ∧ lim ≤ 8) (ri : 0 ≤ i ∧ i ≤ 2147483647) (rn : 0 ≤ ln ∧ ln ≤ 60) (rb : ∀ k : Int, 0 ≤ k → k ≤ 2 * lim → 0 ≤ b k ∧ b k ≤ 6) (hs : qm_nth S q = some (Sum.inl 8)) (hr0 : R q 0 0 = some (0, q', 0)) (hs' : qm_nth S q' = some (Sum.inr (Sum.inl (2, 60)))) (hln : J q 0 2 = ln) (hf : ∀ (x : Int) (y : Nat), y = Int.toNat x → 0 ≤ x → x < 60 → L q' 0 y = f x) (hb : ∀ (k : Int) (y : Nat), y = Int.toNat (k - lim + 8) → 0 ≤ k → k ≤ 2 * lim → J 17 2 y = b k) : ∀ (n : Nat) (k : Int), k + n = 2 * lim + 1 → 0 ≤ k → Q (some (qm_I (qm_i (qm_jd ln i f b n k)))) (qm_H S J K L D R X) → qm_G qm_P qm_P115 69 [(0, qm_R (some (0, 0, 0))), (1, qm_I (qm_i 1)), (3, qm_I (qm_i i)), (4, qm_R (some (0, q, 0))), (5, qm_I (qm_i lim)), (6, qm_I (qm_i k))] [] (qm_H S J K L D R X) Q := by
  intro n
  induction n with
  | zero =>
    intro k h1 h2 k9
    refine qm_G.pk (lv1 := [(0, qm_R (some (0, 0, 0))), (1, qm_I (qm_i 1)), (3, qm_I (qm_i i)), (4, qm_R (some (0, q, 0))), (5, qm_I (qm_i lim)), (6, qm_I (qm_i k))]) rfl rfl rfl ?_
    refine qm_G.sp (lv1 := [(0, qm_R (some (0, 0, 0))), (1, qm_I (qm_i 1)), (3, qm_I (qm_i i)), (4, qm_R (some (0, q, 0))), (5, qm_I (qm_i lim)), (6, qm_I (qm_i k))]) rfl rfl (qm_x_iload rfl) ?_
    refine qm_G.s1 rfl (qm_x_pushI 2 rfl) ?_
    refine qm_G.s1 rfl (qm_x_iload rfl) ?_
    refine qm_G.s1 rfl (qm_x_imul) ?_
    refine qm_G.s1 rfl (qm_x_icmp_gt_t ⟨by omega, by omega⟩ ⟨by omega, by omega⟩ (by omega)) ?_
    refine qm_G.sp (lv1 := []) rfl rfl (qm_x_pushI (-5) rfl) ?_
    exact qm_G.ret rfl rfl k9
  | succ n ih =>
    intro k h1 h2 k9
    have h3 : k ≤ 2 * lim := by omega
    refine qm_G.pk (lv1 := [(0, qm_R (some (0, 0, 0))), (1, qm_I (qm_i 1)), (3, qm_I (qm_i i)), (4, qm_R (some (0, q, 0))), (5, qm_I (qm_i lim)), (6, qm_I (qm_i k))]) rfl rfl rfl ?_
    refine qm_G.sp (lv1 := [(0, qm_R (some (0, 0, 0))), (1, qm_I (qm_i 1)), (3, qm_I (qm_i i)), (4, qm_R (some (0, q, 0))), (5, qm_I (qm_i lim)), (6, qm_I (qm_i k))]) rfl rfl (qm_x_iload rfl) ?_
    refine qm_G.s1 rfl (qm_x_pushI 2 rfl) ?_
    refine qm_G.s1 rfl (qm_x_iload rfl) ?_
    refine qm_G.s1 rfl (qm_x_imul) ?_
    refine qm_G.s1 rfl (qm_x_icmp_gt_f ⟨by omega, by omega⟩ ⟨by omega, by omega⟩ (by omega)) ?_
    refine qm_G.s1 rfl (qm_x_iload rfl) ?_
    refine qm_G.s1 rfl (qm_x_aload rfl) ?_
    refine qm_G.s1 rfl (qm_x_getfI (v := ln) hs hln) ?_
    refine qm_G.s1 rfl (qm_x_iload rfl) ?_
    refine qm_G.s1 rfl (qm_x_isub) ?_
    refine qm_y_icmp_lt rfl ⟨by omega, by omega⟩ ⟨by omega, by omega⟩ (fun c1 => ?_) (fun c1 => ?_)
    · refine qm_G.sp (lv1 := [(0, qm_R (some (0, 0, 0))), (1, qm_I (qm_i 1)), (3, qm_I (qm_i i)), (4, qm_R (some (0, q, 0))), (5, qm_I (qm_i lim)), (6, qm_I (qm_i k))]) rfl rfl (qm_x_aload rfl) ?_
      refine qm_G.s1 rfl (qm_x_getfR (q := (some (0, q', 0))) hs hr0) ?_
      refine qm_G.s1 rfl (qm_x_iload rfl) ?_
      refine qm_G.s1 rfl (qm_x_iload rfl) ?_
      refine qm_G.s1 rfl (qm_x_iadd) ?_
      refine qm_G.s1 rfl (qm_x_lald (a := (f (i + k))) (qm_arD hs') rfl (by omega) (by omega) (by decide) (hf (i + k) _ (by omega) (by omega) (by omega))) ?_
      refine qm_G.s1 rfl (qm_x_aload rfl) ?_
      refine qm_G.s1 rfl (qm_x_getfR (q := (some (0, 1, 0))) (hS 0 rfl) (hR 0 0 1 rfl rfl)) ?_
      refine qm_G.s1 rfl (qm_x_getfR (q := (some (0, 17, 0))) (hS 1 rfl) (hR 1 3 17 rfl rfl)) ?_
      refine qm_G.s1 rfl (qm_x_iload rfl) ?_
      refine qm_G.s1 rfl (qm_x_aaldg (hS 17 rfl) rfl rfl (by decide) (by decide)) ?_
      refine qm_G.s1 rfl (qm_x_iload rfl) ?_
      refine qm_G.s1 rfl (qm_x_iload rfl) ?_
      refine qm_G.s1 rfl (qm_x_isub) ?_
      refine qm_G.s1 rfl (qm_x_pushI 8 rfl) ?_
      refine qm_G.s1 rfl (qm_x_iadd) ?_
      have g2 := rb k (by omega) (by omega)
      refine qm_G.s1 rfl (qm_x_iald (v := (b k)) (qm_arS hS rfl rfl) rfl (by omega) (by omega) (by decide) (hb k _ (by omega) (by omega) (by omega))) ?_
      refine qm_G.s1 rfl (qm_x_i2l ⟨by omega, by omega⟩) ?_
      refine qm_y_lcmpr rfl (fun c3 => ?_) (fun c3 => ?_) (fun c3 => ?_)
      · refine qm_G.s1 rfl (qm_x_if_eq_f ⟨by decide, by decide⟩ (by decide)) ?_
        refine qm_G.s1 rfl (qm_x_iload rfl) ?_
        exact qm_G.ret rfl rfl (by rw [qm_jd_c (by omega) (qm_lt_ne c3)] at k9; exact k9)
      · refine qm_G.s1 rfl (qm_x_if_eq_t ⟨by decide, by decide⟩ (by decide)) ?_
        refine qm_G.sp (lv1 := [(0, qm_R (some (0, 0, 0))), (1, qm_I (qm_i 1)), (3, qm_I (qm_i i)), (4, qm_R (some (0, q, 0))), (5, qm_I (qm_i lim)), (6, qm_I (qm_i k))]) rfl rfl (qm_x_iinc (lv' := [(6, qm_I (qm_i (k + 1))), (0, qm_R (some (0, 0, 0))), (1, qm_I (qm_i 1)), (3, qm_I (qm_i i)), (4, qm_R (some (0, q, 0))), (5, qm_I (qm_i lim))]) 1 rfl rfl rfl) ?_
        refine qm_G.s1 rfl (qm_x_goto) ?_
        refine qm_G.pk (lv1 := [(0, qm_R (some (0, 0, 0))), (1, qm_I (qm_i 1)), (3, qm_I (qm_i i)), (4, qm_R (some (0, q, 0))), (5, qm_I (qm_i lim)), (6, qm_I (qm_i (k + 1)))]) rfl rfl rfl ?_
        exact ih (k + 1) (by omega) (by omega) (by rw [qm_jd_b (by omega) c3] at k9; exact k9)
      · refine qm_G.s1 rfl (qm_x_if_eq_f ⟨by decide, by decide⟩ (by decide)) ?_
        refine qm_G.s1 rfl (qm_x_iload rfl) ?_
        exact qm_G.ret rfl rfl (by rw [qm_jd_c (by omega) (fun e9 => qm_lt_ne c3 e9.symm)] at k9; exact k9)
    · refine qm_G.s1 rfl (qm_x_pushI 100 rfl) ?_
      refine qm_G.s1 rfl (qm_x_iload rfl) ?_
      refine qm_G.s1 rfl (qm_x_iadd) ?_
      exact qm_G.ret rfl rfl (by rw [qm_jd_a (by omega)] at k9; exact k9)
theorem qm_m_jd1 {S : List qm_Sh} {J K : qm_J} {L : qm_Ct Int64} {D : qm_Ct UInt64} {R : qm_Ct (Option qm_Rf)} {X : Nat × (Nat → Int32)} {Q : Option qm_V → qm_Hp → Prop} {T : Int} {lim i ln : Int} {f : Int → Int64} {b : Int → Int} (hS : qm_Sd S) (hR : qm_Rd R) (rl : 1 ≤ lim ∧ lim ≤ 8) (ri : 0 ≤ i ∧ i ≤ 2147483647) (rn : 0 ≤ ln ∧ ln ≤ 60) (rb : ∀ k : Int, 0 ≤ k → k ≤ 2 * lim → 0 ≤ b k ∧ b k ≤ 6) (rT : 0 ≤ T ∧ T ≤ 5) (hl : J 62 0 1 = lim) (h74 : J 74 0 (Int.toNat T) = ln) (hf : ∀ (x : Int) (y : Nat), y = Int.toNat (60 * T + x) → 0 ≤ x → x < 60 → L 75 0 y = f x) (hb : ∀ (k : Int) (y : Nat), y = Int.toNat (62 + 2 * (8 - lim + k) + 1) → 0 ≤ k → k ≤ 2 * lim → J 62 0 y = b k) : ∀ (n : Nat) (k : Int), k + n = 2 * lim + 1 → 0 ≤ k → Q (some (qm_I (qm_i (qm_jd ln i f b n k)))) (qm_H S J K L D R X) → qm_G qm_P qm_P126 60 [(0, qm_R (some (0, 61, 0))), (1, qm_I (qm_i 1)), (2, qm_I (qm_i T)), (3, qm_I (qm_i i)), (4, qm_I (qm_i (2 * lim + 1))), (5, qm_I (qm_i k))] [] (qm_H S J K L D R X) Q := by
  intro n
  induction n with
  | zero =>
    intro k h1 h2 k9
    refine qm_G.pk (lv1 := [(0, qm_R (some (0, 61, 0))), (1, qm_I (qm_i 1)), (2, qm_I (qm_i T)), (3, qm_I (qm_i i)), (4, qm_I (qm_i (2 * lim + 1))), (5, qm_I (qm_i k))]) rfl rfl rfl ?_
    refine qm_G.sp (lv1 := [(0, qm_R (some (0, 61, 0))), (1, qm_I (qm_i 1)), (2, qm_I (qm_i T)), (3, qm_I (qm_i i)), (4, qm_I (qm_i (2 * lim + 1))), (5, qm_I (qm_i k))]) rfl rfl (qm_x_iload rfl) ?_
    refine qm_G.s1 rfl (qm_x_iload rfl) ?_
    refine qm_G.s1 rfl (qm_x_icmp_ge_t ⟨by omega, by omega⟩ ⟨by omega, by omega⟩ (by omega)) ?_
    refine qm_G.sp (lv1 := []) rfl rfl (qm_x_pushI (-5) rfl) ?_
    exact qm_G.ret rfl rfl k9
  | succ n ih =>
    intro k h1 h2 k9
    have h3 : k ≤ 2 * lim := by omega
    refine qm_G.pk (lv1 := [(0, qm_R (some (0, 61, 0))), (1, qm_I (qm_i 1)), (2, qm_I (qm_i T)), (3, qm_I (qm_i i)), (4, qm_I (qm_i (2 * lim + 1))), (5, qm_I (qm_i k))]) rfl rfl rfl ?_
    refine qm_G.sp (lv1 := [(0, qm_R (some (0, 61, 0))), (1, qm_I (qm_i 1)), (2, qm_I (qm_i T)), (3, qm_I (qm_i i)), (4, qm_I (qm_i (2 * lim + 1))), (5, qm_I (qm_i k))]) rfl rfl (qm_x_iload rfl) ?_
    refine qm_G.s1 rfl (qm_x_iload rfl) ?_
    refine qm_G.s1 rfl (qm_x_icmp_ge_f ⟨by omega, by omega⟩ ⟨by omega, by omega⟩ (by omega)) ?_
    refine qm_G.s1 rfl (qm_x_iload rfl) ?_
    refine qm_G.s1 rfl (qm_x_i2l ⟨by omega, by omega⟩) ?_
    refine qm_G.s1 rfl (qm_x_iload rfl) ?_
    refine qm_G.s1 rfl (qm_x_i2l ⟨by omega, by omega⟩) ?_
    refine qm_G.s1 rfl (qm_x_laddz) ?_
    refine qm_G.s1 rfl (qm_x_aload rfl) ?_
    refine qm_G.s1 rfl (qm_x_getfR (q := (some (0, 74, 0))) (hS 61 rfl) (hR 61 21 74 rfl rfl)) ?_
    refine qm_G.s1 rfl (qm_x_iload rfl) ?_
    refine qm_G.s1 rfl (qm_x_iald (v := ln) (qm_arS hS rfl rfl) rfl (by omega) (by omega) (by decide) h74) ?_
    refine qm_G.s1 rfl (qm_x_i2l ⟨by omega, by omega⟩) ?_
    refine qm_y_lcmp rfl ⟨by omega, by omega⟩ ⟨by omega, by omega⟩ (fun c1 => ?_) (fun c1 => ?_) (fun c1 => ?_)
    · refine qm_G.s1 rfl (qm_x_if_lt_t ⟨by decide, by decide⟩ (by decide)) ?_
      refine qm_G.sp (lv1 := [(0, qm_R (some (0, 61, 0))), (1, qm_I (qm_i 1)), (2, qm_I (qm_i T)), (3, qm_I (qm_i i)), (4, qm_I (qm_i (2 * lim + 1))), (5, qm_I (qm_i k))]) rfl rfl (qm_x_aload rfl) ?_
      refine qm_G.s1 rfl (qm_x_getfR (q := (some (0, 75, 0))) (hS 61 rfl) (hR 61 22 75 rfl rfl)) ?_
      refine qm_G.s1 rfl (qm_x_pushI 60 rfl) ?_
      refine qm_G.s1 rfl (qm_x_iload rfl) ?_
      refine qm_G.s1 rfl (qm_x_imul) ?_
      refine qm_G.s1 rfl (qm_x_iload rfl) ?_
      refine qm_G.s1 rfl (qm_x_iadd) ?_
      refine qm_G.s1 rfl (qm_x_iload rfl) ?_
      refine qm_G.s1 rfl (qm_x_iadd) ?_
      refine qm_G.s1 rfl (qm_x_lald (a := (f (i + k))) (qm_arS hS rfl rfl) rfl (by omega) (by omega) (by decide) (hf (i + k) _ (by omega) (by omega) (by omega))) ?_
      refine qm_G.s1 rfl (qm_x_aload rfl) ?_
      refine qm_G.s1 rfl (qm_x_getfR (q := (some (0, 62, 0))) (hS 61 rfl) (hR 61 0 62 rfl rfl)) ?_
      refine qm_G.s1 rfl (qm_x_pushI 62 rfl) ?_
      refine qm_G.s1 rfl (qm_x_pushI 2 rfl) ?_
      refine qm_G.s1 rfl (qm_x_pushI 8 rfl) ?_
      refine qm_G.s1 rfl (qm_x_aload rfl) ?_
      refine qm_G.s1 rfl (qm_x_getfR (q := (some (0, 62, 0))) (hS 61 rfl) (hR 61 0 62 rfl rfl)) ?_
      refine qm_G.s1 rfl (qm_x_pushI 1 rfl) ?_
      refine qm_G.s1 rfl (qm_x_iald (v := lim) (qm_arS hS rfl rfl) rfl (by decide) (by decide) (by decide) hl) ?_
      refine qm_G.s1 rfl (qm_x_isub) ?_
      refine qm_G.s1 rfl (qm_x_iload rfl) ?_
      refine qm_G.s1 rfl (qm_x_iadd) ?_
      refine qm_G.s1 rfl (qm_x_imul) ?_
      refine qm_G.s1 rfl (qm_x_iadd) ?_
      refine qm_G.s1 rfl (qm_x_iload rfl) ?_
      refine qm_G.s1 rfl (qm_x_iadd) ?_
      have g2 := rb k (by omega) (by omega)
      refine qm_G.s1 rfl (qm_x_iald (v := (b k)) (qm_arS hS rfl rfl) rfl (by omega) (by omega) (by decide) (hb k _ (by omega) (by omega) (by omega))) ?_
      refine qm_G.s1 rfl (qm_x_i2l ⟨by omega, by omega⟩) ?_
      refine qm_y_lcmpr rfl (fun c3 => ?_) (fun c3 => ?_) (fun c3 => ?_)
      · refine qm_G.s1 rfl (qm_x_if_eq_f ⟨by decide, by decide⟩ (by decide)) ?_
        refine qm_G.s1 rfl (qm_x_iload rfl) ?_
        exact qm_G.ret rfl rfl (by rw [qm_jd_c (by omega) (qm_lt_ne c3)] at k9; exact k9)
      · refine qm_G.s1 rfl (qm_x_if_eq_t ⟨by decide, by decide⟩ (by decide)) ?_
        refine qm_G.sp (lv1 := [(0, qm_R (some (0, 61, 0))), (1, qm_I (qm_i 1)), (2, qm_I (qm_i T)), (3, qm_I (qm_i i)), (4, qm_I (qm_i (2 * lim + 1))), (5, qm_I (qm_i k))]) rfl rfl (qm_x_iinc (lv' := [(5, qm_I (qm_i (k + 1))), (0, qm_R (some (0, 61, 0))), (1, qm_I (qm_i 1)), (2, qm_I (qm_i T)), (3, qm_I (qm_i i)), (4, qm_I (qm_i (2 * lim + 1)))]) 1 rfl rfl rfl) ?_
        refine qm_G.s1 rfl (qm_x_goto) ?_
        refine qm_G.pk (lv1 := [(0, qm_R (some (0, 61, 0))), (1, qm_I (qm_i 1)), (2, qm_I (qm_i T)), (3, qm_I (qm_i i)), (4, qm_I (qm_i (2 * lim + 1))), (5, qm_I (qm_i (k + 1)))]) rfl rfl rfl ?_
        exact ih (k + 1) (by omega) (by omega) (by rw [qm_jd_b (by omega) c3] at k9; exact k9)
      · refine qm_G.s1 rfl (qm_x_if_eq_f ⟨by decide, by decide⟩ (by decide)) ?_
        refine qm_G.s1 rfl (qm_x_iload rfl) ?_
        exact qm_G.ret rfl rfl (by rw [qm_jd_c (by omega) (fun e9 => qm_lt_ne c3 e9.symm)] at k9; exact k9)
    · refine qm_G.s1 rfl (qm_x_if_lt_f ⟨by decide, by decide⟩ (by decide)) ?_
      refine qm_G.s1 rfl (qm_x_pushI 100 rfl) ?_
      refine qm_G.s1 rfl (qm_x_iload rfl) ?_
      refine qm_G.s1 rfl (qm_x_iadd) ?_
      exact qm_G.ret rfl rfl (by rw [qm_jd_a (by omega)] at k9; exact k9)
    · refine qm_G.s1 rfl (qm_x_if_lt_f ⟨by decide, by decide⟩ (by decide)) ?_
      refine qm_G.s1 rfl (qm_x_pushI 100 rfl) ?_
      refine qm_G.s1 rfl (qm_x_iload rfl) ?_
      refine qm_G.s1 rfl (qm_x_iadd) ?_
      exact qm_G.ret rfl rfl (by rw [qm_jd_a (by omega)] at k9; exact k9)
theorem qm_d_fil50 {S : List qm_Sh} {J K : qm_J} {D : qm_Ct UInt64} {R : qm_Ct (Option qm_Rf)} {X : Nat × (Nat → Int32)} {Q : Option qm_V → qm_Hp → Prop} (hS : qm_Sd S) : ∀ (n : Nat) (i : Int) (L : qm_Ct Int64), i + n = 60 → 0 ≤ i → (∀ x : Nat, (x : Int) < i → L 50 0 x = qm_l 0) → (∀ L' : qm_Ct Int64, (∀ r s x, r ≠ 50 → L' r s x = L r s x) → (∀ x : Nat, x < 60 → L' 50 0 x = qm_l 0) → Q none (qm_H S J K L' D R X)) → qm_G qm_P qm_P9 6 [(0, qm_R (some (0, 50, 0))), (1, qm_L (qm_l 0)), (3, qm_I (qm_i i)), (4, qm_I (qm_i 60))] [] (qm_H S J K L D R X) Q := by
  intro n
  induction n with
  | zero =>
    intro i L h1 h2 t k
    refine qm_G.pk (lv1 := [(0, qm_R (some (0, 50, 0))), (1, qm_L (qm_l 0)), (3, qm_I (qm_i i)), (4, qm_I (qm_i 60))]) rfl rfl rfl ?_
    refine qm_G.sp (lv1 := [(0, qm_R (some (0, 50, 0))), (1, qm_L (qm_l 0)), (3, qm_I (qm_i i)), (4, qm_I (qm_i 60))]) rfl rfl (qm_x_iload rfl) ?_
    refine qm_G.s1 rfl (qm_x_iload rfl) ?_
    refine qm_G.s1 rfl (qm_x_icmp_ge_t ⟨by omega, by omega⟩ ⟨by decide, by decide⟩ (by omega)) ?_
    exact qm_G.retv rfl (k L (fun _ _ _ _ => rfl) (fun x hx => t x (by omega)))
  | succ n ih =>
    intro i L h1 h2 t k
    refine qm_G.pk (lv1 := [(0, qm_R (some (0, 50, 0))), (1, qm_L (qm_l 0)), (3, qm_I (qm_i i)), (4, qm_I (qm_i 60))]) rfl rfl rfl ?_
    refine qm_G.sp (lv1 := [(0, qm_R (some (0, 50, 0))), (1, qm_L (qm_l 0)), (3, qm_I (qm_i i)), (4, qm_I (qm_i 60))]) rfl rfl (qm_x_iload rfl) ?_
    refine qm_G.s1 rfl (qm_x_iload rfl) ?_
    refine qm_G.s1 rfl (qm_x_icmp_ge_f ⟨by omega, by omega⟩ ⟨by decide, by decide⟩ (by omega)) ?_
    refine qm_G.s1 rfl (qm_x_aload rfl) ?_
    refine qm_G.s1 rfl (qm_x_iload rfl) ?_
    refine qm_G.s1 rfl (qm_x_lload rfl) ?_
    refine qm_G.s1 rfl (qm_x_last (qm_arS hS rfl rfl) rfl (by omega) (by omega) (by decide)) ?_
    refine qm_G.s1 rfl (qm_x_iinc (lv' := [(3, qm_I (qm_i (i + 1))), (0, qm_R (some (0, 50, 0))), (1, qm_L (qm_l 0)), (4, qm_I (qm_i 60))]) 1 rfl rfl rfl) ?_
    refine qm_G.s1 rfl (qm_x_goto) ?_
    refine qm_G.pk (lv1 := [(0, qm_R (some (0, 50, 0))), (1, qm_L (qm_l 0)), (3, qm_I (qm_i (i + 1))), (4, qm_I (qm_i 60))]) rfl rfl rfl ?_
    refine ih (i + 1) _ (by omega) (by omega) (fun x hx => ?_) (fun L2 e2 t2 => k L2 (fun r s x h => (e2 r s x h).trans (qm_st_ne (by omega))) t2)
    by_cases c : x = Int.toNat i
    · subst c; exact qm_st_eq
    · rw [qm_st_ne (by omega)]; exact t x (by omega)
theorem qm_d_fill50 {S : List qm_Sh} {J K : qm_J} {L : qm_Ct Int64} {D : qm_Ct UInt64} {R : qm_Ct (Option qm_Rf)} {X : Nat × (Nat → Int32)} {Q : Option qm_V → qm_Hp → Prop} (hS : qm_Sd S) (k : ∀ L' : qm_Ct Int64, (∀ r s x, r ≠ 50 → L' r s x = L r s x) → (∀ x : Nat, x < 60 → L' 50 0 x = qm_l 0) → Q none (qm_H S J K L' D R X)) : qm_C qm_P 9 [qm_R (some (0, 50, 0)), qm_L (qm_l 0)] (qm_H S J K L D R X) Q := by
  refine qm_C.go (cd := qm_P9) (lv := [(0, qm_R (some (0, 50, 0))), (1, qm_L (qm_l 0))]) rfl rfl ?_
  refine qm_G.s1 rfl (qm_x_pushI 0 rfl) ?_
  refine qm_G.s1 rfl (qm_x_istore (lv' := [(3, qm_I (qm_i 0)), (0, qm_R (some (0, 50, 0))), (1, qm_L (qm_l 0))]) rfl) ?_
  refine qm_G.s1 rfl (qm_x_aload rfl) ?_
  refine qm_G.s1 rfl (qm_x_alen (hS 50 rfl) rfl) ?_
  refine qm_G.s1 rfl (qm_x_istore (lv' := [(4, qm_I (qm_i 60)), (3, qm_I (qm_i 0)), (0, qm_R (some (0, 50, 0))), (1, qm_L (qm_l 0))]) rfl) ?_
  refine qm_G.pk (lv1 := [(0, qm_R (some (0, 50, 0))), (1, qm_L (qm_l 0)), (3, qm_I (qm_i 0)), (4, qm_I (qm_i 60))]) rfl rfl rfl ?_
  exact qm_d_fil50 hS 60 0 L (by decide) (by decide) (fun x hx => absurd hx (by omega)) k
theorem qm_d_fil52 {S : List qm_Sh} {J K : qm_J} {D : qm_Ct UInt64} {R : qm_Ct (Option qm_Rf)} {X : Nat × (Nat → Int32)} {Q : Option qm_V → qm_Hp → Prop} (hS : qm_Sd S) : ∀ (n : Nat) (i : Int) (L : qm_Ct Int64), i + n = 60 → 0 ≤ i → (∀ x : Nat, (x : Int) < i → L 52 0 x = qm_l 0) → (∀ L' : qm_Ct Int64, (∀ r s x, r ≠ 52 → L' r s x = L r s x) → (∀ x : Nat, x < 60 → L' 52 0 x = qm_l 0) → Q none (qm_H S J K L' D R X)) → qm_G qm_P qm_P9 6 [(0, qm_R (some (0, 52, 0))), (1, qm_L (qm_l 0)), (3, qm_I (qm_i i)), (4, qm_I (qm_i 60))] [] (qm_H S J K L D R X) Q := by
  intro n
  induction n with
  | zero =>
    intro i L h1 h2 t k
    refine qm_G.pk (lv1 := [(0, qm_R (some (0, 52, 0))), (1, qm_L (qm_l 0)), (3, qm_I (qm_i i)), (4, qm_I (qm_i 60))]) rfl rfl rfl ?_
    refine qm_G.sp (lv1 := [(0, qm_R (some (0, 52, 0))), (1, qm_L (qm_l 0)), (3, qm_I (qm_i i)), (4, qm_I (qm_i 60))]) rfl rfl (qm_x_iload rfl) ?_
    refine qm_G.s1 rfl (qm_x_iload rfl) ?_
    refine qm_G.s1 rfl (qm_x_icmp_ge_t ⟨by omega, by omega⟩ ⟨by decide, by decide⟩ (by omega)) ?_
    exact qm_G.retv rfl (k L (fun _ _ _ _ => rfl) (fun x hx => t x (by omega)))
  | succ n ih =>
    intro i L h1 h2 t k
    refine qm_G.pk (lv1 := [(0, qm_R (some (0, 52, 0))), (1, qm_L (qm_l 0)), (3, qm_I (qm_i i)), (4, qm_I (qm_i 60))]) rfl rfl rfl ?_
    refine qm_G.sp (lv1 := [(0, qm_R (some (0, 52, 0))), (1, qm_L (qm_l 0)), (3, qm_I (qm_i i)), (4, qm_I (qm_i 60))]) rfl rfl (qm_x_iload rfl) ?_
    refine qm_G.s1 rfl (qm_x_iload rfl) ?_
    refine qm_G.s1 rfl (qm_x_icmp_ge_f ⟨by omega, by omega⟩ ⟨by decide, by decide⟩ (by omega)) ?_
    refine qm_G.s1 rfl (qm_x_aload rfl) ?_
    refine qm_G.s1 rfl (qm_x_iload rfl) ?_
    refine qm_G.s1 rfl (qm_x_lload rfl) ?_
    refine qm_G.s1 rfl (qm_x_last (qm_arS hS rfl rfl) rfl (by omega) (by omega) (by decide)) ?_
    refine qm_G.s1 rfl (qm_x_iinc (lv' := [(3, qm_I (qm_i (i + 1))), (0, qm_R (some (0, 52, 0))), (1, qm_L (qm_l 0)), (4, qm_I (qm_i 60))]) 1 rfl rfl rfl) ?_
    refine qm_G.s1 rfl (qm_x_goto) ?_
    refine qm_G.pk (lv1 := [(0, qm_R (some (0, 52, 0))), (1, qm_L (qm_l 0)), (3, qm_I (qm_i (i + 1))), (4, qm_I (qm_i 60))]) rfl rfl rfl ?_
    refine ih (i + 1) _ (by omega) (by omega) (fun x hx => ?_) (fun L2 e2 t2 => k L2 (fun r s x h => (e2 r s x h).trans (qm_st_ne (by omega))) t2)
    by_cases c : x = Int.toNat i
    · subst c; exact qm_st_eq
    · rw [qm_st_ne (by omega)]; exact t x (by omega)
theorem qm_d_fill52 {S : List qm_Sh} {J K : qm_J} {L : qm_Ct Int64} {D : qm_Ct UInt64} {R : qm_Ct (Option qm_Rf)} {X : Nat × (Nat → Int32)} {Q : Option qm_V → qm_Hp → Prop} (hS : qm_Sd S) (k : ∀ L' : qm_Ct Int64, (∀ r s x, r ≠ 52 → L' r s x = L r s x) → (∀ x : Nat, x < 60 → L' 52 0 x = qm_l 0) → Q none (qm_H S J K L' D R X)) : qm_C qm_P 9 [qm_R (some (0, 52, 0)), qm_L (qm_l 0)] (qm_H S J K L D R X) Q := by
  refine qm_C.go (cd := qm_P9) (lv := [(0, qm_R (some (0, 52, 0))), (1, qm_L (qm_l 0))]) rfl rfl ?_
  refine qm_G.s1 rfl (qm_x_pushI 0 rfl) ?_
  refine qm_G.s1 rfl (qm_x_istore (lv' := [(3, qm_I (qm_i 0)), (0, qm_R (some (0, 52, 0))), (1, qm_L (qm_l 0))]) rfl) ?_
  refine qm_G.s1 rfl (qm_x_aload rfl) ?_
  refine qm_G.s1 rfl (qm_x_alen (hS 52 rfl) rfl) ?_
  refine qm_G.s1 rfl (qm_x_istore (lv' := [(4, qm_I (qm_i 60)), (3, qm_I (qm_i 0)), (0, qm_R (some (0, 52, 0))), (1, qm_L (qm_l 0))]) rfl) ?_
  refine qm_G.pk (lv1 := [(0, qm_R (some (0, 52, 0))), (1, qm_L (qm_l 0)), (3, qm_I (qm_i 0)), (4, qm_I (qm_i 60))]) rfl rfl rfl ?_
  exact qm_d_fil52 hS 60 0 L (by decide) (by decide) (fun x hx => absurd hx (by omega)) k
theorem qm_d_fil54 {S : List qm_Sh} {J K : qm_J} {D : qm_Ct UInt64} {R : qm_Ct (Option qm_Rf)} {X : Nat × (Nat → Int32)} {Q : Option qm_V → qm_Hp → Prop} (hS : qm_Sd S) : ∀ (n : Nat) (i : Int) (L : qm_Ct Int64), i + n = 60 → 0 ≤ i → (∀ x : Nat, (x : Int) < i → L 54 0 x = qm_l 0) → (∀ L' : qm_Ct Int64, (∀ r s x, r ≠ 54 → L' r s x = L r s x) → (∀ x : Nat, x < 60 → L' 54 0 x = qm_l 0) → Q none (qm_H S J K L' D R X)) → qm_G qm_P qm_P9 6 [(0, qm_R (some (0, 54, 0))), (1, qm_L (qm_l 0)), (3, qm_I (qm_i i)), (4, qm_I (qm_i 60))] [] (qm_H S J K L D R X) Q := by
  intro n
  induction n with
  | zero =>
    intro i L h1 h2 t k
    refine qm_G.pk (lv1 := [(0, qm_R (some (0, 54, 0))), (1, qm_L (qm_l 0)), (3, qm_I (qm_i i)), (4, qm_I (qm_i 60))]) rfl rfl rfl ?_
    refine qm_G.sp (lv1 := [(0, qm_R (some (0, 54, 0))), (1, qm_L (qm_l 0)), (3, qm_I (qm_i i)), (4, qm_I (qm_i 60))]) rfl rfl (qm_x_iload rfl) ?_
    refine qm_G.s1 rfl (qm_x_iload rfl) ?_
    refine qm_G.s1 rfl (qm_x_icmp_ge_t ⟨by omega, by omega⟩ ⟨by decide, by decide⟩ (by omega)) ?_
    exact qm_G.retv rfl (k L (fun _ _ _ _ => rfl) (fun x hx => t x (by omega)))
  | succ n ih =>
    intro i L h1 h2 t k
    refine qm_G.pk (lv1 := [(0, qm_R (some (0, 54, 0))), (1, qm_L (qm_l 0)), (3, qm_I (qm_i i)), (4, qm_I (qm_i 60))]) rfl rfl rfl ?_
    refine qm_G.sp (lv1 := [(0, qm_R (some (0, 54, 0))), (1, qm_L (qm_l 0)), (3, qm_I (qm_i i)), (4, qm_I (qm_i 60))]) rfl rfl (qm_x_iload rfl) ?_
    refine qm_G.s1 rfl (qm_x_iload rfl) ?_
    refine qm_G.s1 rfl (qm_x_icmp_ge_f ⟨by omega, by omega⟩ ⟨by decide, by decide⟩ (by omega)) ?_
    refine qm_G.s1 rfl (qm_x_aload rfl) ?_
    refine qm_G.s1 rfl (qm_x_iload rfl) ?_
    refine qm_G.s1 rfl (qm_x_lload rfl) ?_
    refine qm_G.s1 rfl (qm_x_last (qm_arS hS rfl rfl) rfl (by omega) (by omega) (by decide)) ?_
    refine qm_G.s1 rfl (qm_x_iinc (lv' := [(3, qm_I (qm_i (i + 1))), (0, qm_R (some (0, 54, 0))), (1, qm_L (qm_l 0)), (4, qm_I (qm_i 60))]) 1 rfl rfl rfl) ?_
    refine qm_G.s1 rfl (qm_x_goto) ?_
    refine qm_G.pk (lv1 := [(0, qm_R (some (0, 54, 0))), (1, qm_L (qm_l 0)), (3, qm_I (qm_i (i + 1))), (4, qm_I (qm_i 60))]) rfl rfl rfl ?_
    refine ih (i + 1) _ (by omega) (by omega) (fun x hx => ?_) (fun L2 e2 t2 => k L2 (fun r s x h => (e2 r s x h).trans (qm_st_ne (by omega))) t2)
    by_cases c : x = Int.toNat i
    · subst c; exact qm_st_eq
    · rw [qm_st_ne (by omega)]; exact t x (by omega)
theorem qm_d_fill54 {S : List qm_Sh} {J K : qm_J} {L : qm_Ct Int64} {D : qm_Ct UInt64} {R : qm_Ct (Option qm_Rf)} {X : Nat × (Nat → Int32)} {Q : Option qm_V → qm_Hp → Prop} (hS : qm_Sd S) (k : ∀ L' : qm_Ct Int64, (∀ r s x, r ≠ 54 → L' r s x = L r s x) → (∀ x : Nat, x < 60 → L' 54 0 x = qm_l 0) → Q none (qm_H S J K L' D R X)) : qm_C qm_P 9 [qm_R (some (0, 54, 0)), qm_L (qm_l 0)] (qm_H S J K L D R X) Q := by
  refine qm_C.go (cd := qm_P9) (lv := [(0, qm_R (some (0, 54, 0))), (1, qm_L (qm_l 0))]) rfl rfl ?_
  refine qm_G.s1 rfl (qm_x_pushI 0 rfl) ?_
  refine qm_G.s1 rfl (qm_x_istore (lv' := [(3, qm_I (qm_i 0)), (0, qm_R (some (0, 54, 0))), (1, qm_L (qm_l 0))]) rfl) ?_
  refine qm_G.s1 rfl (qm_x_aload rfl) ?_
  refine qm_G.s1 rfl (qm_x_alen (hS 54 rfl) rfl) ?_
  refine qm_G.s1 rfl (qm_x_istore (lv' := [(4, qm_I (qm_i 60)), (3, qm_I (qm_i 0)), (0, qm_R (some (0, 54, 0))), (1, qm_L (qm_l 0))]) rfl) ?_
  refine qm_G.pk (lv1 := [(0, qm_R (some (0, 54, 0))), (1, qm_L (qm_l 0)), (3, qm_I (qm_i 0)), (4, qm_I (qm_i 60))]) rfl rfl rfl ?_
  exact qm_d_fil54 hS 60 0 L (by decide) (by decide) (fun x hx => absurd hx (by omega)) k
theorem qm_d_fil56 {S : List qm_Sh} {J K : qm_J} {D : qm_Ct UInt64} {R : qm_Ct (Option qm_Rf)} {X : Nat × (Nat → Int32)} {Q : Option qm_V → qm_Hp → Prop} (hS : qm_Sd S) : ∀ (n : Nat) (i : Int) (L : qm_Ct Int64), i + n = 60 → 0 ≤ i → (∀ x : Nat, (x : Int) < i → L 56 0 x = qm_l 0) → (∀ L' : qm_Ct Int64, (∀ r s x, r ≠ 56 → L' r s x = L r s x) → (∀ x : Nat, x < 60 → L' 56 0 x = qm_l 0) → Q none (qm_H S J K L' D R X)) → qm_G qm_P qm_P9 6 [(0, qm_R (some (0, 56, 0))), (1, qm_L (qm_l 0)), (3, qm_I (qm_i i)), (4, qm_I (qm_i 60))] [] (qm_H S J K L D R X) Q := by
  intro n
  induction n with
  | zero =>
    intro i L h1 h2 t k
    refine qm_G.pk (lv1 := [(0, qm_R (some (0, 56, 0))), (1, qm_L (qm_l 0)), (3, qm_I (qm_i i)), (4, qm_I (qm_i 60))]) rfl rfl rfl ?_
    refine qm_G.sp (lv1 := [(0, qm_R (some (0, 56, 0))), (1, qm_L (qm_l 0)), (3, qm_I (qm_i i)), (4, qm_I (qm_i 60))]) rfl rfl (qm_x_iload rfl) ?_
    refine qm_G.s1 rfl (qm_x_iload rfl) ?_
    refine qm_G.s1 rfl (qm_x_icmp_ge_t ⟨by omega, by omega⟩ ⟨by decide, by decide⟩ (by omega)) ?_
    exact qm_G.retv rfl (k L (fun _ _ _ _ => rfl) (fun x hx => t x (by omega)))
  | succ n ih =>
    intro i L h1 h2 t k
    refine qm_G.pk (lv1 := [(0, qm_R (some (0, 56, 0))), (1, qm_L (qm_l 0)), (3, qm_I (qm_i i)), (4, qm_I (qm_i 60))]) rfl rfl rfl ?_
    refine qm_G.sp (lv1 := [(0, qm_R (some (0, 56, 0))), (1, qm_L (qm_l 0)), (3, qm_I (qm_i i)), (4, qm_I (qm_i 60))]) rfl rfl (qm_x_iload rfl) ?_
    refine qm_G.s1 rfl (qm_x_iload rfl) ?_
    refine qm_G.s1 rfl (qm_x_icmp_ge_f ⟨by omega, by omega⟩ ⟨by decide, by decide⟩ (by omega)) ?_
    refine qm_G.s1 rfl (qm_x_aload rfl) ?_
    refine qm_G.s1 rfl (qm_x_iload rfl) ?_
    refine qm_G.s1 rfl (qm_x_lload rfl) ?_
    refine qm_G.s1 rfl (qm_x_last (qm_arS hS rfl rfl) rfl (by omega) (by omega) (by decide)) ?_
    refine qm_G.s1 rfl (qm_x_iinc (lv' := [(3, qm_I (qm_i (i + 1))), (0, qm_R (some (0, 56, 0))), (1, qm_L (qm_l 0)), (4, qm_I (qm_i 60))]) 1 rfl rfl rfl) ?_
    refine qm_G.s1 rfl (qm_x_goto) ?_
    refine qm_G.pk (lv1 := [(0, qm_R (some (0, 56, 0))), (1, qm_L (qm_l 0)), (3, qm_I (qm_i (i + 1))), (4, qm_I (qm_i 60))]) rfl rfl rfl ?_
    refine ih (i + 1) _ (by omega) (by omega) (fun x hx => ?_) (fun L2 e2 t2 => k L2 (fun r s x h => (e2 r s x h).trans (qm_st_ne (by omega))) t2)
    by_cases c : x = Int.toNat i
    · subst c; exact qm_st_eq
    · rw [qm_st_ne (by omega)]; exact t x (by omega)
theorem qm_d_fill56 {S : List qm_Sh} {J K : qm_J} {L : qm_Ct Int64} {D : qm_Ct UInt64} {R : qm_Ct (Option qm_Rf)} {X : Nat × (Nat → Int32)} {Q : Option qm_V → qm_Hp → Prop} (hS : qm_Sd S) (k : ∀ L' : qm_Ct Int64, (∀ r s x, r ≠ 56 → L' r s x = L r s x) → (∀ x : Nat, x < 60 → L' 56 0 x = qm_l 0) → Q none (qm_H S J K L' D R X)) : qm_C qm_P 9 [qm_R (some (0, 56, 0)), qm_L (qm_l 0)] (qm_H S J K L D R X) Q := by
  refine qm_C.go (cd := qm_P9) (lv := [(0, qm_R (some (0, 56, 0))), (1, qm_L (qm_l 0))]) rfl rfl ?_
  refine qm_G.s1 rfl (qm_x_pushI 0 rfl) ?_
  refine qm_G.s1 rfl (qm_x_istore (lv' := [(3, qm_I (qm_i 0)), (0, qm_R (some (0, 56, 0))), (1, qm_L (qm_l 0))]) rfl) ?_
  refine qm_G.s1 rfl (qm_x_aload rfl) ?_
  refine qm_G.s1 rfl (qm_x_alen (hS 56 rfl) rfl) ?_
  refine qm_G.s1 rfl (qm_x_istore (lv' := [(4, qm_I (qm_i 60)), (3, qm_I (qm_i 0)), (0, qm_R (some (0, 56, 0))), (1, qm_L (qm_l 0))]) rfl) ?_
  refine qm_G.pk (lv1 := [(0, qm_R (some (0, 56, 0))), (1, qm_L (qm_l 0)), (3, qm_I (qm_i 0)), (4, qm_I (qm_i 60))]) rfl rfl rfl ?_
  exact qm_d_fil56 hS 60 0 L (by decide) (by decide) (fun x hx => absurd hx (by omega)) k
theorem qm_d_fil58 {S : List qm_Sh} {J K : qm_J} {D : qm_Ct UInt64} {R : qm_Ct (Option qm_Rf)} {X : Nat × (Nat → Int32)} {Q : Option qm_V → qm_Hp → Prop} (hS : qm_Sd S) : ∀ (n : Nat) (i : Int) (L : qm_Ct Int64), i + n = 60 → 0 ≤ i → (∀ x : Nat, (x : Int) < i → L 58 0 x = qm_l 0) → (∀ L' : qm_Ct Int64, (∀ r s x, r ≠ 58 → L' r s x = L r s x) → (∀ x : Nat, x < 60 → L' 58 0 x = qm_l 0) → Q none (qm_H S J K L' D R X)) → qm_G qm_P qm_P9 6 [(0, qm_R (some (0, 58, 0))), (1, qm_L (qm_l 0)), (3, qm_I (qm_i i)), (4, qm_I (qm_i 60))] [] (qm_H S J K L D R X) Q := by
  intro n
  induction n with
  | zero =>
    intro i L h1 h2 t k
    refine qm_G.pk (lv1 := [(0, qm_R (some (0, 58, 0))), (1, qm_L (qm_l 0)), (3, qm_I (qm_i i)), (4, qm_I (qm_i 60))]) rfl rfl rfl ?_
    refine qm_G.sp (lv1 := [(0, qm_R (some (0, 58, 0))), (1, qm_L (qm_l 0)), (3, qm_I (qm_i i)), (4, qm_I (qm_i 60))]) rfl rfl (qm_x_iload rfl) ?_
    refine qm_G.s1 rfl (qm_x_iload rfl) ?_
    refine qm_G.s1 rfl (qm_x_icmp_ge_t ⟨by omega, by omega⟩ ⟨by decide, by decide⟩ (by omega)) ?_
    exact qm_G.retv rfl (k L (fun _ _ _ _ => rfl) (fun x hx => t x (by omega)))
  | succ n ih =>
    intro i L h1 h2 t k
    refine qm_G.pk (lv1 := [(0, qm_R (some (0, 58, 0))), (1, qm_L (qm_l 0)), (3, qm_I (qm_i i)), (4, qm_I (qm_i 60))]) rfl rfl rfl ?_
    refine qm_G.sp (lv1 := [(0, qm_R (some (0, 58, 0))), (1, qm_L (qm_l 0)), (3, qm_I (qm_i i)), (4, qm_I (qm_i 60))]) rfl rfl (qm_x_iload rfl) ?_
    refine qm_G.s1 rfl (qm_x_iload rfl) ?_
    refine qm_G.s1 rfl (qm_x_icmp_ge_f ⟨by omega, by omega⟩ ⟨by decide, by decide⟩ (by omega)) ?_
    refine qm_G.s1 rfl (qm_x_aload rfl) ?_
    refine qm_G.s1 rfl (qm_x_iload rfl) ?_
    refine qm_G.s1 rfl (qm_x_lload rfl) ?_
    refine qm_G.s1 rfl (qm_x_last (qm_arS hS rfl rfl) rfl (by omega) (by omega) (by decide)) ?_
    refine qm_G.s1 rfl (qm_x_iinc (lv' := [(3, qm_I (qm_i (i + 1))), (0, qm_R (some (0, 58, 0))), (1, qm_L (qm_l 0)), (4, qm_I (qm_i 60))]) 1 rfl rfl rfl) ?_
    refine qm_G.s1 rfl (qm_x_goto) ?_
    refine qm_G.pk (lv1 := [(0, qm_R (some (0, 58, 0))), (1, qm_L (qm_l 0)), (3, qm_I (qm_i (i + 1))), (4, qm_I (qm_i 60))]) rfl rfl rfl ?_
    refine ih (i + 1) _ (by omega) (by omega) (fun x hx => ?_) (fun L2 e2 t2 => k L2 (fun r s x h => (e2 r s x h).trans (qm_st_ne (by omega))) t2)
    by_cases c : x = Int.toNat i
    · subst c; exact qm_st_eq
    · rw [qm_st_ne (by omega)]; exact t x (by omega)
theorem qm_d_fill58 {S : List qm_Sh} {J K : qm_J} {L : qm_Ct Int64} {D : qm_Ct UInt64} {R : qm_Ct (Option qm_Rf)} {X : Nat × (Nat → Int32)} {Q : Option qm_V → qm_Hp → Prop} (hS : qm_Sd S) (k : ∀ L' : qm_Ct Int64, (∀ r s x, r ≠ 58 → L' r s x = L r s x) → (∀ x : Nat, x < 60 → L' 58 0 x = qm_l 0) → Q none (qm_H S J K L' D R X)) : qm_C qm_P 9 [qm_R (some (0, 58, 0)), qm_L (qm_l 0)] (qm_H S J K L D R X) Q := by
  refine qm_C.go (cd := qm_P9) (lv := [(0, qm_R (some (0, 58, 0))), (1, qm_L (qm_l 0))]) rfl rfl ?_
  refine qm_G.s1 rfl (qm_x_pushI 0 rfl) ?_
  refine qm_G.s1 rfl (qm_x_istore (lv' := [(3, qm_I (qm_i 0)), (0, qm_R (some (0, 58, 0))), (1, qm_L (qm_l 0))]) rfl) ?_
  refine qm_G.s1 rfl (qm_x_aload rfl) ?_
  refine qm_G.s1 rfl (qm_x_alen (hS 58 rfl) rfl) ?_
  refine qm_G.s1 rfl (qm_x_istore (lv' := [(4, qm_I (qm_i 60)), (3, qm_I (qm_i 0)), (0, qm_R (some (0, 58, 0))), (1, qm_L (qm_l 0))]) rfl) ?_
  refine qm_G.pk (lv1 := [(0, qm_R (some (0, 58, 0))), (1, qm_L (qm_l 0)), (3, qm_I (qm_i 0)), (4, qm_I (qm_i 60))]) rfl rfl rfl ?_
  exact qm_d_fil58 hS 60 0 L (by decide) (by decide) (fun x hx => absurd hx (by omega)) k
theorem qm_d_fil60 {S : List qm_Sh} {J K : qm_J} {D : qm_Ct UInt64} {R : qm_Ct (Option qm_Rf)} {X : Nat × (Nat → Int32)} {Q : Option qm_V → qm_Hp → Prop} (hS : qm_Sd S) : ∀ (n : Nat) (i : Int) (L : qm_Ct Int64), i + n = 60 → 0 ≤ i → (∀ x : Nat, (x : Int) < i → L 60 0 x = qm_l 0) → (∀ L' : qm_Ct Int64, (∀ r s x, r ≠ 60 → L' r s x = L r s x) → (∀ x : Nat, x < 60 → L' 60 0 x = qm_l 0) → Q none (qm_H S J K L' D R X)) → qm_G qm_P qm_P9 6 [(0, qm_R (some (0, 60, 0))), (1, qm_L (qm_l 0)), (3, qm_I (qm_i i)), (4, qm_I (qm_i 60))] [] (qm_H S J K L D R X) Q := by
  intro n
  induction n with
  | zero =>
    intro i L h1 h2 t k
    refine qm_G.pk (lv1 := [(0, qm_R (some (0, 60, 0))), (1, qm_L (qm_l 0)), (3, qm_I (qm_i i)), (4, qm_I (qm_i 60))]) rfl rfl rfl ?_
    refine qm_G.sp (lv1 := [(0, qm_R (some (0, 60, 0))), (1, qm_L (qm_l 0)), (3, qm_I (qm_i i)), (4, qm_I (qm_i 60))]) rfl rfl (qm_x_iload rfl) ?_
    refine qm_G.s1 rfl (qm_x_iload rfl) ?_
    refine qm_G.s1 rfl (qm_x_icmp_ge_t ⟨by omega, by omega⟩ ⟨by decide, by decide⟩ (by omega)) ?_
    exact qm_G.retv rfl (k L (fun _ _ _ _ => rfl) (fun x hx => t x (by omega)))
  | succ n ih =>
    intro i L h1 h2 t k
    refine qm_G.pk (lv1 := [(0, qm_R (some (0, 60, 0))), (1, qm_L (qm_l 0)), (3, qm_I (qm_i i)), (4, qm_I (qm_i 60))]) rfl rfl rfl ?_
    refine qm_G.sp (lv1 := [(0, qm_R (some (0, 60, 0))), (1, qm_L (qm_l 0)), (3, qm_I (qm_i i)), (4, qm_I (qm_i 60))]) rfl rfl (qm_x_iload rfl) ?_
    refine qm_G.s1 rfl (qm_x_iload rfl) ?_
    refine qm_G.s1 rfl (qm_x_icmp_ge_f ⟨by omega, by omega⟩ ⟨by decide, by decide⟩ (by omega)) ?_
    refine qm_G.s1 rfl (qm_x_aload rfl) ?_
    refine qm_G.s1 rfl (qm_x_iload rfl) ?_
    refine qm_G.s1 rfl (qm_x_lload rfl) ?_
    refine qm_G.s1 rfl (qm_x_last (qm_arS hS rfl rfl) rfl (by omega) (by omega) (by decide)) ?_
    refine qm_G.s1 rfl (qm_x_iinc (lv' := [(3, qm_I (qm_i (i + 1))), (0, qm_R (some (0, 60, 0))), (1, qm_L (qm_l 0)), (4, qm_I (qm_i 60))]) 1 rfl rfl rfl) ?_
    refine qm_G.s1 rfl (qm_x_goto) ?_
    refine qm_G.pk (lv1 := [(0, qm_R (some (0, 60, 0))), (1, qm_L (qm_l 0)), (3, qm_I (qm_i (i + 1))), (4, qm_I (qm_i 60))]) rfl rfl rfl ?_
    refine ih (i + 1) _ (by omega) (by omega) (fun x hx => ?_) (fun L2 e2 t2 => k L2 (fun r s x h => (e2 r s x h).trans (qm_st_ne (by omega))) t2)
    by_cases c : x = Int.toNat i
    · subst c; exact qm_st_eq
    · rw [qm_st_ne (by omega)]; exact t x (by omega)
theorem qm_d_fill60 {S : List qm_Sh} {J K : qm_J} {L : qm_Ct Int64} {D : qm_Ct UInt64} {R : qm_Ct (Option qm_Rf)} {X : Nat × (Nat → Int32)} {Q : Option qm_V → qm_Hp → Prop} (hS : qm_Sd S) (k : ∀ L' : qm_Ct Int64, (∀ r s x, r ≠ 60 → L' r s x = L r s x) → (∀ x : Nat, x < 60 → L' 60 0 x = qm_l 0) → Q none (qm_H S J K L' D R X)) : qm_C qm_P 9 [qm_R (some (0, 60, 0)), qm_L (qm_l 0)] (qm_H S J K L D R X) Q := by
  refine qm_C.go (cd := qm_P9) (lv := [(0, qm_R (some (0, 60, 0))), (1, qm_L (qm_l 0))]) rfl rfl ?_
  refine qm_G.s1 rfl (qm_x_pushI 0 rfl) ?_
  refine qm_G.s1 rfl (qm_x_istore (lv' := [(3, qm_I (qm_i 0)), (0, qm_R (some (0, 60, 0))), (1, qm_L (qm_l 0))]) rfl) ?_
  refine qm_G.s1 rfl (qm_x_aload rfl) ?_
  refine qm_G.s1 rfl (qm_x_alen (hS 60 rfl) rfl) ?_
  refine qm_G.s1 rfl (qm_x_istore (lv' := [(4, qm_I (qm_i 60)), (3, qm_I (qm_i 0)), (0, qm_R (some (0, 60, 0))), (1, qm_L (qm_l 0))]) rfl) ?_
  refine qm_G.pk (lv1 := [(0, qm_R (some (0, 60, 0))), (1, qm_L (qm_l 0)), (3, qm_I (qm_i 0)), (4, qm_I (qm_i 60))]) rfl rfl rfl ?_
  exact qm_d_fil60 hS 60 0 L (by decide) (by decide) (fun x hx => absurd hx (by omega)) k
theorem qm_m_fil {S : List qm_Sh} {J K : qm_J} {D : qm_Ct UInt64} {R : qm_Ct (Option qm_Rf)} {X : Nat × (Nat → Int32)} {Q : Option qm_V → qm_Hp → Prop} {T : Int} (hS : qm_Sd S) (hR : qm_Rd R) (rT : 0 ≤ T ∧ T ≤ 5) : ∀ (n : Nat) (i : Int) (L : qm_Ct Int64), i + n = 60 → 0 ≤ i → (∀ x : Nat, (x : Int) < i → L 75 0 (60 * Int.toNat T + x) = qm_l 0) → (∀ L' : qm_Ct Int64, (∀ r s x, ¬ (r = 75 ∧ 60 * Int.toNat T ≤ x ∧ x < 60 * Int.toNat T + 60) → L' r s x = L r s x) → (∀ x : Nat, x < 60 → L' 75 0 (60 * Int.toNat T + x) = qm_l 0) → qm_G qm_P qm_P132 95 [] [] (qm_H S J K L' D R X) Q) → qm_G qm_P qm_P132 69 [(0, qm_R (some (0, 61, 0))), (1, qm_I (qm_i T)), (4, qm_I (qm_i i))] [] (qm_H S J K L D R X) Q := by
  intro n
  induction n with
  | zero =>
    intro i L h1 h2 t k
    refine qm_G.pk (lv1 := [(0, qm_R (some (0, 61, 0))), (1, qm_I (qm_i T)), (4, qm_I (qm_i i))]) rfl rfl rfl ?_
    refine qm_G.sp (lv1 := [(0, qm_R (some (0, 61, 0))), (1, qm_I (qm_i T)), (4, qm_I (qm_i i))]) rfl rfl (qm_x_iload rfl) ?_
    refine qm_G.s1 rfl (qm_x_pushI 60 rfl) ?_
    refine qm_G.s1 rfl (qm_x_icmp_ge_t ⟨by omega, by omega⟩ ⟨by decide, by decide⟩ (by omega)) ?_
    refine qm_G.pk (lv1 := []) rfl rfl rfl ?_
    exact k L (fun _ _ _ _ => rfl) (fun x hx => t x (by omega))
  | succ n ih =>
    intro i L h1 h2 t k
    refine qm_G.pk (lv1 := [(0, qm_R (some (0, 61, 0))), (1, qm_I (qm_i T)), (4, qm_I (qm_i i))]) rfl rfl rfl ?_
    refine qm_G.sp (lv1 := [(0, qm_R (some (0, 61, 0))), (1, qm_I (qm_i T)), (4, qm_I (qm_i i))]) rfl rfl (qm_x_iload rfl) ?_
    refine qm_G.s1 rfl (qm_x_pushI 60 rfl) ?_
    refine qm_G.s1 rfl (qm_x_icmp_ge_f ⟨by omega, by omega⟩ ⟨by decide, by decide⟩ (by omega)) ?_
    refine qm_G.s1 rfl (qm_x_aload rfl) ?_
    refine qm_G.s1 rfl (qm_x_getfR (q := (some (0, 75, 0))) (hS 61 rfl) (hR 61 22 75 rfl rfl)) ?_
    refine qm_G.s1 rfl (qm_x_pushI 60 rfl) ?_
    refine qm_G.s1 rfl (qm_x_iload rfl) ?_
    refine qm_G.s1 rfl (qm_x_imul) ?_
    refine qm_G.s1 rfl (qm_x_iload rfl) ?_
    refine qm_G.s1 rfl (qm_x_iadd) ?_
    refine qm_G.s1 rfl (qm_x_pushL 0 rfl) ?_
    refine qm_G.s1 rfl (qm_x_last (qm_arS hS rfl rfl) rfl (by omega) (by omega) (by decide)) ?_
    refine qm_G.s1 rfl (qm_x_iinc (lv' := [(4, qm_I (qm_i (i + 1))), (0, qm_R (some (0, 61, 0))), (1, qm_I (qm_i T))]) 1 rfl rfl rfl) ?_
    refine qm_G.s1 rfl (qm_x_goto) ?_
    refine qm_G.pk (lv1 := [(0, qm_R (some (0, 61, 0))), (1, qm_I (qm_i T)), (4, qm_I (qm_i (i + 1)))]) rfl rfl rfl ?_
    refine ih (i + 1) _ (by omega) (by omega) (fun x hx => ?_) (fun L2 e2 t2 => k L2 (fun r s x h => (e2 r s x h).trans (qm_st_ne (by omega))) t2)
    by_cases c : x = Int.toNat i
    · rw [show 60 * Int.toNat T + x = Int.toNat (60 * T + i) by omega]; exact qm_st_eq
    · rw [qm_st_ne (by omega)]; exact t x (by omega)
theorem qm_m_sha {S : List qm_Sh} {J K : qm_J} {D : qm_Ct UInt64} {R : qm_Ct (Option qm_Rf)} {X : Nat × (Nat → Int32)} {Q : Option qm_V → qm_Hp → Prop} {T O i j m : Int} (hS : qm_Sd S) (hR : qm_Rd R) (rT : 0 ≤ T ∧ T ≤ 5) (ri : 0 ≤ i) (rm : 0 ≤ m) (ri2 : i + m ≤ 60) : ∀ (n : Nat) (k : Int) (L : qm_Ct Int64), k + n = m → 0 ≤ k → (∀ x : Nat, (x : Int) < k → L 76 0 x = L 75 0 (Int.toNat (60 * T + i) + x)) → (∀ L' : qm_Ct Int64, (∀ r s x, r ≠ 76 → L' r s x = L r s x) → (∀ x : Nat, (x : Int) < m → L' 76 0 x = L' 75 0 (Int.toNat (60 * T + i) + x)) → qm_G qm_P qm_P130 144 [(0, qm_R (some (0, 61, 0))), (3, qm_I (qm_i O)), (4, qm_I (qm_i j)), (5, qm_I (qm_i m))] [] (qm_H S J K L' D R X) Q) → qm_G qm_P qm_P130 110 [(0, qm_R (some (0, 61, 0))), (1, qm_I (qm_i T)), (2, qm_I (qm_i i)), (3, qm_I (qm_i O)), (4, qm_I (qm_i j)), (5, qm_I (qm_i m)), (6, qm_I (qm_i k))] [] (qm_H S J K L D R X) Q := by
  intro n
  induction n with
  | zero =>
    intro k L h1 h2 t k9
    refine qm_G.pk (lv1 := [(0, qm_R (some (0, 61, 0))), (1, qm_I (qm_i T)), (2, qm_I (qm_i i)), (3, qm_I (qm_i O)), (4, qm_I (qm_i j)), (5, qm_I (qm_i m)), (6, qm_I (qm_i k))]) rfl rfl rfl ?_
    refine qm_G.sp (lv1 := [(0, qm_R (some (0, 61, 0))), (1, qm_I (qm_i T)), (2, qm_I (qm_i i)), (3, qm_I (qm_i O)), (4, qm_I (qm_i j)), (5, qm_I (qm_i m)), (6, qm_I (qm_i k))]) rfl rfl (qm_x_iload rfl) ?_
    refine qm_G.s1 rfl (qm_x_iload rfl) ?_
    refine qm_G.s1 rfl (qm_x_icmp_ge_t ⟨by omega, by omega⟩ ⟨by omega, by omega⟩ (by omega)) ?_
    refine qm_G.pk (lv1 := [(0, qm_R (some (0, 61, 0))), (3, qm_I (qm_i O)), (4, qm_I (qm_i j)), (5, qm_I (qm_i m))]) rfl rfl rfl ?_
    exact k9 L (fun _ _ _ _ => rfl) (fun x hx => t x (by omega))
  | succ n ih =>
    intro k L h1 h2 t k9
    have h3 : k < m := by omega
    refine qm_G.pk (lv1 := [(0, qm_R (some (0, 61, 0))), (1, qm_I (qm_i T)), (2, qm_I (qm_i i)), (3, qm_I (qm_i O)), (4, qm_I (qm_i j)), (5, qm_I (qm_i m)), (6, qm_I (qm_i k))]) rfl rfl rfl ?_
    refine qm_G.sp (lv1 := [(0, qm_R (some (0, 61, 0))), (1, qm_I (qm_i T)), (2, qm_I (qm_i i)), (3, qm_I (qm_i O)), (4, qm_I (qm_i j)), (5, qm_I (qm_i m)), (6, qm_I (qm_i k))]) rfl rfl (qm_x_iload rfl) ?_
    refine qm_G.s1 rfl (qm_x_iload rfl) ?_
    refine qm_G.s1 rfl (qm_x_icmp_ge_f ⟨by omega, by omega⟩ ⟨by omega, by omega⟩ (by omega)) ?_
    refine qm_G.s1 rfl (qm_x_aload rfl) ?_
    refine qm_G.s1 rfl (qm_x_getfR (q := (some (0, 76, 0))) (hS 61 rfl) (hR 61 23 76 rfl rfl)) ?_
    refine qm_G.s1 rfl (qm_x_iload rfl) ?_
    refine qm_G.s1 rfl (qm_x_aload rfl) ?_
    refine qm_G.s1 rfl (qm_x_getfR (q := (some (0, 75, 0))) (hS 61 rfl) (hR 61 22 75 rfl rfl)) ?_
    refine qm_G.s1 rfl (qm_x_pushI 60 rfl) ?_
    refine qm_G.s1 rfl (qm_x_iload rfl) ?_
    refine qm_G.s1 rfl (qm_x_imul) ?_
    refine qm_G.s1 rfl (qm_x_iload rfl) ?_
    refine qm_G.s1 rfl (qm_x_iadd) ?_
    refine qm_G.s1 rfl (qm_x_iload rfl) ?_
    refine qm_G.s1 rfl (qm_x_iadd) ?_
    refine qm_G.s1 rfl (qm_x_lald (a := (L 75 0 (Int.toNat (60 * T + i + k)))) (qm_arS hS rfl rfl) rfl (by omega) (by omega) (by decide) (congrArg (L 75 0) (by omega))) ?_
    refine qm_G.s1 rfl (qm_x_last (qm_arS hS rfl rfl) rfl (by omega) (by omega) (by decide)) ?_
    refine qm_G.s1 rfl (qm_x_iinc (lv' := [(6, qm_I (qm_i (k + 1))), (0, qm_R (some (0, 61, 0))), (1, qm_I (qm_i T)), (2, qm_I (qm_i i)), (3, qm_I (qm_i O)), (4, qm_I (qm_i j)), (5, qm_I (qm_i m))]) 1 rfl rfl rfl) ?_
    refine qm_G.s1 rfl (qm_x_goto) ?_
    refine qm_G.pk (lv1 := [(0, qm_R (some (0, 61, 0))), (1, qm_I (qm_i T)), (2, qm_I (qm_i i)), (3, qm_I (qm_i O)), (4, qm_I (qm_i j)), (5, qm_I (qm_i m)), (6, qm_I (qm_i (k + 1)))]) rfl rfl rfl ?_
    refine ih (k + 1) _ (by omega) (by omega) (fun x hx => ?_) (fun L2 e2 t2 => k9 L2 (fun r s x h => (e2 r s x h).trans (qm_st_ne (by omega))) t2)
    by_cases c : x = Int.toNat k
    · subst c; rw [qm_st_eq, qm_st_ne (by omega)]; exact congrArg (L 75 0) (by omega)
    · rw [qm_st_ne (by omega), qm_st_ne (by omega)]; exact t x (by omega)
theorem qm_m_shb {S : List qm_Sh} {J K : qm_J} {D : qm_Ct UInt64} {R : qm_Ct (Option qm_Rf)} {X : Nat × (Nat → Int32)} {Q : Option qm_V → qm_Hp → Prop} {O j m : Int} (hS : qm_Sd S) (hR : qm_Rd R) (rO : 0 ≤ O ∧ O ≤ 5) (rj : 0 ≤ j) (rm : 0 ≤ m) (rj2 : j + m ≤ 60) : ∀ (n : Nat) (k : Int) (L : qm_Ct Int64), k + n = m → 0 ≤ k → (∀ L' : qm_Ct Int64, (∀ r s x, ¬ (r = 75 ∧ Int.toNat (60 * O + j + k) ≤ x ∧ x < Int.toNat (60 * O + j + m)) → L' r s x = L r s x) → (∀ x : Nat, k ≤ (x : Int) → (x : Int) < m → L' 75 0 (Int.toNat (60 * O + j) + x) = L 76 0 x) → qm_G qm_P qm_P130 182 [(5, qm_I (qm_i m))] [] (qm_H S J K L' D R X) Q) → qm_G qm_P qm_P130 147 [(0, qm_R (some (0, 61, 0))), (3, qm_I (qm_i O)), (4, qm_I (qm_i j)), (5, qm_I (qm_i m)), (6, qm_I (qm_i k))] [] (qm_H S J K L D R X) Q := by
  intro n
  induction n with
  | zero =>
    intro k L h1 h2 k9
    refine qm_G.pk (lv1 := [(0, qm_R (some (0, 61, 0))), (3, qm_I (qm_i O)), (4, qm_I (qm_i j)), (5, qm_I (qm_i m)), (6, qm_I (qm_i k))]) rfl rfl rfl ?_
    refine qm_G.sp (lv1 := [(0, qm_R (some (0, 61, 0))), (3, qm_I (qm_i O)), (4, qm_I (qm_i j)), (5, qm_I (qm_i m)), (6, qm_I (qm_i k))]) rfl rfl (qm_x_iload rfl) ?_
    refine qm_G.s1 rfl (qm_x_iload rfl) ?_
    refine qm_G.s1 rfl (qm_x_icmp_ge_t ⟨by omega, by omega⟩ ⟨by omega, by omega⟩ (by omega)) ?_
    refine qm_G.pk (lv1 := [(5, qm_I (qm_i m))]) rfl rfl rfl ?_
    exact k9 L (fun _ _ _ _ => rfl) (fun x h3 h4 => absurd h4 (by omega))
  | succ n ih =>
    intro k L h1 h2 k9
    have h3 : k < m := by omega
    refine qm_G.pk (lv1 := [(0, qm_R (some (0, 61, 0))), (3, qm_I (qm_i O)), (4, qm_I (qm_i j)), (5, qm_I (qm_i m)), (6, qm_I (qm_i k))]) rfl rfl rfl ?_
    refine qm_G.sp (lv1 := [(0, qm_R (some (0, 61, 0))), (3, qm_I (qm_i O)), (4, qm_I (qm_i j)), (5, qm_I (qm_i m)), (6, qm_I (qm_i k))]) rfl rfl (qm_x_iload rfl) ?_
    refine qm_G.s1 rfl (qm_x_iload rfl) ?_
    refine qm_G.s1 rfl (qm_x_icmp_ge_f ⟨by omega, by omega⟩ ⟨by omega, by omega⟩ (by omega)) ?_
    refine qm_G.s1 rfl (qm_x_aload rfl) ?_
    refine qm_G.s1 rfl (qm_x_getfR (q := (some (0, 75, 0))) (hS 61 rfl) (hR 61 22 75 rfl rfl)) ?_
    refine qm_G.s1 rfl (qm_x_pushI 60 rfl) ?_
    refine qm_G.s1 rfl (qm_x_iload rfl) ?_
    refine qm_G.s1 rfl (qm_x_imul) ?_
    refine qm_G.s1 rfl (qm_x_iload rfl) ?_
    refine qm_G.s1 rfl (qm_x_iadd) ?_
    refine qm_G.s1 rfl (qm_x_iload rfl) ?_
    refine qm_G.s1 rfl (qm_x_iadd) ?_
    refine qm_G.s1 rfl (qm_x_aload rfl) ?_
    refine qm_G.s1 rfl (qm_x_getfR (q := (some (0, 76, 0))) (hS 61 rfl) (hR 61 23 76 rfl rfl)) ?_
    refine qm_G.s1 rfl (qm_x_iload rfl) ?_
    refine qm_G.s1 rfl (qm_x_lald (a := (L 76 0 (Int.toNat k))) (qm_arS hS rfl rfl) rfl (by omega) (by omega) (by decide) rfl) ?_
    refine qm_G.s1 rfl (qm_x_last (qm_arS hS rfl rfl) rfl (by omega) (by omega) (by decide)) ?_
    refine qm_G.s1 rfl (qm_x_iinc (lv' := [(6, qm_I (qm_i (k + 1))), (0, qm_R (some (0, 61, 0))), (3, qm_I (qm_i O)), (4, qm_I (qm_i j)), (5, qm_I (qm_i m))]) 1 rfl rfl rfl) ?_
    refine qm_G.s1 rfl (qm_x_goto) ?_
    refine qm_G.pk (lv1 := [(0, qm_R (some (0, 61, 0))), (3, qm_I (qm_i O)), (4, qm_I (qm_i j)), (5, qm_I (qm_i m)), (6, qm_I (qm_i (k + 1)))]) rfl rfl rfl ?_
    refine ih (k + 1) _ (by omega) (by omega) (fun L2 e2 t2 => k9 L2 (fun r s x h => (e2 r s x (by omega)).trans (qm_st_ne (by omega))) (fun x h5 h6 => ?_))
    by_cases c : x = Int.toNat k
    · subst c; rw [e2 75 0 _ (by omega), show Int.toNat (60 * O + j) + Int.toNat k = Int.toNat (60 * O + j + k) by omega]; exact qm_st_eq
    · rw [t2 x (by omega) h6, qm_st_ne (by omega)]
