/-! THE BITS of a double: the class's steps by powers of 2 -/
theorem qm_bi52_a {Q : Option qm_V → qm_Hp → Prop} {h : qm_Hp} {t : Nat} (ht : t < 2 ^ 52) : ∀ (n k : Nat) (j E : Int) (p : UInt64), k = 1023 + n → k ≤ 2046 → p.toNat = k * 2 ^ 52 + t → 0 ≤ j → j + n ≤ 1024 → (∀ p' : UInt64, p'.toNat = 4607182418800017408 + t → qm_G qm_P qm_P16 55 [(2, qm_I (qm_i 52)), (4, qm_D p'), (6, qm_L (qm_l (E + n)))] [] (h) Q) → qm_G qm_P qm_P16 18 [(2, qm_I (qm_i 52)), (4, qm_D p), (6, qm_L (qm_l E)), (8, qm_I (qm_i j))] [] (h) Q := by
  intro n
  induction n with
  | zero =>
    intro k j E p h1 h2 hp h3 h4 k9
    refine qm_G.pk (lv1 := [(2, qm_I (qm_i 52)), (4, qm_D p), (6, qm_L (qm_l E)), (8, qm_I (qm_i j))]) rfl rfl rfl ?_
    refine qm_G.sp (lv1 := [(2, qm_I (qm_i 52)), (4, qm_D p), (6, qm_L (qm_l E)), (8, qm_I (qm_i j))]) rfl rfl (qm_x_iload rfl) ?_
    refine qm_G.s1 rfl (qm_x_pushI 1100 rfl) ?_
    refine qm_G.s1 rfl (qm_x_icmp_ge_f ⟨by omega, by omega⟩ ⟨by decide, by decide⟩ (by omega)) ?_
    refine qm_G.s1 rfl (qm_x_dload rfl) ?_
    refine qm_G.s1 rfl (qm_x_push) ?_
    refine qm_y_dcmp (x := (k * 2 ^ 52 + t)) (y := 4611686018427387904) rfl hp (by decide) (by omega) (by omega) (fun c1 => ?_) (fun c1 => absurd c1 (by omega)) (fun c1 => absurd c1 (by omega))
    refine qm_G.s1 rfl (qm_x_if_lt_t ⟨by decide, by decide⟩ (by decide)) ?_
    refine qm_G.pk (lv1 := [(2, qm_I (qm_i 52)), (4, qm_D p), (6, qm_L (qm_l E))]) rfl rfl rfl ?_
    have h9 := k9 p (by omega)
    rw [show E + ((0 : Nat) : Int) = E by omega] at h9
    exact h9
  | succ n ih =>
    intro k j E p h1 h2 hp h3 h4 k9
    refine qm_G.pk (lv1 := [(2, qm_I (qm_i 52)), (4, qm_D p), (6, qm_L (qm_l E)), (8, qm_I (qm_i j))]) rfl rfl rfl ?_
    refine qm_G.sp (lv1 := [(2, qm_I (qm_i 52)), (4, qm_D p), (6, qm_L (qm_l E)), (8, qm_I (qm_i j))]) rfl rfl (qm_x_iload rfl) ?_
    refine qm_G.s1 rfl (qm_x_pushI 1100 rfl) ?_
    refine qm_G.s1 rfl (qm_x_icmp_ge_f ⟨by omega, by omega⟩ ⟨by decide, by decide⟩ (by omega)) ?_
    refine qm_G.s1 rfl (qm_x_dload rfl) ?_
    refine qm_G.s1 rfl (qm_x_push) ?_
    refine qm_y_dcmp (x := (k * 2 ^ 52 + t)) (y := 4611686018427387904) rfl hp (by decide) (by omega) (by omega) (fun c2 => absurd c2 (by omega)) (fun c2 => ?_) (fun c2 => ?_)
    · refine qm_G.s1 rfl (qm_x_if_lt_f ⟨by decide, by decide⟩ (by decide)) ?_
      refine qm_G.s1 rfl (qm_x_dload rfl) ?_
      refine qm_G.s1 rfl (qm_x_push) ?_
      refine qm_G.s1 rfl (qm_x_dmul (qm_half_fi hp ht (by omega) (by omega))) ?_
      refine qm_G.s1 rfl (qm_x_dstore (lv' := [(4, qm_D (FP.dmul p 4602678819172646912)), (2, qm_I (qm_i 52)), (6, qm_L (qm_l E)), (8, qm_I (qm_i j))]) rfl) ?_
      refine qm_G.s1 rfl (qm_x_lload rfl) ?_
      refine qm_G.s1 rfl (qm_x_pushL 1 rfl) ?_
      refine qm_G.s1 rfl (qm_x_laddz) ?_
      refine qm_G.s1 rfl (qm_x_lstore (lv' := [(6, qm_L (qm_l (E + 1))), (4, qm_D (FP.dmul p 4602678819172646912)), (2, qm_I (qm_i 52)), (8, qm_I (qm_i j))]) rfl) ?_
      refine qm_G.s1 rfl (qm_x_iinc (lv' := [(8, qm_I (qm_i (j + 1))), (6, qm_L (qm_l (E + 1))), (4, qm_D (FP.dmul p 4602678819172646912)), (2, qm_I (qm_i 52))]) 1 rfl rfl rfl) ?_
      refine qm_G.s1 rfl (qm_x_goto) ?_
      refine qm_G.pk (lv1 := [(2, qm_I (qm_i 52)), (4, qm_D (FP.dmul p 4602678819172646912)), (6, qm_L (qm_l (E + 1))), (8, qm_I (qm_i (j + 1)))]) rfl rfl rfl ?_
      exact ih (k - 1) (j + 1) (E + 1) _ (by omega) (by omega) (qm_half hp ht (by omega) (by omega)) (by omega) (by omega) (fun p9 h9 => by have h8 := k9 p9 h9; rw [show E + ((n + 1 : Nat) : Int) = E + 1 + (n : Int) by omega] at h8; exact h8)
    · refine qm_G.s1 rfl (qm_x_if_lt_f ⟨by decide, by decide⟩ (by decide)) ?_
      refine qm_G.s1 rfl (qm_x_dload rfl) ?_
      refine qm_G.s1 rfl (qm_x_push) ?_
      refine qm_G.s1 rfl (qm_x_dmul (qm_half_fi hp ht (by omega) (by omega))) ?_
      refine qm_G.s1 rfl (qm_x_dstore (lv' := [(4, qm_D (FP.dmul p 4602678819172646912)), (2, qm_I (qm_i 52)), (6, qm_L (qm_l E)), (8, qm_I (qm_i j))]) rfl) ?_
      refine qm_G.s1 rfl (qm_x_lload rfl) ?_
      refine qm_G.s1 rfl (qm_x_pushL 1 rfl) ?_
      refine qm_G.s1 rfl (qm_x_laddz) ?_
      refine qm_G.s1 rfl (qm_x_lstore (lv' := [(6, qm_L (qm_l (E + 1))), (4, qm_D (FP.dmul p 4602678819172646912)), (2, qm_I (qm_i 52)), (8, qm_I (qm_i j))]) rfl) ?_
      refine qm_G.s1 rfl (qm_x_iinc (lv' := [(8, qm_I (qm_i (j + 1))), (6, qm_L (qm_l (E + 1))), (4, qm_D (FP.dmul p 4602678819172646912)), (2, qm_I (qm_i 52))]) 1 rfl rfl rfl) ?_
      refine qm_G.s1 rfl (qm_x_goto) ?_
      refine qm_G.pk (lv1 := [(2, qm_I (qm_i 52)), (4, qm_D (FP.dmul p 4602678819172646912)), (6, qm_L (qm_l (E + 1))), (8, qm_I (qm_i (j + 1)))]) rfl rfl rfl ?_
      exact ih (k - 1) (j + 1) (E + 1) _ (by omega) (by omega) (qm_half hp ht (by omega) (by omega)) (by omega) (by omega) (fun p9 h9 => by have h8 := k9 p9 h9; rw [show E + ((n + 1 : Nat) : Int) = E + 1 + (n : Int) by omega] at h8; exact h8)
theorem qm_bi52_b {Q : Option qm_V → qm_Hp → Prop} {h : qm_Hp} {t : Nat} (ht : t < 2 ^ 52) : ∀ (n k : Nat) (j E : Int) (p : UInt64), k + n = 1023 → 1 ≤ k → p.toNat = k * 2 ^ 52 + t → 0 ≤ j → j + n ≤ 1024 → (∀ p' : UInt64, p'.toNat = 4607182418800017408 + t → qm_G qm_P qm_P16 93 [(2, qm_I (qm_i 52)), (4, qm_D p'), (6, qm_L (qm_l (E - n)))] [] (h) Q) → qm_G qm_P qm_P16 58 [(2, qm_I (qm_i 52)), (4, qm_D p), (6, qm_L (qm_l E)), (8, qm_I (qm_i j))] [] (h) Q := by
  intro n
  induction n with
  | zero =>
    intro k j E p h1 h2 hp h3 h4 k9
    refine qm_G.pk (lv1 := [(2, qm_I (qm_i 52)), (4, qm_D p), (6, qm_L (qm_l E)), (8, qm_I (qm_i j))]) rfl rfl rfl ?_
    refine qm_G.sp (lv1 := [(2, qm_I (qm_i 52)), (4, qm_D p), (6, qm_L (qm_l E)), (8, qm_I (qm_i j))]) rfl rfl (qm_x_iload rfl) ?_
    refine qm_G.s1 rfl (qm_x_pushI 1100 rfl) ?_
    refine qm_G.s1 rfl (qm_x_icmp_ge_f ⟨by omega, by omega⟩ ⟨by decide, by decide⟩ (by omega)) ?_
    refine qm_G.s1 rfl (qm_x_dload rfl) ?_
    refine qm_G.s1 rfl (qm_x_push) ?_
    refine qm_y_dcmp (x := (k * 2 ^ 52 + t)) (y := 4607182418800017408) rfl hp (by decide) (by omega) (by omega) (fun c1 => absurd c1 (by omega)) (fun c1 => ?_) (fun c1 => ?_)
    · refine qm_G.s1 rfl (qm_x_if_ge_t ⟨by decide, by decide⟩ (by decide)) ?_
      refine qm_G.pk (lv1 := [(2, qm_I (qm_i 52)), (4, qm_D p), (6, qm_L (qm_l E))]) rfl rfl rfl ?_
      have h9 := k9 p (by omega)
      rw [show E - ((0 : Nat) : Int) = E by omega] at h9
      exact h9
    · refine qm_G.s1 rfl (qm_x_if_ge_t ⟨by decide, by decide⟩ (by decide)) ?_
      refine qm_G.pk (lv1 := [(2, qm_I (qm_i 52)), (4, qm_D p), (6, qm_L (qm_l E))]) rfl rfl rfl ?_
      have h9 := k9 p (by omega)
      rw [show E - ((0 : Nat) : Int) = E by omega] at h9
      exact h9
  | succ n ih =>
    intro k j E p h1 h2 hp h3 h4 k9
    refine qm_G.pk (lv1 := [(2, qm_I (qm_i 52)), (4, qm_D p), (6, qm_L (qm_l E)), (8, qm_I (qm_i j))]) rfl rfl rfl ?_
    refine qm_G.sp (lv1 := [(2, qm_I (qm_i 52)), (4, qm_D p), (6, qm_L (qm_l E)), (8, qm_I (qm_i j))]) rfl rfl (qm_x_iload rfl) ?_
    refine qm_G.s1 rfl (qm_x_pushI 1100 rfl) ?_
    refine qm_G.s1 rfl (qm_x_icmp_ge_f ⟨by omega, by omega⟩ ⟨by decide, by decide⟩ (by omega)) ?_
    refine qm_G.s1 rfl (qm_x_dload rfl) ?_
    refine qm_G.s1 rfl (qm_x_push) ?_
    refine qm_y_dcmp (x := (k * 2 ^ 52 + t)) (y := 4607182418800017408) rfl hp (by decide) (by omega) (by omega) (fun c2 => ?_) (fun c2 => absurd c2 (by omega)) (fun c2 => absurd c2 (by omega))
    refine qm_G.s1 rfl (qm_x_if_ge_f ⟨by decide, by decide⟩ (by decide)) ?_
    refine qm_G.s1 rfl (qm_x_dload rfl) ?_
    refine qm_G.s1 rfl (qm_x_push) ?_
    refine qm_G.s1 rfl (qm_x_dmul (qm_twice_fi hp ht (by omega) (by omega))) ?_
    refine qm_G.s1 rfl (qm_x_dstore (lv' := [(4, qm_D (FP.dmul p 4611686018427387904)), (2, qm_I (qm_i 52)), (6, qm_L (qm_l E)), (8, qm_I (qm_i j))]) rfl) ?_
    refine qm_G.s1 rfl (qm_x_lload rfl) ?_
    refine qm_G.s1 rfl (qm_x_pushL 1 rfl) ?_
    refine qm_G.s1 rfl (qm_x_lsubz) ?_
    refine qm_G.s1 rfl (qm_x_lstore (lv' := [(6, qm_L (qm_l (E - 1))), (4, qm_D (FP.dmul p 4611686018427387904)), (2, qm_I (qm_i 52)), (8, qm_I (qm_i j))]) rfl) ?_
    refine qm_G.s1 rfl (qm_x_iinc (lv' := [(8, qm_I (qm_i (j + 1))), (6, qm_L (qm_l (E - 1))), (4, qm_D (FP.dmul p 4611686018427387904)), (2, qm_I (qm_i 52))]) 1 rfl rfl rfl) ?_
    refine qm_G.s1 rfl (qm_x_goto) ?_
    refine qm_G.pk (lv1 := [(2, qm_I (qm_i 52)), (4, qm_D (FP.dmul p 4611686018427387904)), (6, qm_L (qm_l (E - 1))), (8, qm_I (qm_i (j + 1)))]) rfl rfl rfl ?_
    exact ih (k + 1) (j + 1) (E - 1) _ (by omega) (by omega) (qm_twice hp ht (by omega) (by omega)) (by omega) (by omega) (fun p9 h9 => by have h8 := k9 p9 h9; rw [show E - ((n + 1 : Nat) : Int) = E - 1 - (n : Int) by omega] at h8; exact h8)
theorem qm_bi52_c {Q : Option qm_V → qm_Hp → Prop} {h : qm_Hp} {t : Nat} (ht : t < 2 ^ 52) {E : Int} {p : UInt64} {t' : Nat} (hp : p.toNat = 4607182418800017408 + t) (h9 : t = t' * 2 ^ (52 - 52)) (k : Q (some (qm_L (qm_l (E * 4503599627370496 + t')))) h) : qm_G qm_P qm_P16 93 [(2, qm_I (qm_i 52)), (4, qm_D p), (6, qm_L (qm_l E))] [] (h) Q := by
  have f9 := qm_frac hp ht (by decide) qm_one52 h9
  refine qm_G.pk (lv1 := [(2, qm_I (qm_i 52)), (4, qm_D p), (6, qm_L (qm_l E))]) rfl rfl rfl ?_
  refine qm_G.sp (lv1 := [(2, qm_I (qm_i 52)), (4, qm_D p), (6, qm_L (qm_l E))]) rfl rfl (qm_x_lload rfl) ?_
  refine qm_G.s1 rfl (qm_x_iload rfl) ?_
  refine qm_G.s1 rfl (qm_x_lshl) ?_
  refine qm_G.s1 rfl (qm_x_dload rfl) ?_
  refine qm_G.s1 rfl (qm_x_push) ?_
  refine qm_G.s1 rfl (qm_x_dsub f9.1) ?_
  refine qm_G.s1 rfl (qm_x_pushL 1 rfl) ?_
  refine qm_G.s1 rfl (qm_x_iload rfl) ?_
  refine qm_G.s1 rfl (qm_x_lshl) ?_
  refine qm_G.s1 rfl (qm_x_l2d) ?_
  refine qm_G.s1 rfl (qm_x_dmul f9.2.1) ?_
  refine qm_G.s1 rfl (qm_x_d2l) ?_
  refine qm_G.s1 rfl (qm_x_ladd) ?_
  exact qm_G.ret rfl rfl (by rw [qm_shl52, f9.2.2, qm_l_add]; exact k)
theorem qm_v_bits52 {Q : Option qm_V → qm_Hp → Prop} {h : qm_Hp} {t : Nat} (ht : t < 2 ^ 52) {v : UInt64} {K t' : Nat} (hv : v.toNat = K * 2 ^ 52 + t) (hK : 1 ≤ K ∧ K ≤ 2046) (h9 : t = t' * 2 ^ (52 - 52)) (k : Q (some (qm_L (qm_l ((1023 + ((K : Int) - 1023)) * 4503599627370496 + t')))) h) : qm_C qm_P 16 [qm_D v, qm_I (qm_i 52), qm_I (qm_i 1023)] (h) Q := by
  refine qm_C.go (cd := qm_P16) (lv := [(0, qm_D v), (2, qm_I (qm_i 52)), (3, qm_I (qm_i 1023))]) rfl rfl ?_
  refine qm_G.s1 rfl (qm_x_dload rfl) ?_
  refine qm_G.s1 rfl (qm_x_push) ?_
  refine qm_y_dcmp (x := (K * 2 ^ 52 + t)) (y := 0) rfl hv (by decide) (by omega) (by omega) (fun c1 => absurd c1 (by omega)) (fun c1 => absurd c1 (by omega)) (fun c1 => ?_)
  refine qm_G.s1 rfl (qm_x_if_gt_t ⟨by decide, by decide⟩ (by decide)) ?_
  refine qm_G.sp (lv1 := [(0, qm_D v), (2, qm_I (qm_i 52)), (3, qm_I (qm_i 1023))]) rfl rfl (qm_x_dload rfl) ?_
  refine qm_G.s1 rfl (qm_x_dstore (lv' := [(4, qm_D v), (0, qm_D v), (2, qm_I (qm_i 52)), (3, qm_I (qm_i 1023))]) rfl) ?_
  refine qm_G.s1 rfl (qm_x_iload rfl) ?_
  refine qm_G.s1 rfl (qm_x_i2l ⟨by decide, by decide⟩) ?_
  refine qm_G.s1 rfl (qm_x_lstore (lv' := [(6, qm_L (qm_l 1023)), (4, qm_D v), (0, qm_D v), (2, qm_I (qm_i 52)), (3, qm_I (qm_i 1023))]) rfl) ?_
  refine qm_G.s1 rfl (qm_x_pushI 0 rfl) ?_
  refine qm_G.s1 rfl (qm_x_istore (lv' := [(8, qm_I (qm_i 0)), (6, qm_L (qm_l 1023)), (4, qm_D v), (0, qm_D v), (2, qm_I (qm_i 52)), (3, qm_I (qm_i 1023))]) rfl) ?_
  refine qm_G.pk (lv1 := [(2, qm_I (qm_i 52)), (4, qm_D v), (6, qm_L (qm_l 1023)), (8, qm_I (qm_i 0))]) rfl rfl rfl ?_
  rcases Nat.lt_or_ge K 1023 with cK | cK
  · have dm : (1 : Nat) ≤ 1 := Nat.le_refl 1
    refine qm_G.sp (lv1 := [(2, qm_I (qm_i 52)), (4, qm_D v), (6, qm_L (qm_l 1023)), (8, qm_I (qm_i 0))]) rfl rfl (qm_x_iload rfl) ?_
    refine qm_G.s1 rfl (qm_x_pushI 1100 rfl) ?_
    refine qm_G.s1 rfl (qm_x_icmp_ge_f ⟨by decide, by decide⟩ ⟨by decide, by decide⟩ (by decide)) ?_
    refine qm_G.s1 rfl (qm_x_dload rfl) ?_
    refine qm_G.s1 rfl (qm_x_push) ?_
    refine qm_y_dcmp (x := (K * 2 ^ 52 + t)) (y := 4611686018427387904) rfl hv (by decide) (by omega) (by omega) (fun c2 => ?_) (fun c2 => absurd c2 (by omega)) (fun c2 => absurd c2 (by omega))
    refine qm_G.s1 rfl (qm_x_if_lt_t ⟨by decide, by decide⟩ (by decide)) ?_
    refine qm_G.sp (lv1 := [(2, qm_I (qm_i 52)), (4, qm_D v), (6, qm_L (qm_l 1023))]) rfl rfl (qm_x_pushI 0 rfl) ?_
    refine qm_G.s1 rfl (qm_x_istore (lv' := [(8, qm_I (qm_i 0)), (2, qm_I (qm_i 52)), (4, qm_D v), (6, qm_L (qm_l 1023))]) rfl) ?_
    refine qm_G.pk (lv1 := [(2, qm_I (qm_i 52)), (4, qm_D v), (6, qm_L (qm_l 1023)), (8, qm_I (qm_i 0))]) rfl rfl rfl ?_
    refine qm_bi52_b ht (1023 - K) K 0 1023 v (by omega) (by omega) hv (by decide) (by omega) (fun p9 h8 => ?_)
    exact qm_bi52_c ht h8 h9 (by rw [show (1023 : Int) - ((1023 - K : Nat) : Int) = 1023 + ((K : Int) - 1023) by omega]; exact k)
  · refine qm_bi52_a ht (K - 1023) K 0 1023 v (by omega) (by omega) hv (by decide) (by omega) (fun p9 h8 => ?_)
    refine qm_G.sp (lv1 := [(2, qm_I (qm_i 52)), (4, qm_D p9), (6, qm_L (qm_l (1023 + ((K - 1023 : Nat) : Int))))]) rfl rfl (qm_x_pushI 0 rfl) ?_
    refine qm_G.s1 rfl (qm_x_istore (lv' := [(8, qm_I (qm_i 0)), (2, qm_I (qm_i 52)), (4, qm_D p9), (6, qm_L (qm_l (1023 + ((K - 1023 : Nat) : Int))))]) rfl) ?_
    refine qm_G.pk (lv1 := [(2, qm_I (qm_i 52)), (4, qm_D p9), (6, qm_L (qm_l (1023 + ((K - 1023 : Nat) : Int)))), (8, qm_I (qm_i 0))]) rfl rfl rfl ?_
    refine qm_bi52_b ht 0 1023 0 _ p9 (by decide) (by decide) (h8.trans rfl) (by decide) (by decide) (fun p8 h7 => ?_)
    exact qm_bi52_c ht h7 h9 (by rw [show (1023 : Int) + ((K - 1023 : Nat) : Int) - ((0 : Nat) : Int) = 1023 + ((K : Int) - 1023) by omega]; exact k)
theorem qm_bi23_a {Q : Option qm_V → qm_Hp → Prop} {h : qm_Hp} {t : Nat} (ht : t < 2 ^ 52) : ∀ (n k : Nat) (j E : Int) (p : UInt64), k = 1023 + n → k ≤ 2046 → p.toNat = k * 2 ^ 52 + t → 0 ≤ j → j + n ≤ 1024 → (∀ p' : UInt64, p'.toNat = 4607182418800017408 + t → qm_G qm_P qm_P16 55 [(2, qm_I (qm_i 23)), (4, qm_D p'), (6, qm_L (qm_l (E + n)))] [] (h) Q) → qm_G qm_P qm_P16 18 [(2, qm_I (qm_i 23)), (4, qm_D p), (6, qm_L (qm_l E)), (8, qm_I (qm_i j))] [] (h) Q := by
  intro n
  induction n with
  | zero =>
    intro k j E p h1 h2 hp h3 h4 k9
    refine qm_G.pk (lv1 := [(2, qm_I (qm_i 23)), (4, qm_D p), (6, qm_L (qm_l E)), (8, qm_I (qm_i j))]) rfl rfl rfl ?_
    refine qm_G.sp (lv1 := [(2, qm_I (qm_i 23)), (4, qm_D p), (6, qm_L (qm_l E)), (8, qm_I (qm_i j))]) rfl rfl (qm_x_iload rfl) ?_
    refine qm_G.s1 rfl (qm_x_pushI 1100 rfl) ?_
    refine qm_G.s1 rfl (qm_x_icmp_ge_f ⟨by omega, by omega⟩ ⟨by decide, by decide⟩ (by omega)) ?_
    refine qm_G.s1 rfl (qm_x_dload rfl) ?_
    refine qm_G.s1 rfl (qm_x_push) ?_
    refine qm_y_dcmp (x := (k * 2 ^ 52 + t)) (y := 4611686018427387904) rfl hp (by decide) (by omega) (by omega) (fun c1 => ?_) (fun c1 => absurd c1 (by omega)) (fun c1 => absurd c1 (by omega))
    refine qm_G.s1 rfl (qm_x_if_lt_t ⟨by decide, by decide⟩ (by decide)) ?_
    refine qm_G.pk (lv1 := [(2, qm_I (qm_i 23)), (4, qm_D p), (6, qm_L (qm_l E))]) rfl rfl rfl ?_
    have h9 := k9 p (by omega)
    rw [show E + ((0 : Nat) : Int) = E by omega] at h9
    exact h9
  | succ n ih =>
    intro k j E p h1 h2 hp h3 h4 k9
    refine qm_G.pk (lv1 := [(2, qm_I (qm_i 23)), (4, qm_D p), (6, qm_L (qm_l E)), (8, qm_I (qm_i j))]) rfl rfl rfl ?_
    refine qm_G.sp (lv1 := [(2, qm_I (qm_i 23)), (4, qm_D p), (6, qm_L (qm_l E)), (8, qm_I (qm_i j))]) rfl rfl (qm_x_iload rfl) ?_
    refine qm_G.s1 rfl (qm_x_pushI 1100 rfl) ?_
    refine qm_G.s1 rfl (qm_x_icmp_ge_f ⟨by omega, by omega⟩ ⟨by decide, by decide⟩ (by omega)) ?_
    refine qm_G.s1 rfl (qm_x_dload rfl) ?_
    refine qm_G.s1 rfl (qm_x_push) ?_
    refine qm_y_dcmp (x := (k * 2 ^ 52 + t)) (y := 4611686018427387904) rfl hp (by decide) (by omega) (by omega) (fun c2 => absurd c2 (by omega)) (fun c2 => ?_) (fun c2 => ?_)
    · refine qm_G.s1 rfl (qm_x_if_lt_f ⟨by decide, by decide⟩ (by decide)) ?_
      refine qm_G.s1 rfl (qm_x_dload rfl) ?_
      refine qm_G.s1 rfl (qm_x_push) ?_
      refine qm_G.s1 rfl (qm_x_dmul (qm_half_fi hp ht (by omega) (by omega))) ?_
      refine qm_G.s1 rfl (qm_x_dstore (lv' := [(4, qm_D (FP.dmul p 4602678819172646912)), (2, qm_I (qm_i 23)), (6, qm_L (qm_l E)), (8, qm_I (qm_i j))]) rfl) ?_
      refine qm_G.s1 rfl (qm_x_lload rfl) ?_
      refine qm_G.s1 rfl (qm_x_pushL 1 rfl) ?_
      refine qm_G.s1 rfl (qm_x_laddz) ?_
      refine qm_G.s1 rfl (qm_x_lstore (lv' := [(6, qm_L (qm_l (E + 1))), (4, qm_D (FP.dmul p 4602678819172646912)), (2, qm_I (qm_i 23)), (8, qm_I (qm_i j))]) rfl) ?_
      refine qm_G.s1 rfl (qm_x_iinc (lv' := [(8, qm_I (qm_i (j + 1))), (6, qm_L (qm_l (E + 1))), (4, qm_D (FP.dmul p 4602678819172646912)), (2, qm_I (qm_i 23))]) 1 rfl rfl rfl) ?_
      refine qm_G.s1 rfl (qm_x_goto) ?_
      refine qm_G.pk (lv1 := [(2, qm_I (qm_i 23)), (4, qm_D (FP.dmul p 4602678819172646912)), (6, qm_L (qm_l (E + 1))), (8, qm_I (qm_i (j + 1)))]) rfl rfl rfl ?_
      exact ih (k - 1) (j + 1) (E + 1) _ (by omega) (by omega) (qm_half hp ht (by omega) (by omega)) (by omega) (by omega) (fun p9 h9 => by have h8 := k9 p9 h9; rw [show E + ((n + 1 : Nat) : Int) = E + 1 + (n : Int) by omega] at h8; exact h8)
    · refine qm_G.s1 rfl (qm_x_if_lt_f ⟨by decide, by decide⟩ (by decide)) ?_
      refine qm_G.s1 rfl (qm_x_dload rfl) ?_
      refine qm_G.s1 rfl (qm_x_push) ?_
      refine qm_G.s1 rfl (qm_x_dmul (qm_half_fi hp ht (by omega) (by omega))) ?_
      refine qm_G.s1 rfl (qm_x_dstore (lv' := [(4, qm_D (FP.dmul p 4602678819172646912)), (2, qm_I (qm_i 23)), (6, qm_L (qm_l E)), (8, qm_I (qm_i j))]) rfl) ?_
      refine qm_G.s1 rfl (qm_x_lload rfl) ?_
      refine qm_G.s1 rfl (qm_x_pushL 1 rfl) ?_
      refine qm_G.s1 rfl (qm_x_laddz) ?_
      refine qm_G.s1 rfl (qm_x_lstore (lv' := [(6, qm_L (qm_l (E + 1))), (4, qm_D (FP.dmul p 4602678819172646912)), (2, qm_I (qm_i 23)), (8, qm_I (qm_i j))]) rfl) ?_
      refine qm_G.s1 rfl (qm_x_iinc (lv' := [(8, qm_I (qm_i (j + 1))), (6, qm_L (qm_l (E + 1))), (4, qm_D (FP.dmul p 4602678819172646912)), (2, qm_I (qm_i 23))]) 1 rfl rfl rfl) ?_
      refine qm_G.s1 rfl (qm_x_goto) ?_
      refine qm_G.pk (lv1 := [(2, qm_I (qm_i 23)), (4, qm_D (FP.dmul p 4602678819172646912)), (6, qm_L (qm_l (E + 1))), (8, qm_I (qm_i (j + 1)))]) rfl rfl rfl ?_
      exact ih (k - 1) (j + 1) (E + 1) _ (by omega) (by omega) (qm_half hp ht (by omega) (by omega)) (by omega) (by omega) (fun p9 h9 => by have h8 := k9 p9 h9; rw [show E + ((n + 1 : Nat) : Int) = E + 1 + (n : Int) by omega] at h8; exact h8)
theorem qm_bi23_b {Q : Option qm_V → qm_Hp → Prop} {h : qm_Hp} {t : Nat} (ht : t < 2 ^ 52) : ∀ (n k : Nat) (j E : Int) (p : UInt64), k + n = 1023 → 1 ≤ k → p.toNat = k * 2 ^ 52 + t → 0 ≤ j → j + n ≤ 1024 → (∀ p' : UInt64, p'.toNat = 4607182418800017408 + t → qm_G qm_P qm_P16 93 [(2, qm_I (qm_i 23)), (4, qm_D p'), (6, qm_L (qm_l (E - n)))] [] (h) Q) → qm_G qm_P qm_P16 58 [(2, qm_I (qm_i 23)), (4, qm_D p), (6, qm_L (qm_l E)), (8, qm_I (qm_i j))] [] (h) Q := by
  intro n
  induction n with
  | zero =>
    intro k j E p h1 h2 hp h3 h4 k9
    refine qm_G.pk (lv1 := [(2, qm_I (qm_i 23)), (4, qm_D p), (6, qm_L (qm_l E)), (8, qm_I (qm_i j))]) rfl rfl rfl ?_
    refine qm_G.sp (lv1 := [(2, qm_I (qm_i 23)), (4, qm_D p), (6, qm_L (qm_l E)), (8, qm_I (qm_i j))]) rfl rfl (qm_x_iload rfl) ?_
    refine qm_G.s1 rfl (qm_x_pushI 1100 rfl) ?_
    refine qm_G.s1 rfl (qm_x_icmp_ge_f ⟨by omega, by omega⟩ ⟨by decide, by decide⟩ (by omega)) ?_
    refine qm_G.s1 rfl (qm_x_dload rfl) ?_
    refine qm_G.s1 rfl (qm_x_push) ?_
    refine qm_y_dcmp (x := (k * 2 ^ 52 + t)) (y := 4607182418800017408) rfl hp (by decide) (by omega) (by omega) (fun c1 => absurd c1 (by omega)) (fun c1 => ?_) (fun c1 => ?_)
    · refine qm_G.s1 rfl (qm_x_if_ge_t ⟨by decide, by decide⟩ (by decide)) ?_
      refine qm_G.pk (lv1 := [(2, qm_I (qm_i 23)), (4, qm_D p), (6, qm_L (qm_l E))]) rfl rfl rfl ?_
      have h9 := k9 p (by omega)
      rw [show E - ((0 : Nat) : Int) = E by omega] at h9
      exact h9
    · refine qm_G.s1 rfl (qm_x_if_ge_t ⟨by decide, by decide⟩ (by decide)) ?_
      refine qm_G.pk (lv1 := [(2, qm_I (qm_i 23)), (4, qm_D p), (6, qm_L (qm_l E))]) rfl rfl rfl ?_
      have h9 := k9 p (by omega)
      rw [show E - ((0 : Nat) : Int) = E by omega] at h9
      exact h9
  | succ n ih =>
    intro k j E p h1 h2 hp h3 h4 k9
    refine qm_G.pk (lv1 := [(2, qm_I (qm_i 23)), (4, qm_D p), (6, qm_L (qm_l E)), (8, qm_I (qm_i j))]) rfl rfl rfl ?_
    refine qm_G.sp (lv1 := [(2, qm_I (qm_i 23)), (4, qm_D p), (6, qm_L (qm_l E)), (8, qm_I (qm_i j))]) rfl rfl (qm_x_iload rfl) ?_
    refine qm_G.s1 rfl (qm_x_pushI 1100 rfl) ?_
    refine qm_G.s1 rfl (qm_x_icmp_ge_f ⟨by omega, by omega⟩ ⟨by decide, by decide⟩ (by omega)) ?_
    refine qm_G.s1 rfl (qm_x_dload rfl) ?_
    refine qm_G.s1 rfl (qm_x_push) ?_
    refine qm_y_dcmp (x := (k * 2 ^ 52 + t)) (y := 4607182418800017408) rfl hp (by decide) (by omega) (by omega) (fun c2 => ?_) (fun c2 => absurd c2 (by omega)) (fun c2 => absurd c2 (by omega))
    refine qm_G.s1 rfl (qm_x_if_ge_f ⟨by decide, by decide⟩ (by decide)) ?_
    refine qm_G.s1 rfl (qm_x_dload rfl) ?_
    refine qm_G.s1 rfl (qm_x_push) ?_
    refine qm_G.s1 rfl (qm_x_dmul (qm_twice_fi hp ht (by omega) (by omega))) ?_
    refine qm_G.s1 rfl (qm_x_dstore (lv' := [(4, qm_D (FP.dmul p 4611686018427387904)), (2, qm_I (qm_i 23)), (6, qm_L (qm_l E)), (8, qm_I (qm_i j))]) rfl) ?_
    refine qm_G.s1 rfl (qm_x_lload rfl) ?_
    refine qm_G.s1 rfl (qm_x_pushL 1 rfl) ?_
    refine qm_G.s1 rfl (qm_x_lsubz) ?_
    refine qm_G.s1 rfl (qm_x_lstore (lv' := [(6, qm_L (qm_l (E - 1))), (4, qm_D (FP.dmul p 4611686018427387904)), (2, qm_I (qm_i 23)), (8, qm_I (qm_i j))]) rfl) ?_
    refine qm_G.s1 rfl (qm_x_iinc (lv' := [(8, qm_I (qm_i (j + 1))), (6, qm_L (qm_l (E - 1))), (4, qm_D (FP.dmul p 4611686018427387904)), (2, qm_I (qm_i 23))]) 1 rfl rfl rfl) ?_
    refine qm_G.s1 rfl (qm_x_goto) ?_
    refine qm_G.pk (lv1 := [(2, qm_I (qm_i 23)), (4, qm_D (FP.dmul p 4611686018427387904)), (6, qm_L (qm_l (E - 1))), (8, qm_I (qm_i (j + 1)))]) rfl rfl rfl ?_
    exact ih (k + 1) (j + 1) (E - 1) _ (by omega) (by omega) (qm_twice hp ht (by omega) (by omega)) (by omega) (by omega) (fun p9 h9 => by have h8 := k9 p9 h9; rw [show E - ((n + 1 : Nat) : Int) = E - 1 - (n : Int) by omega] at h8; exact h8)
theorem qm_bi23_c {Q : Option qm_V → qm_Hp → Prop} {h : qm_Hp} {t : Nat} (ht : t < 2 ^ 52) {E : Int} {p : UInt64} {t' : Nat} (hp : p.toNat = 4607182418800017408 + t) (h9 : t = t' * 2 ^ (52 - 23)) (k : Q (some (qm_L (qm_l (E * 8388608 + t')))) h) : qm_G qm_P qm_P16 93 [(2, qm_I (qm_i 23)), (4, qm_D p), (6, qm_L (qm_l E))] [] (h) Q := by
  have f9 := qm_frac hp ht (by decide) qm_one23 h9
  refine qm_G.pk (lv1 := [(2, qm_I (qm_i 23)), (4, qm_D p), (6, qm_L (qm_l E))]) rfl rfl rfl ?_
  refine qm_G.sp (lv1 := [(2, qm_I (qm_i 23)), (4, qm_D p), (6, qm_L (qm_l E))]) rfl rfl (qm_x_lload rfl) ?_
  refine qm_G.s1 rfl (qm_x_iload rfl) ?_
  refine qm_G.s1 rfl (qm_x_lshl) ?_
  refine qm_G.s1 rfl (qm_x_dload rfl) ?_
  refine qm_G.s1 rfl (qm_x_push) ?_
  refine qm_G.s1 rfl (qm_x_dsub f9.1) ?_
  refine qm_G.s1 rfl (qm_x_pushL 1 rfl) ?_
  refine qm_G.s1 rfl (qm_x_iload rfl) ?_
  refine qm_G.s1 rfl (qm_x_lshl) ?_
  refine qm_G.s1 rfl (qm_x_l2d) ?_
  refine qm_G.s1 rfl (qm_x_dmul f9.2.1) ?_
  refine qm_G.s1 rfl (qm_x_d2l) ?_
  refine qm_G.s1 rfl (qm_x_ladd) ?_
  exact qm_G.ret rfl rfl (by rw [qm_shl23, f9.2.2, qm_l_add]; exact k)
theorem qm_v_bits23 {Q : Option qm_V → qm_Hp → Prop} {h : qm_Hp} {t : Nat} (ht : t < 2 ^ 52) {v : UInt64} {K t' : Nat} (hv : v.toNat = K * 2 ^ 52 + t) (hK : 1 ≤ K ∧ K ≤ 2046) (h9 : t = t' * 2 ^ (52 - 23)) (k : Q (some (qm_L (qm_l ((127 + ((K : Int) - 1023)) * 8388608 + t')))) h) : qm_C qm_P 16 [qm_D v, qm_I (qm_i 23), qm_I (qm_i 127)] (h) Q := by
  refine qm_C.go (cd := qm_P16) (lv := [(0, qm_D v), (2, qm_I (qm_i 23)), (3, qm_I (qm_i 127))]) rfl rfl ?_
  refine qm_G.s1 rfl (qm_x_dload rfl) ?_
  refine qm_G.s1 rfl (qm_x_push) ?_
  refine qm_y_dcmp (x := (K * 2 ^ 52 + t)) (y := 0) rfl hv (by decide) (by omega) (by omega) (fun c1 => absurd c1 (by omega)) (fun c1 => absurd c1 (by omega)) (fun c1 => ?_)
  refine qm_G.s1 rfl (qm_x_if_gt_t ⟨by decide, by decide⟩ (by decide)) ?_
  refine qm_G.sp (lv1 := [(0, qm_D v), (2, qm_I (qm_i 23)), (3, qm_I (qm_i 127))]) rfl rfl (qm_x_dload rfl) ?_
  refine qm_G.s1 rfl (qm_x_dstore (lv' := [(4, qm_D v), (0, qm_D v), (2, qm_I (qm_i 23)), (3, qm_I (qm_i 127))]) rfl) ?_
  refine qm_G.s1 rfl (qm_x_iload rfl) ?_
  refine qm_G.s1 rfl (qm_x_i2l ⟨by decide, by decide⟩) ?_
  refine qm_G.s1 rfl (qm_x_lstore (lv' := [(6, qm_L (qm_l 127)), (4, qm_D v), (0, qm_D v), (2, qm_I (qm_i 23)), (3, qm_I (qm_i 127))]) rfl) ?_
  refine qm_G.s1 rfl (qm_x_pushI 0 rfl) ?_
  refine qm_G.s1 rfl (qm_x_istore (lv' := [(8, qm_I (qm_i 0)), (6, qm_L (qm_l 127)), (4, qm_D v), (0, qm_D v), (2, qm_I (qm_i 23)), (3, qm_I (qm_i 127))]) rfl) ?_
  refine qm_G.pk (lv1 := [(2, qm_I (qm_i 23)), (4, qm_D v), (6, qm_L (qm_l 127)), (8, qm_I (qm_i 0))]) rfl rfl rfl ?_
  rcases Nat.lt_or_ge K 1023 with cK | cK
  · have dm : (1 : Nat) ≤ 1 := Nat.le_refl 1
    refine qm_G.sp (lv1 := [(2, qm_I (qm_i 23)), (4, qm_D v), (6, qm_L (qm_l 127)), (8, qm_I (qm_i 0))]) rfl rfl (qm_x_iload rfl) ?_
    refine qm_G.s1 rfl (qm_x_pushI 1100 rfl) ?_
    refine qm_G.s1 rfl (qm_x_icmp_ge_f ⟨by decide, by decide⟩ ⟨by decide, by decide⟩ (by decide)) ?_
    refine qm_G.s1 rfl (qm_x_dload rfl) ?_
    refine qm_G.s1 rfl (qm_x_push) ?_
    refine qm_y_dcmp (x := (K * 2 ^ 52 + t)) (y := 4611686018427387904) rfl hv (by decide) (by omega) (by omega) (fun c2 => ?_) (fun c2 => absurd c2 (by omega)) (fun c2 => absurd c2 (by omega))
    refine qm_G.s1 rfl (qm_x_if_lt_t ⟨by decide, by decide⟩ (by decide)) ?_
    refine qm_G.sp (lv1 := [(2, qm_I (qm_i 23)), (4, qm_D v), (6, qm_L (qm_l 127))]) rfl rfl (qm_x_pushI 0 rfl) ?_
    refine qm_G.s1 rfl (qm_x_istore (lv' := [(8, qm_I (qm_i 0)), (2, qm_I (qm_i 23)), (4, qm_D v), (6, qm_L (qm_l 127))]) rfl) ?_
    refine qm_G.pk (lv1 := [(2, qm_I (qm_i 23)), (4, qm_D v), (6, qm_L (qm_l 127)), (8, qm_I (qm_i 0))]) rfl rfl rfl ?_
    refine qm_bi23_b ht (1023 - K) K 0 127 v (by omega) (by omega) hv (by decide) (by omega) (fun p9 h8 => ?_)
    exact qm_bi23_c ht h8 h9 (by rw [show (127 : Int) - ((1023 - K : Nat) : Int) = 127 + ((K : Int) - 1023) by omega]; exact k)
  · refine qm_bi23_a ht (K - 1023) K 0 127 v (by omega) (by omega) hv (by decide) (by omega) (fun p9 h8 => ?_)
    refine qm_G.sp (lv1 := [(2, qm_I (qm_i 23)), (4, qm_D p9), (6, qm_L (qm_l (127 + ((K - 1023 : Nat) : Int))))]) rfl rfl (qm_x_pushI 0 rfl) ?_
    refine qm_G.s1 rfl (qm_x_istore (lv' := [(8, qm_I (qm_i 0)), (2, qm_I (qm_i 23)), (4, qm_D p9), (6, qm_L (qm_l (127 + ((K - 1023 : Nat) : Int))))]) rfl) ?_
    refine qm_G.pk (lv1 := [(2, qm_I (qm_i 23)), (4, qm_D p9), (6, qm_L (qm_l (127 + ((K - 1023 : Nat) : Int)))), (8, qm_I (qm_i 0))]) rfl rfl rfl ?_
    refine qm_bi23_b ht 0 1023 0 _ p9 (by decide) (by decide) (h8.trans rfl) (by decide) (by decide) (fun p8 h7 => ?_)
    exact qm_bi23_c ht h7 h9 (by rw [show (127 : Int) + ((K - 1023 : Nat) : Int) - ((0 : Nat) : Int) = 127 + ((K : Int) - 1023) by omega]; exact k)
theorem qm_v_bits0 {Q : Option qm_V → qm_Hp → Prop} {h : qm_Hp} {x y : Int} {v : UInt64} (hv : v.toNat = 0) (k : Q (some (qm_L (qm_l 0))) h) : qm_C qm_P 16 [qm_D v, qm_I (qm_i x), qm_I (qm_i y)] (h) Q := by
  refine qm_C.go (cd := qm_P16) (lv := [(0, qm_D v), (2, qm_I (qm_i x)), (3, qm_I (qm_i y))]) rfl rfl ?_
  refine qm_G.s1 rfl (qm_x_dload rfl) ?_
  refine qm_G.s1 rfl (qm_x_push) ?_
  refine qm_y_dcmp (x := 0) (y := 0) rfl hv (by decide) (by omega) (by omega) (fun c1 => absurd c1 (by omega)) (fun c1 => ?_) (fun c1 => absurd c1 (by omega))
  refine qm_G.s1 rfl (qm_x_if_gt_f ⟨by decide, by decide⟩ (by decide)) ?_
  refine qm_G.s1 rfl (qm_x_pushL 0 rfl) ?_
  exact qm_G.ret rfl rfl k
/-- a double whose bits the class tells -/
def qm_go (v : UInt64) : Prop := v.toNat = 0 ∨ (2 ^ 52 ≤ v.toNat ∧ v.toNat < 2047 * 2 ^ 52)
theorem qm_pd.go {lo hi : Nat} {a : UInt64} (h : qm_pd lo hi a) (h1 : 1 ≤ lo) (h2 : hi ≤ 2046) : qm_go a := by
  rcases h with h | h
  · exact Or.inl h
  · exact Or.inr (by omega)
theorem qm_v_dbits {Q : Option qm_V → qm_Hp → Prop} {h : qm_Hp} {v : UInt64} (hv : qm_go v) (k : Q (some (qm_L (qm_l (v.toNat : Int)))) h) : qm_C qm_P 105 [qm_D v] h Q := by
  refine qm_C.go (cd := qm_P105) (lv := [(0, qm_D v)]) rfl rfl ?_
  refine qm_G.s1 rfl (qm_x_dload rfl) ?_
  refine qm_G.s1 rfl (qm_x_pushI 52 rfl) ?_
  refine qm_G.s1 rfl (qm_x_pushI 1023 rfl) ?_
  refine qm_G.cs rfl rfl rfl ?_
  rcases hv with hv | hv
  · refine qm_v_bits0 hv ⟨_, rfl, ?_⟩
    rw [hv] at k
    exact qm_G.ret rfl rfl k
  · refine qm_v_bits52 (t := v.toNat % 2 ^ 52) (t' := v.toNat % 2 ^ 52) (K := v.toNat / 2 ^ 52) (Nat.mod_lt _ (by decide)) (by omega) (by omega) (by omega) ⟨_, rfl, ?_⟩
    rw [show (1023 + (((v.toNat / 2 ^ 52 : Nat) : Int) - 1023)) * 4503599627370496 + ((v.toNat % 2 ^ 52 : Nat) : Int) = (v.toNat : Int) by omega]
    exact qm_G.ret rfl rfl k
theorem qm_toI64 {v : UInt64} (h : v.toNat < 2 ^ 63) : v.toInt64 = qm_l (v.toNat : Int) := by
  rw [← qm_l_self v.toInt64]
  refine congrArg qm_l ?_
  show v.toBitVec.toInt = _
  rw [BitVec.toInt_eq_toNat_of_lt (by have : v.toBitVec.toNat = v.toNat := rfl; omega)]
  rfl
theorem qm_m_dbits {Q : Option qm_V → qm_Hp → Prop} {h : qm_Hp} {v : UInt64} (hv : qm_go v) (k : Q (some (qm_L (qm_l (v.toNat : Int)))) h) : qm_C qm_P 98 [qm_D v] (h) Q := by
  have h9 : v.toNat < 2047 * 2 ^ 52 := by unfold qm_go at hv; omega
  refine qm_C.go (cd := qm_P98) (lv := [(0, qm_D v)]) rfl rfl ?_
  refine qm_G.s1 rfl (qm_x_dload rfl) ?_
  refine qm_G.cs rfl rfl rfl ?_
  refine qm_C.go (cd := qm_P14) (lv := [(0, qm_D v)]) rfl rfl ?_
  refine qm_G.s1 rfl (qm_x_dload rfl) ?_
  refine qm_G.s1 rfl (qm_x_dload rfl) ?_
  refine qm_y_dcmp (x := v.toNat) (y := v.toNat) rfl rfl rfl (by omega) (by omega) (fun c1 => absurd c1 (by omega)) (fun c1 => ?_) (fun c1 => absurd c1 (by omega))
  refine qm_G.s1 rfl (qm_x_if_eq_t ⟨by decide, by decide⟩ (by decide)) ?_
  refine qm_G.sp (lv1 := []) rfl rfl (qm_x_pushI 0 rfl) ?_
  refine qm_G.ret rfl rfl ⟨_, rfl, ?_⟩
  refine qm_G.s1 rfl (qm_x_if_ne_f ⟨by decide, by decide⟩ (by decide)) ?_
  refine qm_G.s1 rfl (qm_x_dload rfl) ?_
  refine qm_G.s1 rfl (qm_x_d2b rfl) ?_
  exact qm_G.ret rfl rfl (by rw [qm_toI64 (by omega)]; exact k)
