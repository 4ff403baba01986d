/-! VALUE on the model's side -/
/-- the model's rounds go by -/
def qm_Mb (J : qm_J) (lim fine : Int) (Pb Pa : Int → Int) : Prop := J 62 0 1 = lim ∧ (1 ≤ lim ∧ lim ≤ 8) ∧ J 62 0 3 = fine ∧ (0 ≤ fine ∧ fine ≤ 99) ∧ (∀ (z : Int) (i : Nat), i = Int.toNat z → 0 ≤ z → z ≤ 6 → J 68 0 i = Pb z) ∧ (∀ (z : Int) (i : Nat), i = Int.toNat (z + 7) → 0 ≤ z → z ≤ 6 → J 68 0 i = Pa z) ∧ (∀ z : Int, 0 ≤ z → z ≤ 6 → 0 ≤ Pb z ∧ Pb z ≤ 1000) ∧ (∀ z : Int, 0 ≤ z → z ≤ 6 → 0 ≤ Pa z ∧ Pa z ≤ 1000) ∧ Pb 6 = 0 ∧ Pa 6 = 0
theorem qm_Mb.fr {J J' : qm_J} {lim fine : Int} {Pb Pa : Int → Int} (h : qm_Mb J lim fine Pb Pa) (e : ∀ r s i, r = 62 ∨ r = 68 → J' r s i = J r s i) : qm_Mb J' lim fine Pb Pa := by
  obtain ⟨h1, h2, h7, h8, h3, h4, h5, h6⟩ := h
  exact ⟨by rw [e 62 0 1 (by omega)]; exact h1, h2, by rw [e 62 0 3 (by omega)]; exact h7, h8, fun z i a b c => by rw [e 68 0 i (by omega)]; exact h3 z i a b c, fun z i a b c => by rw [e 68 0 i (by omega)]; exact h4 z i a b c, h5, h6⟩
theorem qm_hd_in {V : Int → Int64} {lim x : Int} (h1 : -lim ≤ x) (h2 : x ≤ lim) : qm_hd V lim x = V x := if_pos ⟨h1, h2⟩
theorem qm_m_bri {S : List qm_Sh} {J K : qm_J} {L : qm_Ct Int64} {D : qm_Ct UInt64} {R : qm_Ct (Option qm_Rf)} {X : Nat × (Nat → Int32)} {Q : Option qm_V → qm_Hp → Prop} {lim fine s t b a : Int} {Pb Pa : Int → Int} {V : Int → Int64} (hS : qm_Sd S) (hR : qm_Rd R) (hB : qm_Mb J lim fine Pb Pa) (rs : -lim ≤ s ∧ s ≤ lim) (rt : 1 ≤ t ∧ t ≤ 8) (r0 : 0 ≤ b ∧ b ≤ 6) (r1 : 0 ≤ a ∧ a ≤ 6) (hb : 0 < Pb b → s + 1 ≤ lim) (ha : 0 < Pa a → -lim ≤ s - 1) (hV : ∀ (z : Int) (i : Nat), i = Int.toNat (17 * (t - 1) + 8 + z) → -lim ≤ z → z ≤ lim → L 64 0 i = V z) (k : Q (some (qm_L (qm_mn (Pb b) (Pa a) b a (qm_hd V lim s) (qm_hd V lim (s + 1)) (qm_hd V lim (s - 1))))) (qm_H S J K L D R X)) : qm_C qm_P 103 [qm_R (some (0, 61, 0)), qm_R (some (0, 64, 0)), qm_I (qm_i s), qm_I (qm_i t), qm_I (qm_i b), qm_I (qm_i a)] (qm_H S J K L D R X) Q := by
  obtain ⟨hl, rl, hf, rf, hPb, hPa, rPb, rPa, p6, q6⟩ := hB
  refine qm_C.go (cd := qm_P103) (lv := [(0, qm_R (some (0, 61, 0))), (1, qm_R (some (0, 64, 0))), (2, qm_I (qm_i s)), (3, qm_I (qm_i t)), (4, qm_I (qm_i b)), (5, qm_I (qm_i a))]) rfl rfl ?_
  refine qm_G.s1 rfl (qm_x_aload rfl) ?_
  refine qm_G.s1 rfl (qm_x_getfR (q := (some (0, 68, 0))) (hS 61 rfl) (hR 61 11 68 rfl rfl)) ?_
  refine qm_G.s1 rfl (qm_x_iload rfl) ?_
  have g1 := rPb b (by omega) (by omega)
  refine qm_G.s1 rfl (qm_x_iald (v := (Pb b)) (qm_arS hS rfl rfl) rfl (by omega) (by omega) (by decide) (hPb b _ (by omega) (by omega) (by omega))) ?_
  refine qm_G.s1 rfl (qm_x_i2l ⟨by omega, by omega⟩) ?_
  refine qm_G.s1 rfl (qm_x_lstore (lv' := [(6, qm_L (qm_l (Pb b))), (0, qm_R (some (0, 61, 0))), (1, qm_R (some (0, 64, 0))), (2, qm_I (qm_i s)), (3, qm_I (qm_i t)), (4, qm_I (qm_i b)), (5, qm_I (qm_i a))]) rfl) ?_
  refine qm_G.s1 rfl (qm_x_aload rfl) ?_
  refine qm_G.s1 rfl (qm_x_getfR (q := (some (0, 68, 0))) (hS 61 rfl) (hR 61 11 68 rfl rfl)) ?_
  refine qm_G.s1 rfl (qm_x_pushI 7 rfl) ?_
  refine qm_G.s1 rfl (qm_x_iload rfl) ?_
  refine qm_G.s1 rfl (qm_x_iadd) ?_
  have g2 := rPa a (by omega) (by omega)
  refine qm_G.s1 rfl (qm_x_iald (v := (Pa a)) (qm_arS hS rfl rfl) rfl (by omega) (by omega) (by decide) (hPa a _ (by omega) (by omega) (by omega))) ?_
  refine qm_G.s1 rfl (qm_x_i2l ⟨by omega, by omega⟩) ?_
  refine qm_G.s1 rfl (qm_x_lstore (lv' := [(8, qm_L (qm_l (Pa a))), (6, qm_L (qm_l (Pb b))), (0, qm_R (some (0, 61, 0))), (1, qm_R (some (0, 64, 0))), (2, qm_I (qm_i s)), (3, qm_I (qm_i t)), (4, qm_I (qm_i b)), (5, qm_I (qm_i a))]) rfl) ?_
  refine qm_G.s1 rfl (qm_x_lload rfl) ?_
  refine qm_G.s1 rfl (qm_x_lload rfl) ?_
  refine qm_G.s1 rfl (qm_x_lmul) ?_
  refine qm_G.s1 rfl (qm_x_aload rfl) ?_
  refine qm_G.s1 rfl (qm_x_iload rfl) ?_
  refine qm_G.s1 rfl (qm_x_pushI 1 rfl) ?_
  refine qm_G.s1 rfl (qm_x_isub) ?_
  refine qm_G.s1 rfl (qm_x_iload rfl) ?_
  refine qm_G.cs rfl rfl rfl ?_
  refine qm_C.go (cd := qm_P24) (lv := [(0, qm_I (qm_i (t - 1))), (1, qm_I (qm_i s))]) rfl rfl ?_
  refine qm_G.s1 rfl (qm_x_pushI 17 rfl) ?_
  refine qm_G.s1 rfl (qm_x_iload rfl) ?_
  refine qm_G.s1 rfl (qm_x_imul) ?_
  refine qm_G.s1 rfl (qm_x_pushI 8 rfl) ?_
  refine qm_G.s1 rfl (qm_x_iadd) ?_
  refine qm_G.s1 rfl (qm_x_iload rfl) ?_
  refine qm_G.s1 rfl (qm_x_iadd) ?_
  refine qm_G.ret rfl rfl ⟨_, rfl, ?_⟩
  refine qm_G.s1 rfl (qm_x_lald (a := (V s)) (qm_arS hS rfl rfl) rfl (by omega) (by omega) (by decide) (hV s _ (by omega) (by omega) (by omega))) ?_
  refine qm_G.s1 rfl (qm_x_iload rfl) ?_
  refine qm_G.s1 rfl (qm_x_iload rfl) ?_
  refine qm_G.s1 rfl (qm_x_iadd) ?_
  refine qm_G.s1 rfl (qm_x_i2l ⟨by omega, by omega⟩) ?_
  refine qm_G.s1 rfl (qm_x_pushL 1000000 rfl) ?_
  refine qm_G.s1 rfl (qm_x_lmul) ?_
  refine qm_G.s1 rfl (qm_x_ladd) ?_
  refine qm_G.s1 rfl (qm_x_lmul) ?_
  refine qm_G.s1 rfl (qm_x_pushL 1000 rfl) ?_
  refine qm_G.s1 rfl (qm_x_lload rfl) ?_
  refine qm_G.s1 rfl (qm_x_lsubz) ?_
  refine qm_G.s1 rfl (qm_x_pushL 1000 rfl) ?_
  refine qm_G.s1 rfl (qm_x_lload rfl) ?_
  refine qm_G.s1 rfl (qm_x_lsubz) ?_
  refine qm_G.s1 rfl (qm_x_lmul) ?_
  refine qm_G.s1 rfl (qm_x_aload rfl) ?_
  refine qm_G.s1 rfl (qm_x_iload rfl) ?_
  refine qm_G.s1 rfl (qm_x_pushI 1 rfl) ?_
  refine qm_G.s1 rfl (qm_x_isub) ?_
  refine qm_G.s1 rfl (qm_x_iload rfl) ?_
  refine qm_G.cs rfl rfl rfl ?_
  refine qm_C.go (cd := qm_P24) (lv := [(0, qm_I (qm_i (t - 1))), (1, qm_I (qm_i s))]) rfl rfl ?_
  refine qm_G.s1 rfl (qm_x_pushI 17 rfl) ?_
  refine qm_G.s1 rfl (qm_x_iload rfl) ?_
  refine qm_G.s1 rfl (qm_x_imul) ?_
  refine qm_G.s1 rfl (qm_x_pushI 8 rfl) ?_
  refine qm_G.s1 rfl (qm_x_iadd) ?_
  refine qm_G.s1 rfl (qm_x_iload rfl) ?_
  refine qm_G.s1 rfl (qm_x_iadd) ?_
  refine qm_G.ret rfl rfl ⟨_, rfl, ?_⟩
  refine qm_G.s1 rfl (qm_x_lald (a := (V s)) (qm_arS hS rfl rfl) rfl (by omega) (by omega) (by decide) (hV s _ (by omega) (by omega) (by omega))) ?_
  refine qm_G.s1 rfl (qm_x_lmul) ?_
  refine qm_G.s1 rfl (qm_x_ladd) ?_
  refine qm_G.s1 rfl (qm_x_lstore (lv' := [(10, qm_L ((((qm_l (Pb b)) * (qm_l (Pa a))) * ((V s) + ((qm_l (b + a)) * (qm_l 1000000)))) + (((qm_l (1000 - (Pb b))) * (qm_l (1000 - (Pa a)))) * (V s)))), (8, qm_L (qm_l (Pa a))), (6, qm_L (qm_l (Pb b))), (0, qm_R (some (0, 61, 0))), (1, qm_R (some (0, 64, 0))), (2, qm_I (qm_i s)), (3, qm_I (qm_i t)), (4, qm_I (qm_i b)), (5, qm_I (qm_i a))]) rfl) ?_
  refine qm_G.s1 rfl (qm_x_lload rfl) ?_
  refine qm_G.s1 rfl (qm_x_pushL 0 rfl) ?_
  refine qm_y_lcmp rfl ⟨by omega, by omega⟩ ⟨by omega, by omega⟩ (fun c3 => absurd c3 (by omega)) (fun c3 => ?_) (fun c3 => ?_)
  · refine qm_G.s1 rfl (qm_x_if_le_t ⟨by decide, by decide⟩ (by decide)) ?_
    refine qm_G.sp (lv1 := [(1, qm_R (some (0, 64, 0))), (2, qm_I (qm_i s)), (3, qm_I (qm_i t)), (5, qm_I (qm_i a)), (6, qm_L (qm_l (Pb b))), (8, qm_L (qm_l (Pa a))), (10, qm_L ((((qm_l (Pb b)) * (qm_l (Pa a))) * ((V s) + ((qm_l (b + a)) * (qm_l 1000000)))) + (((qm_l (1000 - (Pb b))) * (qm_l (1000 - (Pa a)))) * (V s))))]) rfl rfl (qm_x_lload rfl) ?_
    refine qm_G.s1 rfl (qm_x_pushL 0 rfl) ?_
    refine qm_y_lcmp rfl ⟨by omega, by omega⟩ ⟨by omega, by omega⟩ (fun c4 => absurd c4 (by omega)) (fun c4 => ?_) (fun c4 => ?_)
    · refine qm_G.s1 rfl (qm_x_if_le_t ⟨by decide, by decide⟩ (by decide)) ?_
      refine qm_G.sp (lv1 := [(10, qm_L ((((qm_l (Pb b)) * (qm_l (Pa a))) * ((V s) + ((qm_l (b + a)) * (qm_l 1000000)))) + (((qm_l (1000 - (Pb b))) * (qm_l (1000 - (Pa a)))) * (V s))))]) rfl rfl (qm_x_lload rfl) ?_
      refine qm_G.s1 rfl (qm_x_pushL 1000000 rfl) ?_
      refine qm_G.cs rfl rfl rfl ?_
      refine qm_v_fd ⟨_, rfl, ?_⟩
      exact qm_G.ret rfl rfl (by rw [qm_hd_in (V := V) (x := s) (by omega) (by omega), ← qm_mn_00 (show Pb b = 0 by omega) (show Pa a = 0 by omega)] at k; exact k)
    · refine qm_G.s1 rfl (qm_x_if_le_f ⟨by decide, by decide⟩ (by decide)) ?_
      have ha9 := ha (by omega)
      refine qm_G.s1 rfl (qm_x_lload rfl) ?_
      refine qm_G.s1 rfl (qm_x_pushL 1000 rfl) ?_
      refine qm_G.s1 rfl (qm_x_lload rfl) ?_
      refine qm_G.s1 rfl (qm_x_lsubz) ?_
      refine qm_G.s1 rfl (qm_x_lload rfl) ?_
      refine qm_G.s1 rfl (qm_x_lmul) ?_
      refine qm_G.s1 rfl (qm_x_aload rfl) ?_
      refine qm_G.s1 rfl (qm_x_iload rfl) ?_
      refine qm_G.s1 rfl (qm_x_pushI 1 rfl) ?_
      refine qm_G.s1 rfl (qm_x_isub) ?_
      refine qm_G.s1 rfl (qm_x_iload rfl) ?_
      refine qm_G.s1 rfl (qm_x_pushI 1 rfl) ?_
      refine qm_G.s1 rfl (qm_x_isub) ?_
      refine qm_G.cs rfl rfl rfl ?_
      refine qm_C.go (cd := qm_P24) (lv := [(0, qm_I (qm_i (t - 1))), (1, qm_I (qm_i (s - 1)))]) rfl rfl ?_
      refine qm_G.s1 rfl (qm_x_pushI 17 rfl) ?_
      refine qm_G.s1 rfl (qm_x_iload rfl) ?_
      refine qm_G.s1 rfl (qm_x_imul) ?_
      refine qm_G.s1 rfl (qm_x_pushI 8 rfl) ?_
      refine qm_G.s1 rfl (qm_x_iadd) ?_
      refine qm_G.s1 rfl (qm_x_iload rfl) ?_
      refine qm_G.s1 rfl (qm_x_iadd) ?_
      refine qm_G.ret rfl rfl ⟨_, rfl, ?_⟩
      refine qm_G.s1 rfl (qm_x_lald (a := (V (s - 1))) (qm_arS hS rfl rfl) rfl (by omega) (by omega) (by decide) (hV (s - 1) _ (by omega) (by omega) (by omega))) ?_
      refine qm_G.s1 rfl (qm_x_iload rfl) ?_
      refine qm_G.s1 rfl (qm_x_i2l ⟨by omega, by omega⟩) ?_
      refine qm_G.s1 rfl (qm_x_pushL 1000000 rfl) ?_
      refine qm_G.s1 rfl (qm_x_lmul) ?_
      refine qm_G.s1 rfl (qm_x_ladd) ?_
      refine qm_G.s1 rfl (qm_x_lmul) ?_
      refine qm_G.s1 rfl (qm_x_ladd) ?_
      refine qm_G.s1 rfl (qm_x_lstore (lv' := [(10, qm_L (((((qm_l (Pb b)) * (qm_l (Pa a))) * ((V s) + ((qm_l (b + a)) * (qm_l 1000000)))) + (((qm_l (1000 - (Pb b))) * (qm_l (1000 - (Pa a)))) * (V s))) + (((qm_l (1000 - (Pb b))) * (qm_l (Pa a))) * ((V (s - 1)) + ((qm_l a) * (qm_l 1000000)))))), (1, qm_R (some (0, 64, 0))), (2, qm_I (qm_i s)), (3, qm_I (qm_i t)), (5, qm_I (qm_i a)), (6, qm_L (qm_l (Pb b))), (8, qm_L (qm_l (Pa a)))]) rfl) ?_
      refine qm_G.sp (lv1 := [(10, qm_L (((((qm_l (Pb b)) * (qm_l (Pa a))) * ((V s) + ((qm_l (b + a)) * (qm_l 1000000)))) + (((qm_l (1000 - (Pb b))) * (qm_l (1000 - (Pa a)))) * (V s))) + (((qm_l (1000 - (Pb b))) * (qm_l (Pa a))) * ((V (s - 1)) + ((qm_l a) * (qm_l 1000000))))))]) rfl rfl (qm_x_lload rfl) ?_
      refine qm_G.s1 rfl (qm_x_pushL 1000000 rfl) ?_
      refine qm_G.cs rfl rfl rfl ?_
      refine qm_v_fd ⟨_, rfl, ?_⟩
      exact qm_G.ret rfl rfl (by rw [qm_hd_in (V := V) (x := s) (by omega) (by omega), qm_hd_in (V := V) (x := s - 1) (by omega) (by omega), ← qm_mn_01 (show Pb b = 0 by omega)] at k; exact k)
  · refine qm_G.s1 rfl (qm_x_if_le_f ⟨by decide, by decide⟩ (by decide)) ?_
    have hb9 := hb (by omega)
    refine qm_G.s1 rfl (qm_x_lload rfl) ?_
    refine qm_G.s1 rfl (qm_x_lload rfl) ?_
    refine qm_G.s1 rfl (qm_x_pushL 1000 rfl) ?_
    refine qm_G.s1 rfl (qm_x_lload rfl) ?_
    refine qm_G.s1 rfl (qm_x_lsubz) ?_
    refine qm_G.s1 rfl (qm_x_lmul) ?_
    refine qm_G.s1 rfl (qm_x_aload rfl) ?_
    refine qm_G.s1 rfl (qm_x_iload rfl) ?_
    refine qm_G.s1 rfl (qm_x_pushI 1 rfl) ?_
    refine qm_G.s1 rfl (qm_x_isub) ?_
    refine qm_G.s1 rfl (qm_x_iload rfl) ?_
    refine qm_G.s1 rfl (qm_x_pushI 1 rfl) ?_
    refine qm_G.s1 rfl (qm_x_iadd) ?_
    refine qm_G.cs rfl rfl rfl ?_
    refine qm_C.go (cd := qm_P24) (lv := [(0, qm_I (qm_i (t - 1))), (1, qm_I (qm_i (s + 1)))]) rfl rfl ?_
    refine qm_G.s1 rfl (qm_x_pushI 17 rfl) ?_
    refine qm_G.s1 rfl (qm_x_iload rfl) ?_
    refine qm_G.s1 rfl (qm_x_imul) ?_
    refine qm_G.s1 rfl (qm_x_pushI 8 rfl) ?_
    refine qm_G.s1 rfl (qm_x_iadd) ?_
    refine qm_G.s1 rfl (qm_x_iload rfl) ?_
    refine qm_G.s1 rfl (qm_x_iadd) ?_
    refine qm_G.ret rfl rfl ⟨_, rfl, ?_⟩
    refine qm_G.s1 rfl (qm_x_lald (a := (V (s + 1))) (qm_arS hS rfl rfl) rfl (by omega) (by omega) (by decide) (hV (s + 1) _ (by omega) (by omega) (by omega))) ?_
    refine qm_G.s1 rfl (qm_x_iload rfl) ?_
    refine qm_G.s1 rfl (qm_x_i2l ⟨by omega, by omega⟩) ?_
    refine qm_G.s1 rfl (qm_x_pushL 1000000 rfl) ?_
    refine qm_G.s1 rfl (qm_x_lmul) ?_
    refine qm_G.s1 rfl (qm_x_ladd) ?_
    refine qm_G.s1 rfl (qm_x_lmul) ?_
    refine qm_G.s1 rfl (qm_x_ladd) ?_
    refine qm_G.s1 rfl (qm_x_lstore (lv' := [(10, qm_L (((((qm_l (Pb b)) * (qm_l (Pa a))) * ((V s) + ((qm_l (b + a)) * (qm_l 1000000)))) + (((qm_l (1000 - (Pb b))) * (qm_l (1000 - (Pa a)))) * (V s))) + (((qm_l (Pb b)) * (qm_l (1000 - (Pa a)))) * ((V (s + 1)) + ((qm_l b) * (qm_l 1000000)))))), (8, qm_L (qm_l (Pa a))), (6, qm_L (qm_l (Pb b))), (0, qm_R (some (0, 61, 0))), (1, qm_R (some (0, 64, 0))), (2, qm_I (qm_i s)), (3, qm_I (qm_i t)), (4, qm_I (qm_i b)), (5, qm_I (qm_i a))]) rfl) ?_
    refine qm_G.sp (lv1 := [(1, qm_R (some (0, 64, 0))), (2, qm_I (qm_i s)), (3, qm_I (qm_i t)), (5, qm_I (qm_i a)), (6, qm_L (qm_l (Pb b))), (8, qm_L (qm_l (Pa a))), (10, qm_L (((((qm_l (Pb b)) * (qm_l (Pa a))) * ((V s) + ((qm_l (b + a)) * (qm_l 1000000)))) + (((qm_l (1000 - (Pb b))) * (qm_l (1000 - (Pa a)))) * (V s))) + (((qm_l (Pb b)) * (qm_l (1000 - (Pa a)))) * ((V (s + 1)) + ((qm_l b) * (qm_l 1000000))))))]) rfl rfl (qm_x_lload rfl) ?_
    refine qm_G.s1 rfl (qm_x_pushL 0 rfl) ?_
    refine qm_y_lcmp rfl ⟨by omega, by omega⟩ ⟨by omega, by omega⟩ (fun c5 => absurd c5 (by omega)) (fun c5 => ?_) (fun c5 => ?_)
    · refine qm_G.s1 rfl (qm_x_if_le_t ⟨by decide, by decide⟩ (by decide)) ?_
      refine qm_G.sp (lv1 := [(10, qm_L (((((qm_l (Pb b)) * (qm_l (Pa a))) * ((V s) + ((qm_l (b + a)) * (qm_l 1000000)))) + (((qm_l (1000 - (Pb b))) * (qm_l (1000 - (Pa a)))) * (V s))) + (((qm_l (Pb b)) * (qm_l (1000 - (Pa a)))) * ((V (s + 1)) + ((qm_l b) * (qm_l 1000000))))))]) rfl rfl (qm_x_lload rfl) ?_
      refine qm_G.s1 rfl (qm_x_pushL 1000000 rfl) ?_
      refine qm_G.cs rfl rfl rfl ?_
      refine qm_v_fd ⟨_, rfl, ?_⟩
      exact qm_G.ret rfl rfl (by rw [qm_hd_in (V := V) (x := s) (by omega) (by omega), qm_hd_in (V := V) (x := s + 1) (by omega) (by omega), ← qm_mn_10 (show Pa a = 0 by omega)] at k; exact k)
    · refine qm_G.s1 rfl (qm_x_if_le_f ⟨by decide, by decide⟩ (by decide)) ?_
      have ha9 := ha (by omega)
      refine qm_G.s1 rfl (qm_x_lload rfl) ?_
      refine qm_G.s1 rfl (qm_x_pushL 1000 rfl) ?_
      refine qm_G.s1 rfl (qm_x_lload rfl) ?_
      refine qm_G.s1 rfl (qm_x_lsubz) ?_
      refine qm_G.s1 rfl (qm_x_lload rfl) ?_
      refine qm_G.s1 rfl (qm_x_lmul) ?_
      refine qm_G.s1 rfl (qm_x_aload rfl) ?_
      refine qm_G.s1 rfl (qm_x_iload rfl) ?_
      refine qm_G.s1 rfl (qm_x_pushI 1 rfl) ?_
      refine qm_G.s1 rfl (qm_x_isub) ?_
      refine qm_G.s1 rfl (qm_x_iload rfl) ?_
      refine qm_G.s1 rfl (qm_x_pushI 1 rfl) ?_
      refine qm_G.s1 rfl (qm_x_isub) ?_
      refine qm_G.cs rfl rfl rfl ?_
      refine qm_C.go (cd := qm_P24) (lv := [(0, qm_I (qm_i (t - 1))), (1, qm_I (qm_i (s - 1)))]) rfl rfl ?_
      refine qm_G.s1 rfl (qm_x_pushI 17 rfl) ?_
      refine qm_G.s1 rfl (qm_x_iload rfl) ?_
      refine qm_G.s1 rfl (qm_x_imul) ?_
      refine qm_G.s1 rfl (qm_x_pushI 8 rfl) ?_
      refine qm_G.s1 rfl (qm_x_iadd) ?_
      refine qm_G.s1 rfl (qm_x_iload rfl) ?_
      refine qm_G.s1 rfl (qm_x_iadd) ?_
      refine qm_G.ret rfl rfl ⟨_, rfl, ?_⟩
      refine qm_G.s1 rfl (qm_x_lald (a := (V (s - 1))) (qm_arS hS rfl rfl) rfl (by omega) (by omega) (by decide) (hV (s - 1) _ (by omega) (by omega) (by omega))) ?_
      refine qm_G.s1 rfl (qm_x_iload rfl) ?_
      refine qm_G.s1 rfl (qm_x_i2l ⟨by omega, by omega⟩) ?_
      refine qm_G.s1 rfl (qm_x_pushL 1000000 rfl) ?_
      refine qm_G.s1 rfl (qm_x_lmul) ?_
      refine qm_G.s1 rfl (qm_x_ladd) ?_
      refine qm_G.s1 rfl (qm_x_lmul) ?_
      refine qm_G.s1 rfl (qm_x_ladd) ?_
      refine qm_G.s1 rfl (qm_x_lstore (lv' := [(10, qm_L ((((((qm_l (Pb b)) * (qm_l (Pa a))) * ((V s) + ((qm_l (b + a)) * (qm_l 1000000)))) + (((qm_l (1000 - (Pb b))) * (qm_l (1000 - (Pa a)))) * (V s))) + (((qm_l (Pb b)) * (qm_l (1000 - (Pa a)))) * ((V (s + 1)) + ((qm_l b) * (qm_l 1000000))))) + (((qm_l (1000 - (Pb b))) * (qm_l (Pa a))) * ((V (s - 1)) + ((qm_l a) * (qm_l 1000000)))))), (1, qm_R (some (0, 64, 0))), (2, qm_I (qm_i s)), (3, qm_I (qm_i t)), (5, qm_I (qm_i a)), (6, qm_L (qm_l (Pb b))), (8, qm_L (qm_l (Pa a)))]) rfl) ?_
      refine qm_G.sp (lv1 := [(10, qm_L ((((((qm_l (Pb b)) * (qm_l (Pa a))) * ((V s) + ((qm_l (b + a)) * (qm_l 1000000)))) + (((qm_l (1000 - (Pb b))) * (qm_l (1000 - (Pa a)))) * (V s))) + (((qm_l (Pb b)) * (qm_l (1000 - (Pa a)))) * ((V (s + 1)) + ((qm_l b) * (qm_l 1000000))))) + (((qm_l (1000 - (Pb b))) * (qm_l (Pa a))) * ((V (s - 1)) + ((qm_l a) * (qm_l 1000000))))))]) rfl rfl (qm_x_lload rfl) ?_
      refine qm_G.s1 rfl (qm_x_pushL 1000000 rfl) ?_
      refine qm_G.cs rfl rfl rfl ?_
      refine qm_v_fd ⟨_, rfl, ?_⟩
      exact qm_G.ret rfl rfl (by rw [qm_hd_in (V := V) (x := s) (by omega) (by omega), qm_hd_in (V := V) (x := s + 1) (by omega) (by omega), qm_hd_in (V := V) (x := s - 1) (by omega) (by omega), ← qm_mn_11] at k; exact k)
theorem qm_m_brw {S : List qm_Sh} {J K : qm_J} {L : qm_Ct Int64} {D : qm_Ct UInt64} {R : qm_Ct (Option qm_Rf)} {X : Nat × (Nat → Int32)} {Q : Option qm_V → qm_Hp → Prop} {lim fine s t b a : Int} {Pb Pa : Int → Int} {V : Int → Int64} (hS : qm_Sd S) (hR : qm_Rd R) (hB : qm_Mb J lim fine Pb Pa) (rs : -lim ≤ s ∧ s ≤ lim) (rt : 1 ≤ t ∧ t ≤ 8) (r0 : 0 ≤ b ∧ b ≤ 6) (r1 : 0 ≤ a ∧ a ≤ 6) (hb : 0 < Pb b → s + 1 ≤ lim) (ha : 0 < Pa a → -lim ≤ s - 1) (hV : ∀ (z : Int) (i : Nat), i = Int.toNat (17 * (t - 1) + 8 + z) → -lim ≤ z → z ≤ lim → L 66 0 i = V z) (k : Q (some (qm_L (qm_mn (Pb b) (Pa a) b a (qm_hd V lim s) (qm_hd V lim (s + 1)) (qm_hd V lim (s - 1))))) (qm_H S J K L D R X)) : qm_C qm_P 103 [qm_R (some (0, 61, 0)), qm_R (some (0, 66, 0)), qm_I (qm_i s), qm_I (qm_i t), qm_I (qm_i b), qm_I (qm_i a)] (qm_H S J K L D R X) Q := by
  obtain ⟨hl, rl, hf, rf, hPb, hPa, rPb, rPa, p6, q6⟩ := hB
  refine qm_C.go (cd := qm_P103) (lv := [(0, qm_R (some (0, 61, 0))), (1, qm_R (some (0, 66, 0))), (2, qm_I (qm_i s)), (3, qm_I (qm_i t)), (4, qm_I (qm_i b)), (5, qm_I (qm_i a))]) rfl rfl ?_
  refine qm_G.s1 rfl (qm_x_aload rfl) ?_
  refine qm_G.s1 rfl (qm_x_getfR (q := (some (0, 68, 0))) (hS 61 rfl) (hR 61 11 68 rfl rfl)) ?_
  refine qm_G.s1 rfl (qm_x_iload rfl) ?_
  have g1 := rPb b (by omega) (by omega)
  refine qm_G.s1 rfl (qm_x_iald (v := (Pb b)) (qm_arS hS rfl rfl) rfl (by omega) (by omega) (by decide) (hPb b _ (by omega) (by omega) (by omega))) ?_
  refine qm_G.s1 rfl (qm_x_i2l ⟨by omega, by omega⟩) ?_
  refine qm_G.s1 rfl (qm_x_lstore (lv' := [(6, qm_L (qm_l (Pb b))), (0, qm_R (some (0, 61, 0))), (1, qm_R (some (0, 66, 0))), (2, qm_I (qm_i s)), (3, qm_I (qm_i t)), (4, qm_I (qm_i b)), (5, qm_I (qm_i a))]) rfl) ?_
  refine qm_G.s1 rfl (qm_x_aload rfl) ?_
  refine qm_G.s1 rfl (qm_x_getfR (q := (some (0, 68, 0))) (hS 61 rfl) (hR 61 11 68 rfl rfl)) ?_
  refine qm_G.s1 rfl (qm_x_pushI 7 rfl) ?_
  refine qm_G.s1 rfl (qm_x_iload rfl) ?_
  refine qm_G.s1 rfl (qm_x_iadd) ?_
  have g2 := rPa a (by omega) (by omega)
  refine qm_G.s1 rfl (qm_x_iald (v := (Pa a)) (qm_arS hS rfl rfl) rfl (by omega) (by omega) (by decide) (hPa a _ (by omega) (by omega) (by omega))) ?_
  refine qm_G.s1 rfl (qm_x_i2l ⟨by omega, by omega⟩) ?_
  refine qm_G.s1 rfl (qm_x_lstore (lv' := [(8, qm_L (qm_l (Pa a))), (6, qm_L (qm_l (Pb b))), (0, qm_R (some (0, 61, 0))), (1, qm_R (some (0, 66, 0))), (2, qm_I (qm_i s)), (3, qm_I (qm_i t)), (4, qm_I (qm_i b)), (5, qm_I (qm_i a))]) rfl) ?_
  refine qm_G.s1 rfl (qm_x_lload rfl) ?_
  refine qm_G.s1 rfl (qm_x_lload rfl) ?_
  refine qm_G.s1 rfl (qm_x_lmul) ?_
  refine qm_G.s1 rfl (qm_x_aload rfl) ?_
  refine qm_G.s1 rfl (qm_x_iload rfl) ?_
  refine qm_G.s1 rfl (qm_x_pushI 1 rfl) ?_
  refine qm_G.s1 rfl (qm_x_isub) ?_
  refine qm_G.s1 rfl (qm_x_iload rfl) ?_
  refine qm_G.cs rfl rfl rfl ?_
  refine qm_C.go (cd := qm_P24) (lv := [(0, qm_I (qm_i (t - 1))), (1, qm_I (qm_i s))]) rfl rfl ?_
  refine qm_G.s1 rfl (qm_x_pushI 17 rfl) ?_
  refine qm_G.s1 rfl (qm_x_iload rfl) ?_
  refine qm_G.s1 rfl (qm_x_imul) ?_
  refine qm_G.s1 rfl (qm_x_pushI 8 rfl) ?_
  refine qm_G.s1 rfl (qm_x_iadd) ?_
  refine qm_G.s1 rfl (qm_x_iload rfl) ?_
  refine qm_G.s1 rfl (qm_x_iadd) ?_
  refine qm_G.ret rfl rfl ⟨_, rfl, ?_⟩
  refine qm_G.s1 rfl (qm_x_lald (a := (V s)) (qm_arS hS rfl rfl) rfl (by omega) (by omega) (by decide) (hV s _ (by omega) (by omega) (by omega))) ?_
  refine qm_G.s1 rfl (qm_x_iload rfl) ?_
  refine qm_G.s1 rfl (qm_x_iload rfl) ?_
  refine qm_G.s1 rfl (qm_x_iadd) ?_
  refine qm_G.s1 rfl (qm_x_i2l ⟨by omega, by omega⟩) ?_
  refine qm_G.s1 rfl (qm_x_pushL 1000000 rfl) ?_
  refine qm_G.s1 rfl (qm_x_lmul) ?_
  refine qm_G.s1 rfl (qm_x_ladd) ?_
  refine qm_G.s1 rfl (qm_x_lmul) ?_
  refine qm_G.s1 rfl (qm_x_pushL 1000 rfl) ?_
  refine qm_G.s1 rfl (qm_x_lload rfl) ?_
  refine qm_G.s1 rfl (qm_x_lsubz) ?_
  refine qm_G.s1 rfl (qm_x_pushL 1000 rfl) ?_
  refine qm_G.s1 rfl (qm_x_lload rfl) ?_
  refine qm_G.s1 rfl (qm_x_lsubz) ?_
  refine qm_G.s1 rfl (qm_x_lmul) ?_
  refine qm_G.s1 rfl (qm_x_aload rfl) ?_
  refine qm_G.s1 rfl (qm_x_iload rfl) ?_
  refine qm_G.s1 rfl (qm_x_pushI 1 rfl) ?_
  refine qm_G.s1 rfl (qm_x_isub) ?_
  refine qm_G.s1 rfl (qm_x_iload rfl) ?_
  refine qm_G.cs rfl rfl rfl ?_
  refine qm_C.go (cd := qm_P24) (lv := [(0, qm_I (qm_i (t - 1))), (1, qm_I (qm_i s))]) rfl rfl ?_
  refine qm_G.s1 rfl (qm_x_pushI 17 rfl) ?_
  refine qm_G.s1 rfl (qm_x_iload rfl) ?_
  refine qm_G.s1 rfl (qm_x_imul) ?_
  refine qm_G.s1 rfl (qm_x_pushI 8 rfl) ?_
  refine qm_G.s1 rfl (qm_x_iadd) ?_
  refine qm_G.s1 rfl (qm_x_iload rfl) ?_
  refine qm_G.s1 rfl (qm_x_iadd) ?_
  refine qm_G.ret rfl rfl ⟨_, rfl, ?_⟩
  refine qm_G.s1 rfl (qm_x_lald (a := (V s)) (qm_arS hS rfl rfl) rfl (by omega) (by omega) (by decide) (hV s _ (by omega) (by omega) (by omega))) ?_
  refine qm_G.s1 rfl (qm_x_lmul) ?_
  refine qm_G.s1 rfl (qm_x_ladd) ?_
  refine qm_G.s1 rfl (qm_x_lstore (lv' := [(10, qm_L ((((qm_l (Pb b)) * (qm_l (Pa a))) * ((V s) + ((qm_l (b + a)) * (qm_l 1000000)))) + (((qm_l (1000 - (Pb b))) * (qm_l (1000 - (Pa a)))) * (V s)))), (8, qm_L (qm_l (Pa a))), (6, qm_L (qm_l (Pb b))), (0, qm_R (some (0, 61, 0))), (1, qm_R (some (0, 66, 0))), (2, qm_I (qm_i s)), (3, qm_I (qm_i t)), (4, qm_I (qm_i b)), (5, qm_I (qm_i a))]) rfl) ?_
  refine qm_G.s1 rfl (qm_x_lload rfl) ?_
  refine qm_G.s1 rfl (qm_x_pushL 0 rfl) ?_
  refine qm_y_lcmp rfl ⟨by omega, by omega⟩ ⟨by omega, by omega⟩ (fun c3 => absurd c3 (by omega)) (fun c3 => ?_) (fun c3 => ?_)
  · refine qm_G.s1 rfl (qm_x_if_le_t ⟨by decide, by decide⟩ (by decide)) ?_
    refine qm_G.sp (lv1 := [(1, qm_R (some (0, 66, 0))), (2, qm_I (qm_i s)), (3, qm_I (qm_i t)), (5, qm_I (qm_i a)), (6, qm_L (qm_l (Pb b))), (8, qm_L (qm_l (Pa a))), (10, qm_L ((((qm_l (Pb b)) * (qm_l (Pa a))) * ((V s) + ((qm_l (b + a)) * (qm_l 1000000)))) + (((qm_l (1000 - (Pb b))) * (qm_l (1000 - (Pa a)))) * (V s))))]) rfl rfl (qm_x_lload rfl) ?_
    refine qm_G.s1 rfl (qm_x_pushL 0 rfl) ?_
    refine qm_y_lcmp rfl ⟨by omega, by omega⟩ ⟨by omega, by omega⟩ (fun c4 => absurd c4 (by omega)) (fun c4 => ?_) (fun c4 => ?_)
    · refine qm_G.s1 rfl (qm_x_if_le_t ⟨by decide, by decide⟩ (by decide)) ?_
      refine qm_G.sp (lv1 := [(10, qm_L ((((qm_l (Pb b)) * (qm_l (Pa a))) * ((V s) + ((qm_l (b + a)) * (qm_l 1000000)))) + (((qm_l (1000 - (Pb b))) * (qm_l (1000 - (Pa a)))) * (V s))))]) rfl rfl (qm_x_lload rfl) ?_
      refine qm_G.s1 rfl (qm_x_pushL 1000000 rfl) ?_
      refine qm_G.cs rfl rfl rfl ?_
      refine qm_v_fd ⟨_, rfl, ?_⟩
      exact qm_G.ret rfl rfl (by rw [qm_hd_in (V := V) (x := s) (by omega) (by omega), ← qm_mn_00 (show Pb b = 0 by omega) (show Pa a = 0 by omega)] at k; exact k)
    · refine qm_G.s1 rfl (qm_x_if_le_f ⟨by decide, by decide⟩ (by decide)) ?_
      have ha9 := ha (by omega)
      refine qm_G.s1 rfl (qm_x_lload rfl) ?_
      refine qm_G.s1 rfl (qm_x_pushL 1000 rfl) ?_
      refine qm_G.s1 rfl (qm_x_lload rfl) ?_
      refine qm_G.s1 rfl (qm_x_lsubz) ?_
      refine qm_G.s1 rfl (qm_x_lload rfl) ?_
      refine qm_G.s1 rfl (qm_x_lmul) ?_
      refine qm_G.s1 rfl (qm_x_aload rfl) ?_
      refine qm_G.s1 rfl (qm_x_iload rfl) ?_
      refine qm_G.s1 rfl (qm_x_pushI 1 rfl) ?_
      refine qm_G.s1 rfl (qm_x_isub) ?_
      refine qm_G.s1 rfl (qm_x_iload rfl) ?_
      refine qm_G.s1 rfl (qm_x_pushI 1 rfl) ?_
      refine qm_G.s1 rfl (qm_x_isub) ?_
      refine qm_G.cs rfl rfl rfl ?_
      refine qm_C.go (cd := qm_P24) (lv := [(0, qm_I (qm_i (t - 1))), (1, qm_I (qm_i (s - 1)))]) rfl rfl ?_
      refine qm_G.s1 rfl (qm_x_pushI 17 rfl) ?_
      refine qm_G.s1 rfl (qm_x_iload rfl) ?_
      refine qm_G.s1 rfl (qm_x_imul) ?_
      refine qm_G.s1 rfl (qm_x_pushI 8 rfl) ?_
      refine qm_G.s1 rfl (qm_x_iadd) ?_
      refine qm_G.s1 rfl (qm_x_iload rfl) ?_
      refine qm_G.s1 rfl (qm_x_iadd) ?_
      refine qm_G.ret rfl rfl ⟨_, rfl, ?_⟩
      refine qm_G.s1 rfl (qm_x_lald (a := (V (s - 1))) (qm_arS hS rfl rfl) rfl (by omega) (by omega) (by decide) (hV (s - 1) _ (by omega) (by omega) (by omega))) ?_
      refine qm_G.s1 rfl (qm_x_iload rfl) ?_
      refine qm_G.s1 rfl (qm_x_i2l ⟨by omega, by omega⟩) ?_
      refine qm_G.s1 rfl (qm_x_pushL 1000000 rfl) ?_
      refine qm_G.s1 rfl (qm_x_lmul) ?_
      refine qm_G.s1 rfl (qm_x_ladd) ?_
      refine qm_G.s1 rfl (qm_x_lmul) ?_
      refine qm_G.s1 rfl (qm_x_ladd) ?_
      refine qm_G.s1 rfl (qm_x_lstore (lv' := [(10, qm_L (((((qm_l (Pb b)) * (qm_l (Pa a))) * ((V s) + ((qm_l (b + a)) * (qm_l 1000000)))) + (((qm_l (1000 - (Pb b))) * (qm_l (1000 - (Pa a)))) * (V s))) + (((qm_l (1000 - (Pb b))) * (qm_l (Pa a))) * ((V (s - 1)) + ((qm_l a) * (qm_l 1000000)))))), (1, qm_R (some (0, 66, 0))), (2, qm_I (qm_i s)), (3, qm_I (qm_i t)), (5, qm_I (qm_i a)), (6, qm_L (qm_l (Pb b))), (8, qm_L (qm_l (Pa a)))]) rfl) ?_
      refine qm_G.sp (lv1 := [(10, qm_L (((((qm_l (Pb b)) * (qm_l (Pa a))) * ((V s) + ((qm_l (b + a)) * (qm_l 1000000)))) + (((qm_l (1000 - (Pb b))) * (qm_l (1000 - (Pa a)))) * (V s))) + (((qm_l (1000 - (Pb b))) * (qm_l (Pa a))) * ((V (s - 1)) + ((qm_l a) * (qm_l 1000000))))))]) rfl rfl (qm_x_lload rfl) ?_
      refine qm_G.s1 rfl (qm_x_pushL 1000000 rfl) ?_
      refine qm_G.cs rfl rfl rfl ?_
      refine qm_v_fd ⟨_, rfl, ?_⟩
      exact qm_G.ret rfl rfl (by rw [qm_hd_in (V := V) (x := s) (by omega) (by omega), qm_hd_in (V := V) (x := s - 1) (by omega) (by omega), ← qm_mn_01 (show Pb b = 0 by omega)] at k; exact k)
  · refine qm_G.s1 rfl (qm_x_if_le_f ⟨by decide, by decide⟩ (by decide)) ?_
    have hb9 := hb (by omega)
    refine qm_G.s1 rfl (qm_x_lload rfl) ?_
    refine qm_G.s1 rfl (qm_x_lload rfl) ?_
    refine qm_G.s1 rfl (qm_x_pushL 1000 rfl) ?_
    refine qm_G.s1 rfl (qm_x_lload rfl) ?_
    refine qm_G.s1 rfl (qm_x_lsubz) ?_
    refine qm_G.s1 rfl (qm_x_lmul) ?_
    refine qm_G.s1 rfl (qm_x_aload rfl) ?_
    refine qm_G.s1 rfl (qm_x_iload rfl) ?_
    refine qm_G.s1 rfl (qm_x_pushI 1 rfl) ?_
    refine qm_G.s1 rfl (qm_x_isub) ?_
    refine qm_G.s1 rfl (qm_x_iload rfl) ?_
    refine qm_G.s1 rfl (qm_x_pushI 1 rfl) ?_
    refine qm_G.s1 rfl (qm_x_iadd) ?_
    refine qm_G.cs rfl rfl rfl ?_
    refine qm_C.go (cd := qm_P24) (lv := [(0, qm_I (qm_i (t - 1))), (1, qm_I (qm_i (s + 1)))]) rfl rfl ?_
    refine qm_G.s1 rfl (qm_x_pushI 17 rfl) ?_
    refine qm_G.s1 rfl (qm_x_iload rfl) ?_
    refine qm_G.s1 rfl (qm_x_imul) ?_
    refine qm_G.s1 rfl (qm_x_pushI 8 rfl) ?_
    refine qm_G.s1 rfl (qm_x_iadd) ?_
    refine qm_G.s1 rfl (qm_x_iload rfl) ?_
    refine qm_G.s1 rfl (qm_x_iadd) ?_
    refine qm_G.ret rfl rfl ⟨_, rfl, ?_⟩
    refine qm_G.s1 rfl (qm_x_lald (a := (V (s + 1))) (qm_arS hS rfl rfl) rfl (by omega) (by omega) (by decide) (hV (s + 1) _ (by omega) (by omega) (by omega))) ?_
    refine qm_G.s1 rfl (qm_x_iload rfl) ?_
    refine qm_G.s1 rfl (qm_x_i2l ⟨by omega, by omega⟩) ?_
    refine qm_G.s1 rfl (qm_x_pushL 1000000 rfl) ?_
    refine qm_G.s1 rfl (qm_x_lmul) ?_
    refine qm_G.s1 rfl (qm_x_ladd) ?_
    refine qm_G.s1 rfl (qm_x_lmul) ?_
    refine qm_G.s1 rfl (qm_x_ladd) ?_
    refine qm_G.s1 rfl (qm_x_lstore (lv' := [(10, qm_L (((((qm_l (Pb b)) * (qm_l (Pa a))) * ((V s) + ((qm_l (b + a)) * (qm_l 1000000)))) + (((qm_l (1000 - (Pb b))) * (qm_l (1000 - (Pa a)))) * (V s))) + (((qm_l (Pb b)) * (qm_l (1000 - (Pa a)))) * ((V (s + 1)) + ((qm_l b) * (qm_l 1000000)))))), (8, qm_L (qm_l (Pa a))), (6, qm_L (qm_l (Pb b))), (0, qm_R (some (0, 61, 0))), (1, qm_R (some (0, 66, 0))), (2, qm_I (qm_i s)), (3, qm_I (qm_i t)), (4, qm_I (qm_i b)), (5, qm_I (qm_i a))]) rfl) ?_
    refine qm_G.sp (lv1 := [(1, qm_R (some (0, 66, 0))), (2, qm_I (qm_i s)), (3, qm_I (qm_i t)), (5, qm_I (qm_i a)), (6, qm_L (qm_l (Pb b))), (8, qm_L (qm_l (Pa a))), (10, qm_L (((((qm_l (Pb b)) * (qm_l (Pa a))) * ((V s) + ((qm_l (b + a)) * (qm_l 1000000)))) + (((qm_l (1000 - (Pb b))) * (qm_l (1000 - (Pa a)))) * (V s))) + (((qm_l (Pb b)) * (qm_l (1000 - (Pa a)))) * ((V (s + 1)) + ((qm_l b) * (qm_l 1000000))))))]) rfl rfl (qm_x_lload rfl) ?_
    refine qm_G.s1 rfl (qm_x_pushL 0 rfl) ?_
    refine qm_y_lcmp rfl ⟨by omega, by omega⟩ ⟨by omega, by omega⟩ (fun c5 => absurd c5 (by omega)) (fun c5 => ?_) (fun c5 => ?_)
    · refine qm_G.s1 rfl (qm_x_if_le_t ⟨by decide, by decide⟩ (by decide)) ?_
      refine qm_G.sp (lv1 := [(10, qm_L (((((qm_l (Pb b)) * (qm_l (Pa a))) * ((V s) + ((qm_l (b + a)) * (qm_l 1000000)))) + (((qm_l (1000 - (Pb b))) * (qm_l (1000 - (Pa a)))) * (V s))) + (((qm_l (Pb b)) * (qm_l (1000 - (Pa a)))) * ((V (s + 1)) + ((qm_l b) * (qm_l 1000000))))))]) rfl rfl (qm_x_lload rfl) ?_
      refine qm_G.s1 rfl (qm_x_pushL 1000000 rfl) ?_
      refine qm_G.cs rfl rfl rfl ?_
      refine qm_v_fd ⟨_, rfl, ?_⟩
      exact qm_G.ret rfl rfl (by rw [qm_hd_in (V := V) (x := s) (by omega) (by omega), qm_hd_in (V := V) (x := s + 1) (by omega) (by omega), ← qm_mn_10 (show Pa a = 0 by omega)] at k; exact k)
    · refine qm_G.s1 rfl (qm_x_if_le_f ⟨by decide, by decide⟩ (by decide)) ?_
      have ha9 := ha (by omega)
      refine qm_G.s1 rfl (qm_x_lload rfl) ?_
      refine qm_G.s1 rfl (qm_x_pushL 1000 rfl) ?_
      refine qm_G.s1 rfl (qm_x_lload rfl) ?_
      refine qm_G.s1 rfl (qm_x_lsubz) ?_
      refine qm_G.s1 rfl (qm_x_lload rfl) ?_
      refine qm_G.s1 rfl (qm_x_lmul) ?_
      refine qm_G.s1 rfl (qm_x_aload rfl) ?_
      refine qm_G.s1 rfl (qm_x_iload rfl) ?_
      refine qm_G.s1 rfl (qm_x_pushI 1 rfl) ?_
      refine qm_G.s1 rfl (qm_x_isub) ?_
      refine qm_G.s1 rfl (qm_x_iload rfl) ?_
      refine qm_G.s1 rfl (qm_x_pushI 1 rfl) ?_
      refine qm_G.s1 rfl (qm_x_isub) ?_
      refine qm_G.cs rfl rfl rfl ?_
      refine qm_C.go (cd := qm_P24) (lv := [(0, qm_I (qm_i (t - 1))), (1, qm_I (qm_i (s - 1)))]) rfl rfl ?_
      refine qm_G.s1 rfl (qm_x_pushI 17 rfl) ?_
      refine qm_G.s1 rfl (qm_x_iload rfl) ?_
      refine qm_G.s1 rfl (qm_x_imul) ?_
      refine qm_G.s1 rfl (qm_x_pushI 8 rfl) ?_
      refine qm_G.s1 rfl (qm_x_iadd) ?_
      refine qm_G.s1 rfl (qm_x_iload rfl) ?_
      refine qm_G.s1 rfl (qm_x_iadd) ?_
      refine qm_G.ret rfl rfl ⟨_, rfl, ?_⟩
      refine qm_G.s1 rfl (qm_x_lald (a := (V (s - 1))) (qm_arS hS rfl rfl) rfl (by omega) (by omega) (by decide) (hV (s - 1) _ (by omega) (by omega) (by omega))) ?_
      refine qm_G.s1 rfl (qm_x_iload rfl) ?_
      refine qm_G.s1 rfl (qm_x_i2l ⟨by omega, by omega⟩) ?_
      refine qm_G.s1 rfl (qm_x_pushL 1000000 rfl) ?_
      refine qm_G.s1 rfl (qm_x_lmul) ?_
      refine qm_G.s1 rfl (qm_x_ladd) ?_
      refine qm_G.s1 rfl (qm_x_lmul) ?_
      refine qm_G.s1 rfl (qm_x_ladd) ?_
      refine qm_G.s1 rfl (qm_x_lstore (lv' := [(10, qm_L ((((((qm_l (Pb b)) * (qm_l (Pa a))) * ((V s) + ((qm_l (b + a)) * (qm_l 1000000)))) + (((qm_l (1000 - (Pb b))) * (qm_l (1000 - (Pa a)))) * (V s))) + (((qm_l (Pb b)) * (qm_l (1000 - (Pa a)))) * ((V (s + 1)) + ((qm_l b) * (qm_l 1000000))))) + (((qm_l (1000 - (Pb b))) * (qm_l (Pa a))) * ((V (s - 1)) + ((qm_l a) * (qm_l 1000000)))))), (1, qm_R (some (0, 66, 0))), (2, qm_I (qm_i s)), (3, qm_I (qm_i t)), (5, qm_I (qm_i a)), (6, qm_L (qm_l (Pb b))), (8, qm_L (qm_l (Pa a)))]) rfl) ?_
      refine qm_G.sp (lv1 := [(10, qm_L ((((((qm_l (Pb b)) * (qm_l (Pa a))) * ((V s) + ((qm_l (b + a)) * (qm_l 1000000)))) + (((qm_l (1000 - (Pb b))) * (qm_l (1000 - (Pa a)))) * (V s))) + (((qm_l (Pb b)) * (qm_l (1000 - (Pa a)))) * ((V (s + 1)) + ((qm_l b) * (qm_l 1000000))))) + (((qm_l (1000 - (Pb b))) * (qm_l (Pa a))) * ((V (s - 1)) + ((qm_l a) * (qm_l 1000000))))))]) rfl rfl (qm_x_lload rfl) ?_
      refine qm_G.s1 rfl (qm_x_pushL 1000000 rfl) ?_
      refine qm_G.cs rfl rfl rfl ?_
      refine qm_v_fd ⟨_, rfl, ?_⟩
      exact qm_G.ret rfl rfl (by rw [qm_hd_in (V := V) (x := s) (by omega) (by omega), qm_hd_in (V := V) (x := s + 1) (by omega) (by omega), qm_hd_in (V := V) (x := s - 1) (by omega) (by omega), ← qm_mn_11] at k; exact k)
def qm_Ry (y : Int) (u : Int64) (w : Int) (st : qm_S3) : Prop := (y = 0 ∧ st.1 = qm_l (-9223372036854775808)) ∨ (y = 1 ∧ u = st.1 ∧ w = 10 * st.2.1 + st.2.2)
theorem qm_m_va {S : List qm_Sh} {J K : qm_J} {L : qm_Ct Int64} {D : qm_Ct UInt64} {R : qm_Ct (Option qm_Rf)} {X : Nat × (Nat → Int32)} {Q : Option qm_V → qm_Hp → Prop} {lim fine s t : Int} {Pb Pa : Int → Int} {V : Int → Int64} (hS : qm_Sd S) (hR : qm_Rd R) (hB : qm_Mb J lim fine Pb Pa) (rs : -lim ≤ s ∧ s ≤ lim) (rt : 1 ≤ t ∧ t ≤ 8) (hV : ∀ (z : Int) (i : Nat), i = Int.toNat (17 * (t - 1) + 8 + z) → -lim ≤ z → z ≤ lim → L 64 0 i = V z) {b : Int} (rb : 0 ≤ b ∧ b ≤ 6) (hb6 : s = lim → b = 6) : ∀ (n : Nat) (a y : Int) (u : Int64) (w : Int) (st : qm_S3), a + n = 7 → 0 ≤ a → (s = -lim → 6 ≤ a) → qm_Ry y u w st → (∀ (y' : Int) (u' : Int64) (w' : Int), qm_Ry y' u' w' (qm_inn (fun b a => qm_mn (Pb b) (Pa a) b a (qm_hd V lim s) (qm_hd V lim (s + 1)) (qm_hd V lim (s - 1))) b n a st) → qm_G qm_P qm_P171 219 [(0, qm_R (some (0, 61, 0))), (1, qm_I (qm_i lim)), (2, qm_I (qm_i t)), (3, qm_I (qm_i s)), (4, qm_I (qm_i y')), (5, qm_I (qm_i b))] [] (qm_H S (qm_set J 65 0 (Int.toNat (17 * t + 8 + s)) w') K (qm_set L 64 0 (Int.toNat (17 * t + 8 + s)) u') D R X) Q) → qm_G qm_P qm_P171 133 [(0, qm_R (some (0, 61, 0))), (1, qm_I (qm_i lim)), (2, qm_I (qm_i t)), (3, qm_I (qm_i s)), (4, qm_I (qm_i y)), (5, qm_I (qm_i b)), (6, qm_I (qm_i a))] [] (qm_H S (qm_set J 65 0 (Int.toNat (17 * t + 8 + s)) w) K (qm_set L 64 0 (Int.toNat (17 * t + 8 + s)) u) D R X) Q := by
  have hB2 : ∀ w, qm_Mb (qm_set J 65 0 (Int.toNat (17 * t + 8 + s)) w) lim fine Pb Pa := fun w => hB.fr (fun r q i h => qm_st_ne (by omega))
  obtain ⟨hl, rl, hf, rf, hPb, hPa, rPb, rPa, p6, q6⟩ := hB
  have hV2 : ∀ (u : Int64) (z : Int) (i : Nat), i = Int.toNat (17 * (t - 1) + 8 + z) → -lim ≤ z → z ≤ lim → (qm_set L 64 0 (Int.toNat (17 * t + 8 + s)) u) 64 0 i = V z := fun u z i h1 h2 h3 => by rw [qm_st_ne (by omega)]; exact hV z i h1 h2 h3
  have hb9 : 0 < Pb b → s + 1 ≤ lim := fun h => Decidable.byContradiction (fun hn => by rw [hb6 (by omega), p6] at h; omega)
  intro n
  induction n with
  | zero =>
    intro a y u w st h1 h2 h3 hy k
    refine qm_G.pk (lv1 := [(0, qm_R (some (0, 61, 0))), (1, qm_I (qm_i lim)), (2, qm_I (qm_i t)), (3, qm_I (qm_i s)), (4, qm_I (qm_i y)), (5, qm_I (qm_i b)), (6, qm_I (qm_i a))]) rfl rfl rfl ?_
    refine qm_G.sp (lv1 := [(0, qm_R (some (0, 61, 0))), (1, qm_I (qm_i lim)), (2, qm_I (qm_i t)), (3, qm_I (qm_i s)), (4, qm_I (qm_i y)), (5, qm_I (qm_i b)), (6, qm_I (qm_i a))]) rfl rfl (qm_x_iload rfl) ?_
    refine qm_G.s1 rfl (qm_x_pushI 7 rfl) ?_
    refine qm_G.s1 rfl (qm_x_icmp_ge_t ⟨by omega, by omega⟩ ⟨by decide, by decide⟩ (by omega)) ?_
    refine qm_G.pk (lv1 := [(0, qm_R (some (0, 61, 0))), (1, qm_I (qm_i lim)), (2, qm_I (qm_i t)), (3, qm_I (qm_i s)), (4, qm_I (qm_i y)), (5, qm_I (qm_i b))]) rfl rfl rfl ?_
    exact k y u w hy
  | succ n ih =>
    intro a y u w st h1 h2 h3 hy k
    have h4 : a ≤ 6 := by omega
    have ha6 : s = -lim → a = 6 := fun h => by have := h3 h; omega
    have ha9 : 0 < Pa a → -lim ≤ s - 1 := fun h => Decidable.byContradiction (fun hn => by rw [ha6 (by omega), q6] at h; omega)
    obtain ⟨v, x, z⟩ := st
    rcases hy with ⟨hy, hv⟩ | ⟨hy, hu, hw⟩
    · subst hy
      change v = _ at hv
      refine qm_G.pk (lv1 := [(0, qm_R (some (0, 61, 0))), (1, qm_I (qm_i lim)), (2, qm_I (qm_i t)), (3, qm_I (qm_i s)), (4, qm_I (qm_i 0)), (5, qm_I (qm_i b)), (6, qm_I (qm_i a))]) rfl rfl rfl ?_
      refine qm_G.sp (lv1 := [(0, qm_R (some (0, 61, 0))), (1, qm_I (qm_i lim)), (2, qm_I (qm_i t)), (3, qm_I (qm_i s)), (4, qm_I (qm_i 0)), (5, qm_I (qm_i b)), (6, qm_I (qm_i a))]) rfl rfl (qm_x_iload rfl) ?_
      refine qm_G.s1 rfl (qm_x_pushI 7 rfl) ?_
      refine qm_G.s1 rfl (qm_x_icmp_ge_f ⟨by omega, by omega⟩ ⟨by decide, by decide⟩ (by omega)) ?_
      refine qm_G.s1 rfl (qm_x_aload rfl) ?_
      refine qm_G.s1 rfl (qm_x_aload rfl) ?_
      refine qm_G.s1 rfl (qm_x_getfR (q := (some (0, 64, 0))) (hS 61 rfl) (hR 61 7 64 rfl rfl)) ?_
      refine qm_G.s1 rfl (qm_x_iload rfl) ?_
      refine qm_G.s1 rfl (qm_x_iload rfl) ?_
      refine qm_G.s1 rfl (qm_x_iload rfl) ?_
      refine qm_G.s1 rfl (qm_x_iload rfl) ?_
      refine qm_G.cm rfl rfl (hS 61 rfl) rfl ?_
      refine qm_m_bri hS hR (hB2 _) rs rt (by omega) (by omega) hb9 ha9 (hV2 _) ⟨_, rfl, ?_⟩
      refine qm_G.s1 rfl (qm_x_lstore (lv' := [(7, qm_L (qm_mn (Pb b) (Pa a) b a (qm_hd V lim s) (qm_hd V lim (s + 1)) (qm_hd V lim (s - 1)))), (0, qm_R (some (0, 61, 0))), (1, qm_I (qm_i lim)), (2, qm_I (qm_i t)), (3, qm_I (qm_i s)), (4, qm_I (qm_i 0)), (5, qm_I (qm_i b)), (6, qm_I (qm_i a))]) rfl) ?_
      refine qm_G.s1 rfl (qm_x_iload rfl) ?_
      refine qm_G.s1 rfl (qm_x_if_eq_t ⟨by decide, by decide⟩ (by decide)) ?_
      refine qm_G.sp (lv1 := [(0, qm_R (some (0, 61, 0))), (1, qm_I (qm_i lim)), (2, qm_I (qm_i t)), (3, qm_I (qm_i s)), (5, qm_I (qm_i b)), (6, qm_I (qm_i a)), (7, qm_L (qm_mn (Pb b) (Pa a) b a (qm_hd V lim s) (qm_hd V lim (s + 1)) (qm_hd V lim (s - 1))))]) rfl rfl (qm_x_pushI 1 rfl) ?_
      refine qm_G.s1 rfl (qm_x_istore (lv' := [(4, qm_I (qm_i 1)), (0, qm_R (some (0, 61, 0))), (1, qm_I (qm_i lim)), (2, qm_I (qm_i t)), (3, qm_I (qm_i s)), (5, qm_I (qm_i b)), (6, qm_I (qm_i a)), (7, qm_L (qm_mn (Pb b) (Pa a) b a (qm_hd V lim s) (qm_hd V lim (s + 1)) (qm_hd V lim (s - 1))))]) rfl) ?_
      refine qm_G.s1 rfl (qm_x_aload rfl) ?_
      refine qm_G.s1 rfl (qm_x_getfR (q := (some (0, 64, 0))) (hS 61 rfl) (hR 61 7 64 rfl rfl)) ?_
      refine qm_G.s1 rfl (qm_x_iload rfl) ?_
      refine qm_G.s1 rfl (qm_x_iload rfl) ?_
      refine qm_G.cs rfl rfl rfl ?_
      refine qm_C.go (cd := qm_P24) (lv := [(0, qm_I (qm_i t)), (1, qm_I (qm_i s))]) rfl rfl ?_
      refine qm_G.s1 rfl (qm_x_pushI 17 rfl) ?_
      refine qm_G.s1 rfl (qm_x_iload rfl) ?_
      refine qm_G.s1 rfl (qm_x_imul) ?_
      refine qm_G.s1 rfl (qm_x_pushI 8 rfl) ?_
      refine qm_G.s1 rfl (qm_x_iadd) ?_
      refine qm_G.s1 rfl (qm_x_iload rfl) ?_
      refine qm_G.s1 rfl (qm_x_iadd) ?_
      refine qm_G.ret rfl rfl ⟨_, rfl, ?_⟩
      refine qm_G.s1 rfl (qm_x_lload rfl) ?_
      refine qm_G.s1 rfl (qm_x_last (qm_arS hS rfl rfl) rfl (by omega) (by omega) (by decide)) ?_
      refine qm_G.s1 rfl (qm_x_aload rfl) ?_
      refine qm_G.s1 rfl (qm_x_getfR (q := (some (0, 65, 0))) (hS 61 rfl) (hR 61 8 65 rfl rfl)) ?_
      refine qm_G.s1 rfl (qm_x_iload rfl) ?_
      refine qm_G.s1 rfl (qm_x_iload rfl) ?_
      refine qm_G.cs rfl rfl rfl ?_
      refine qm_C.go (cd := qm_P24) (lv := [(0, qm_I (qm_i t)), (1, qm_I (qm_i s))]) rfl rfl ?_
      refine qm_G.s1 rfl (qm_x_pushI 17 rfl) ?_
      refine qm_G.s1 rfl (qm_x_iload rfl) ?_
      refine qm_G.s1 rfl (qm_x_imul) ?_
      refine qm_G.s1 rfl (qm_x_pushI 8 rfl) ?_
      refine qm_G.s1 rfl (qm_x_iadd) ?_
      refine qm_G.s1 rfl (qm_x_iload rfl) ?_
      refine qm_G.s1 rfl (qm_x_iadd) ?_
      refine qm_G.ret rfl rfl ⟨_, rfl, ?_⟩
      refine qm_G.s1 rfl (qm_x_pushI 10 rfl) ?_
      refine qm_G.s1 rfl (qm_x_iload rfl) ?_
      refine qm_G.s1 rfl (qm_x_imul) ?_
      refine qm_G.s1 rfl (qm_x_iload rfl) ?_
      refine qm_G.s1 rfl (qm_x_iadd) ?_
      refine qm_G.s1 rfl (qm_x_iast (qm_arS hS rfl rfl) rfl (by omega) (by omega) (by decide)) ?_
      refine qm_G.sp (lv1 := [(0, qm_R (some (0, 61, 0))), (1, qm_I (qm_i lim)), (2, qm_I (qm_i t)), (3, qm_I (qm_i s)), (4, qm_I (qm_i 1)), (5, qm_I (qm_i b)), (6, qm_I (qm_i a))]) rfl rfl (qm_x_iinc (lv' := [(6, qm_I (qm_i (a + 1))), (0, qm_R (some (0, 61, 0))), (1, qm_I (qm_i lim)), (2, qm_I (qm_i t)), (3, qm_I (qm_i s)), (4, qm_I (qm_i 1)), (5, qm_I (qm_i b))]) 1 rfl rfl rfl) ?_
      refine qm_G.s1 rfl (qm_x_goto) ?_
      refine qm_G.pk (lv1 := [(0, qm_R (some (0, 61, 0))), (1, qm_I (qm_i lim)), (2, qm_I (qm_i t)), (3, qm_I (qm_i s)), (4, qm_I (qm_i 1)), (5, qm_I (qm_i b)), (6, qm_I (qm_i (a + 1)))]) rfl rfl rfl ?_
      rw [qm_set_set, qm_set_set]
      exact ih (a + 1) 1 _ _ ((fun b a => qm_mn (Pb b) (Pa a) b a (qm_hd V lim s) (qm_hd V lim (s + 1)) (qm_hd V lim (s - 1))) b a, b, a) (by omega) (by omega) (fun h => by have := h3 h; omega) (Or.inr ⟨rfl, rfl, rfl⟩) (fun y' u' w' e => k y' u' w' (by rw [qm_inn_p (f := (fun b a => qm_mn (Pb b) (Pa a) b a (qm_hd V lim s) (qm_hd V lim (s + 1)) (qm_hd V lim (s - 1)))) (hv ▸ qm_mn_gt)]; exact e))
    · subst hy
      change u = v at hu
      change w = 10 * x + z at hw
      subst hu hw
      refine qm_G.pk (lv1 := [(0, qm_R (some (0, 61, 0))), (1, qm_I (qm_i lim)), (2, qm_I (qm_i t)), (3, qm_I (qm_i s)), (4, qm_I (qm_i 1)), (5, qm_I (qm_i b)), (6, qm_I (qm_i a))]) rfl rfl rfl ?_
      refine qm_G.sp (lv1 := [(0, qm_R (some (0, 61, 0))), (1, qm_I (qm_i lim)), (2, qm_I (qm_i t)), (3, qm_I (qm_i s)), (4, qm_I (qm_i 1)), (5, qm_I (qm_i b)), (6, qm_I (qm_i a))]) rfl rfl (qm_x_iload rfl) ?_
      refine qm_G.s1 rfl (qm_x_pushI 7 rfl) ?_
      refine qm_G.s1 rfl (qm_x_icmp_ge_f ⟨by omega, by omega⟩ ⟨by decide, by decide⟩ (by omega)) ?_
      refine qm_G.s1 rfl (qm_x_aload rfl) ?_
      refine qm_G.s1 rfl (qm_x_aload rfl) ?_
      refine qm_G.s1 rfl (qm_x_getfR (q := (some (0, 64, 0))) (hS 61 rfl) (hR 61 7 64 rfl rfl)) ?_
      refine qm_G.s1 rfl (qm_x_iload rfl) ?_
      refine qm_G.s1 rfl (qm_x_iload rfl) ?_
      refine qm_G.s1 rfl (qm_x_iload rfl) ?_
      refine qm_G.s1 rfl (qm_x_iload rfl) ?_
      refine qm_G.cm rfl rfl (hS 61 rfl) rfl ?_
      refine qm_m_bri hS hR (hB2 _) rs rt (by omega) (by omega) hb9 ha9 (hV2 _) ⟨_, rfl, ?_⟩
      refine qm_G.s1 rfl (qm_x_lstore (lv' := [(7, qm_L (qm_mn (Pb b) (Pa a) b a (qm_hd V lim s) (qm_hd V lim (s + 1)) (qm_hd V lim (s - 1)))), (0, qm_R (some (0, 61, 0))), (1, qm_I (qm_i lim)), (2, qm_I (qm_i t)), (3, qm_I (qm_i s)), (4, qm_I (qm_i 1)), (5, qm_I (qm_i b)), (6, qm_I (qm_i a))]) rfl) ?_
      refine qm_G.s1 rfl (qm_x_iload rfl) ?_
      refine qm_G.s1 rfl (qm_x_if_eq_f ⟨by decide, by decide⟩ (by decide)) ?_
      refine qm_G.s1 rfl (qm_x_lload rfl) ?_
      refine qm_G.s1 rfl (qm_x_aload rfl) ?_
      refine qm_G.s1 rfl (qm_x_getfR (q := (some (0, 64, 0))) (hS 61 rfl) (hR 61 7 64 rfl rfl)) ?_
      refine qm_G.s1 rfl (qm_x_iload rfl) ?_
      refine qm_G.s1 rfl (qm_x_iload rfl) ?_
      refine qm_G.cs rfl rfl rfl ?_
      refine qm_C.go (cd := qm_P24) (lv := [(0, qm_I (qm_i t)), (1, qm_I (qm_i s))]) rfl rfl ?_
      refine qm_G.s1 rfl (qm_x_pushI 17 rfl) ?_
      refine qm_G.s1 rfl (qm_x_iload rfl) ?_
      refine qm_G.s1 rfl (qm_x_imul) ?_
      refine qm_G.s1 rfl (qm_x_pushI 8 rfl) ?_
      refine qm_G.s1 rfl (qm_x_iadd) ?_
      refine qm_G.s1 rfl (qm_x_iload rfl) ?_
      refine qm_G.s1 rfl (qm_x_iadd) ?_
      refine qm_G.ret rfl rfl ⟨_, rfl, ?_⟩
      refine qm_G.s1 rfl (qm_x_lald (a := u) (qm_arS hS rfl rfl) rfl (by omega) (by omega) (by decide) (by unfold qm_set; rw [if_pos ⟨rfl, rfl, by omega⟩] <;> rfl)) ?_
      refine qm_y_lcmpr rfl (fun c1 => ?_) (fun c1 => ?_) (fun c1 => ?_)
      · refine qm_G.s1 rfl (qm_x_if_gt_f ⟨by decide, by decide⟩ (by decide)) ?_
        refine qm_G.s1 rfl (qm_x_goto) ?_
        refine qm_G.sp (lv1 := [(0, qm_R (some (0, 61, 0))), (1, qm_I (qm_i lim)), (2, qm_I (qm_i t)), (3, qm_I (qm_i s)), (4, qm_I (qm_i 1)), (5, qm_I (qm_i b)), (6, qm_I (qm_i a))]) rfl rfl (qm_x_iinc (lv' := [(6, qm_I (qm_i (a + 1))), (0, qm_R (some (0, 61, 0))), (1, qm_I (qm_i lim)), (2, qm_I (qm_i t)), (3, qm_I (qm_i s)), (4, qm_I (qm_i 1)), (5, qm_I (qm_i b))]) 1 rfl rfl rfl) ?_
        refine qm_G.s1 rfl (qm_x_goto) ?_
        refine qm_G.pk (lv1 := [(0, qm_R (some (0, 61, 0))), (1, qm_I (qm_i lim)), (2, qm_I (qm_i t)), (3, qm_I (qm_i s)), (4, qm_I (qm_i 1)), (5, qm_I (qm_i b)), (6, qm_I (qm_i (a + 1)))]) rfl rfl rfl ?_
        exact ih (a + 1) 1 _ _ (u, x, z) (by omega) (by omega) (fun h => by have := h3 h; omega) (Or.inr ⟨rfl, rfl, rfl⟩) (fun y' u' w' e => k y' u' w' (by rw [qm_inn_n (f := (fun b a => qm_mn (Pb b) (Pa a) b a (qm_hd V lim s) (qm_hd V lim (s + 1)) (qm_hd V lim (s - 1)))) (qm_lt_asym c1)]; exact e))
      · refine qm_G.s1 rfl (qm_x_if_gt_f ⟨by decide, by decide⟩ (by decide)) ?_
        refine qm_G.s1 rfl (qm_x_goto) ?_
        refine qm_G.sp (lv1 := [(0, qm_R (some (0, 61, 0))), (1, qm_I (qm_i lim)), (2, qm_I (qm_i t)), (3, qm_I (qm_i s)), (4, qm_I (qm_i 1)), (5, qm_I (qm_i b)), (6, qm_I (qm_i a))]) rfl rfl (qm_x_iinc (lv' := [(6, qm_I (qm_i (a + 1))), (0, qm_R (some (0, 61, 0))), (1, qm_I (qm_i lim)), (2, qm_I (qm_i t)), (3, qm_I (qm_i s)), (4, qm_I (qm_i 1)), (5, qm_I (qm_i b))]) 1 rfl rfl rfl) ?_
        refine qm_G.s1 rfl (qm_x_goto) ?_
        refine qm_G.pk (lv1 := [(0, qm_R (some (0, 61, 0))), (1, qm_I (qm_i lim)), (2, qm_I (qm_i t)), (3, qm_I (qm_i s)), (4, qm_I (qm_i 1)), (5, qm_I (qm_i b)), (6, qm_I (qm_i (a + 1)))]) rfl rfl rfl ?_
        exact ih (a + 1) 1 _ _ (u, x, z) (by omega) (by omega) (fun h => by have := h3 h; omega) (Or.inr ⟨rfl, rfl, rfl⟩) (fun y' u' w' e => k y' u' w' (by rw [qm_inn_n (f := (fun b a => qm_mn (Pb b) (Pa a) b a (qm_hd V lim s) (qm_hd V lim (s + 1)) (qm_hd V lim (s - 1)))) (qm_lt_irr c1)]; exact e))
      · refine qm_G.s1 rfl (qm_x_if_gt_t ⟨by decide, by decide⟩ (by decide)) ?_
        refine qm_G.sp (lv1 := [(0, qm_R (some (0, 61, 0))), (1, qm_I (qm_i lim)), (2, qm_I (qm_i t)), (3, qm_I (qm_i s)), (5, qm_I (qm_i b)), (6, qm_I (qm_i a)), (7, qm_L (qm_mn (Pb b) (Pa a) b a (qm_hd V lim s) (qm_hd V lim (s + 1)) (qm_hd V lim (s - 1))))]) rfl rfl (qm_x_pushI 1 rfl) ?_
        refine qm_G.s1 rfl (qm_x_istore (lv' := [(4, qm_I (qm_i 1)), (0, qm_R (some (0, 61, 0))), (1, qm_I (qm_i lim)), (2, qm_I (qm_i t)), (3, qm_I (qm_i s)), (5, qm_I (qm_i b)), (6, qm_I (qm_i a)), (7, qm_L (qm_mn (Pb b) (Pa a) b a (qm_hd V lim s) (qm_hd V lim (s + 1)) (qm_hd V lim (s - 1))))]) rfl) ?_
        refine qm_G.s1 rfl (qm_x_aload rfl) ?_
        refine qm_G.s1 rfl (qm_x_getfR (q := (some (0, 64, 0))) (hS 61 rfl) (hR 61 7 64 rfl rfl)) ?_
        refine qm_G.s1 rfl (qm_x_iload rfl) ?_
        refine qm_G.s1 rfl (qm_x_iload rfl) ?_
        refine qm_G.cs rfl rfl rfl ?_
        refine qm_C.go (cd := qm_P24) (lv := [(0, qm_I (qm_i t)), (1, qm_I (qm_i s))]) rfl rfl ?_
        refine qm_G.s1 rfl (qm_x_pushI 17 rfl) ?_
        refine qm_G.s1 rfl (qm_x_iload rfl) ?_
        refine qm_G.s1 rfl (qm_x_imul) ?_
        refine qm_G.s1 rfl (qm_x_pushI 8 rfl) ?_
        refine qm_G.s1 rfl (qm_x_iadd) ?_
        refine qm_G.s1 rfl (qm_x_iload rfl) ?_
        refine qm_G.s1 rfl (qm_x_iadd) ?_
        refine qm_G.ret rfl rfl ⟨_, rfl, ?_⟩
        refine qm_G.s1 rfl (qm_x_lload rfl) ?_
        refine qm_G.s1 rfl (qm_x_last (qm_arS hS rfl rfl) rfl (by omega) (by omega) (by decide)) ?_
        refine qm_G.s1 rfl (qm_x_aload rfl) ?_
        refine qm_G.s1 rfl (qm_x_getfR (q := (some (0, 65, 0))) (hS 61 rfl) (hR 61 8 65 rfl rfl)) ?_
        refine qm_G.s1 rfl (qm_x_iload rfl) ?_
        refine qm_G.s1 rfl (qm_x_iload rfl) ?_
        refine qm_G.cs rfl rfl rfl ?_
        refine qm_C.go (cd := qm_P24) (lv := [(0, qm_I (qm_i t)), (1, qm_I (qm_i s))]) rfl rfl ?_
        refine qm_G.s1 rfl (qm_x_pushI 17 rfl) ?_
        refine qm_G.s1 rfl (qm_x_iload rfl) ?_
        refine qm_G.s1 rfl (qm_x_imul) ?_
        refine qm_G.s1 rfl (qm_x_pushI 8 rfl) ?_
        refine qm_G.s1 rfl (qm_x_iadd) ?_
        refine qm_G.s1 rfl (qm_x_iload rfl) ?_
        refine qm_G.s1 rfl (qm_x_iadd) ?_
        refine qm_G.ret rfl rfl ⟨_, rfl, ?_⟩
        refine qm_G.s1 rfl (qm_x_pushI 10 rfl) ?_
        refine qm_G.s1 rfl (qm_x_iload rfl) ?_
        refine qm_G.s1 rfl (qm_x_imul) ?_
        refine qm_G.s1 rfl (qm_x_iload rfl) ?_
        refine qm_G.s1 rfl (qm_x_iadd) ?_
        refine qm_G.s1 rfl (qm_x_iast (qm_arS hS rfl rfl) rfl (by omega) (by omega) (by decide)) ?_
        refine qm_G.sp (lv1 := [(0, qm_R (some (0, 61, 0))), (1, qm_I (qm_i lim)), (2, qm_I (qm_i t)), (3, qm_I (qm_i s)), (4, qm_I (qm_i 1)), (5, qm_I (qm_i b)), (6, qm_I (qm_i a))]) rfl rfl (qm_x_iinc (lv' := [(6, qm_I (qm_i (a + 1))), (0, qm_R (some (0, 61, 0))), (1, qm_I (qm_i lim)), (2, qm_I (qm_i t)), (3, qm_I (qm_i s)), (4, qm_I (qm_i 1)), (5, qm_I (qm_i b))]) 1 rfl rfl rfl) ?_
        refine qm_G.s1 rfl (qm_x_goto) ?_
        refine qm_G.pk (lv1 := [(0, qm_R (some (0, 61, 0))), (1, qm_I (qm_i lim)), (2, qm_I (qm_i t)), (3, qm_I (qm_i s)), (4, qm_I (qm_i 1)), (5, qm_I (qm_i b)), (6, qm_I (qm_i (a + 1)))]) rfl rfl rfl ?_
        rw [qm_set_set, qm_set_set]
        exact ih (a + 1) 1 _ _ ((fun b a => qm_mn (Pb b) (Pa a) b a (qm_hd V lim s) (qm_hd V lim (s + 1)) (qm_hd V lim (s - 1))) b a, b, a) (by omega) (by omega) (fun h => by have := h3 h; omega) (Or.inr ⟨rfl, rfl, rfl⟩) (fun y' u' w' e => k y' u' w' (by rw [qm_inn_p (f := (fun b a => qm_mn (Pb b) (Pa a) b a (qm_hd V lim s) (qm_hd V lim (s + 1)) (qm_hd V lim (s - 1)))) c1]; exact e))
theorem qm_m_vb {S : List qm_Sh} {J K : qm_J} {L : qm_Ct Int64} {D : qm_Ct UInt64} {R : qm_Ct (Option qm_Rf)} {X : Nat × (Nat → Int32)} {Q : Option qm_V → qm_Hp → Prop} {lim fine s t : Int} {Pb Pa : Int → Int} {V : Int → Int64} (hS : qm_Sd S) (hR : qm_Rd R) (hB : qm_Mb J lim fine Pb Pa) (rs : -lim ≤ s ∧ s ≤ lim) (rt : 1 ≤ t ∧ t ≤ 8) (hV : ∀ (z : Int) (i : Nat), i = Int.toNat (17 * (t - 1) + 8 + z) → -lim ≤ z → z ≤ lim → L 64 0 i = V z) : ∀ (n : Nat) (b y : Int) (u : Int64) (w : Int) (st : qm_S3), b + n = 7 → 0 ≤ b → (s = lim → 6 ≤ b) → qm_Ry y u w st → (∀ (y' : Int) (u' : Int64) (w' : Int), qm_Ry y' u' w' (qm_out (fun b a => qm_mn (Pb b) (Pa a) b a (qm_hd V lim s) (qm_hd V lim (s + 1)) (qm_hd V lim (s - 1))) (if s = -lim then 6 else 0) (if s = -lim then 1 else 7) n b st) → qm_G qm_P qm_P171 225 [(0, qm_R (some (0, 61, 0))), (1, qm_I (qm_i lim)), (2, qm_I (qm_i t)), (3, qm_I (qm_i s))] [] (qm_H S (qm_set J 65 0 (Int.toNat (17 * t + 8 + s)) w') K (qm_set L 64 0 (Int.toNat (17 * t + 8 + s)) u') D R X) Q) → qm_G qm_P qm_P171 112 [(0, qm_R (some (0, 61, 0))), (1, qm_I (qm_i lim)), (2, qm_I (qm_i t)), (3, qm_I (qm_i s)), (4, qm_I (qm_i y)), (5, qm_I (qm_i b))] [] (qm_H S (qm_set J 65 0 (Int.toNat (17 * t + 8 + s)) w) K (qm_set L 64 0 (Int.toNat (17 * t + 8 + s)) u) D R X) Q := by
  have rl := hB.2.1
  intro n
  induction n with
  | zero =>
    intro b y u w st h1 h2 h3 hy k
    refine qm_G.pk (lv1 := [(0, qm_R (some (0, 61, 0))), (1, qm_I (qm_i lim)), (2, qm_I (qm_i t)), (3, qm_I (qm_i s)), (4, qm_I (qm_i y)), (5, qm_I (qm_i b))]) rfl rfl rfl ?_
    refine qm_G.sp (lv1 := [(0, qm_R (some (0, 61, 0))), (1, qm_I (qm_i lim)), (2, qm_I (qm_i t)), (3, qm_I (qm_i s)), (4, qm_I (qm_i y)), (5, qm_I (qm_i b))]) rfl rfl (qm_x_iload rfl) ?_
    refine qm_G.s1 rfl (qm_x_pushI 7 rfl) ?_
    refine qm_G.s1 rfl (qm_x_icmp_ge_t ⟨by omega, by omega⟩ ⟨by decide, by decide⟩ (by omega)) ?_
    refine qm_G.pk (lv1 := [(0, qm_R (some (0, 61, 0))), (1, qm_I (qm_i lim)), (2, qm_I (qm_i t)), (3, qm_I (qm_i s))]) rfl rfl rfl ?_
    exact k y u w hy
  | succ n ih =>
    intro b y u w st h1 h2 h3 hy k
    have h4 : b ≤ 6 := by omega
    refine qm_G.pk (lv1 := [(0, qm_R (some (0, 61, 0))), (1, qm_I (qm_i lim)), (2, qm_I (qm_i t)), (3, qm_I (qm_i s)), (4, qm_I (qm_i y)), (5, qm_I (qm_i b))]) rfl rfl rfl ?_
    refine qm_G.sp (lv1 := [(0, qm_R (some (0, 61, 0))), (1, qm_I (qm_i lim)), (2, qm_I (qm_i t)), (3, qm_I (qm_i s)), (4, qm_I (qm_i y)), (5, qm_I (qm_i b))]) rfl rfl (qm_x_iload rfl) ?_
    refine qm_G.s1 rfl (qm_x_pushI 7 rfl) ?_
    refine qm_G.s1 rfl (qm_x_icmp_ge_f ⟨by omega, by omega⟩ ⟨by decide, by decide⟩ (by omega)) ?_
    refine qm_G.s1 rfl (qm_x_iload rfl) ?_
    refine qm_G.s1 rfl (qm_x_iload rfl) ?_
    refine qm_G.s1 rfl (qm_x_ineg) ?_
    refine qm_y_icmp_ne rfl ⟨by omega, by omega⟩ ⟨by omega, by omega⟩ (fun c1 => ?_) (fun c1 => ?_)
    · refine qm_G.sp (lv1 := [(0, qm_R (some (0, 61, 0))), (1, qm_I (qm_i lim)), (2, qm_I (qm_i t)), (3, qm_I (qm_i s)), (4, qm_I (qm_i y)), (5, qm_I (qm_i b))]) rfl rfl (qm_x_pushI 0 rfl) ?_
      refine qm_G.sp (lv1 := [(0, qm_R (some (0, 61, 0))), (1, qm_I (qm_i lim)), (2, qm_I (qm_i t)), (3, qm_I (qm_i s)), (4, qm_I (qm_i y)), (5, qm_I (qm_i b))]) rfl rfl (qm_x_istore (lv' := [(6, qm_I (qm_i 0)), (0, qm_R (some (0, 61, 0))), (1, qm_I (qm_i lim)), (2, qm_I (qm_i t)), (3, qm_I (qm_i s)), (4, qm_I (qm_i y)), (5, qm_I (qm_i b))]) rfl) ?_
      refine qm_G.pk (lv1 := [(0, qm_R (some (0, 61, 0))), (1, qm_I (qm_i lim)), (2, qm_I (qm_i t)), (3, qm_I (qm_i s)), (4, qm_I (qm_i y)), (5, qm_I (qm_i b)), (6, qm_I (qm_i 0))]) rfl rfl rfl ?_
      refine qm_m_va hS hR hB rs rt hV (by omega) (fun h => by have := h3 h; omega) 7 0 y u w st (by decide) (by decide) (fun h => by omega) hy (fun y1 u1 w1 hy1 => ?_)
      refine qm_G.sp (lv1 := [(0, qm_R (some (0, 61, 0))), (1, qm_I (qm_i lim)), (2, qm_I (qm_i t)), (3, qm_I (qm_i s)), (4, qm_I (qm_i y1)), (5, qm_I (qm_i b))]) rfl rfl (qm_x_iinc (lv' := [(5, qm_I (qm_i (b + 1))), (0, qm_R (some (0, 61, 0))), (1, qm_I (qm_i lim)), (2, qm_I (qm_i t)), (3, qm_I (qm_i s)), (4, qm_I (qm_i y1))]) 1 rfl rfl rfl) ?_
      refine qm_G.s1 rfl (qm_x_goto) ?_
      refine qm_G.pk (lv1 := [(0, qm_R (some (0, 61, 0))), (1, qm_I (qm_i lim)), (2, qm_I (qm_i t)), (3, qm_I (qm_i s)), (4, qm_I (qm_i y1)), (5, qm_I (qm_i (b + 1)))]) rfl rfl rfl ?_
      exact ih (b + 1) y1 u1 w1 _ (by omega) (by omega) (fun h => by have := h3 h; omega) hy1 (fun y' u' w' e => k y' u' w' (by rw [qm_out_s (st' := qm_inn (fun b a => qm_mn (Pb b) (Pa a) b a (qm_hd V lim s) (qm_hd V lim (s + 1)) (qm_hd V lim (s - 1))) b 7 0 st) (by simp only [if_neg (show ¬ s = -lim by omega)])]; exact e))
    · refine qm_G.s1 rfl (qm_x_pushI 6 rfl) ?_
      refine qm_G.s1 rfl (qm_x_goto) ?_
      refine qm_G.sp (lv1 := [(0, qm_R (some (0, 61, 0))), (1, qm_I (qm_i lim)), (2, qm_I (qm_i t)), (3, qm_I (qm_i s)), (4, qm_I (qm_i y)), (5, qm_I (qm_i b))]) rfl rfl (qm_x_istore (lv' := [(6, qm_I (qm_i 6)), (0, qm_R (some (0, 61, 0))), (1, qm_I (qm_i lim)), (2, qm_I (qm_i t)), (3, qm_I (qm_i s)), (4, qm_I (qm_i y)), (5, qm_I (qm_i b))]) rfl) ?_
      refine qm_G.pk (lv1 := [(0, qm_R (some (0, 61, 0))), (1, qm_I (qm_i lim)), (2, qm_I (qm_i t)), (3, qm_I (qm_i s)), (4, qm_I (qm_i y)), (5, qm_I (qm_i b)), (6, qm_I (qm_i 6))]) rfl rfl rfl ?_
      refine qm_m_va hS hR hB rs rt hV (by omega) (fun h => by have := h3 h; omega) 1 6 y u w st (by decide) (by decide) (fun h => by omega) hy (fun y1 u1 w1 hy1 => ?_)
      refine qm_G.sp (lv1 := [(0, qm_R (some (0, 61, 0))), (1, qm_I (qm_i lim)), (2, qm_I (qm_i t)), (3, qm_I (qm_i s)), (4, qm_I (qm_i y1)), (5, qm_I (qm_i b))]) rfl rfl (qm_x_iinc (lv' := [(5, qm_I (qm_i (b + 1))), (0, qm_R (some (0, 61, 0))), (1, qm_I (qm_i lim)), (2, qm_I (qm_i t)), (3, qm_I (qm_i s)), (4, qm_I (qm_i y1))]) 1 rfl rfl rfl) ?_
      refine qm_G.s1 rfl (qm_x_goto) ?_
      refine qm_G.pk (lv1 := [(0, qm_R (some (0, 61, 0))), (1, qm_I (qm_i lim)), (2, qm_I (qm_i t)), (3, qm_I (qm_i s)), (4, qm_I (qm_i y1)), (5, qm_I (qm_i (b + 1)))]) rfl rfl rfl ?_
      exact ih (b + 1) y1 u1 w1 _ (by omega) (by omega) (fun h => by have := h3 h; omega) hy1 (fun y' u' w' e => k y' u' w' (by rw [qm_out_s (st' := qm_inn (fun b a => qm_mn (Pb b) (Pa a) b a (qm_hd V lim s) (qm_hd V lim (s + 1)) (qm_hd V lim (s - 1))) b 1 6 st) (by simp only [if_pos (show s = -lim by omega)])]; exact e))
