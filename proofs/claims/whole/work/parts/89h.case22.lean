/-! READING: case 22 -/
theorem qm_oF_rng {T : Nat → Int} {ln F : Int} {n : Nat} (rl : 0 ≤ ln ∧ ln ≤ 100) (h : qm_oF T ln n F) : -1 ≤ F ∧ F ≤ 100 := by
  have h1 := (qm_oa_ln rl.1 n h.1).1
  have h2 := qm_o_rng (T := T) h1
  rcases h.2.2 with c | c | c | c | c
  · have := c.2; omega
  · have := c.2.2; omega
  · have := c.2.2.2; omega
  · have := c.2.2; omega
  · have := c.2.2; omega
theorem qm_oF_ok {T : Nat → Int} {ln F : Int} {n : Nat} (rl : 0 ≤ ln ∧ ln ≤ 100) (h : qm_oF T ln n F) (hF : F = -1) : (∀ i, i < n + 1 → qm_ow T ln (qm_oa T ln i) ∧ (qm_oa T ln i : Int) ≤ ln) ∧ ((n + 1 : Nat) : Int) ≤ ln := by
  have h1 := qm_oa_ln rl.1 n h.1
  have h2 := qm_o_rng (T := T) h1.1
  have hw : qm_ow T ln (qm_oa T ln n) := by
    rcases h.2.2 with c | c | c | c | c
    · have := c.2; omega
    · have := c.2.2; omega
    · exact c.1
    · exact c.1.1
    · exact c.1
  have h3 := qm_ow_len hw
  refine ⟨fun i hi => ?_, by omega⟩
  by_cases c : i = n
  · rw [c]; exact ⟨hw, h1.1⟩
  · exact ⟨(h.1 i (by omega)).1, (qm_oa_ln rl.1 i (fun j hj => h.1 j (by omega))).1⟩
theorem qm_oF_hv {T : Nat → Int} {ln F : Int} {n : Nat} (rl : 0 ≤ ln ∧ ln ≤ 100) (h : qm_oF T ln n F) (hF : F = -1) : ∀ i, i < n + 1 → 0 ≤ qm_ov T ln (qm_oa T ln i) ∧ qm_ov T ln (qm_oa T ln i) ≤ 9999 ∧ qm_ok T ln (qm_oa T ln i) ≤ 6 := fun i hi => by
  have h1 := (qm_oF_ok rl h hF).1 i hi
  have h2 := qm_ov_rng (T := T) h1.2
  have h3 : qm_ok T ln (qm_oa T ln i) ≤ 7 := qm_wk_le.1
  have h4 := h1.1.1
  exact ⟨h2.1, h2.2.1, by omega⟩
theorem qm_case22 {S : List qm_Sh} {J K : qm_J} {L : qm_Ct Int64} {D : qm_Ct UInt64} {R : qm_Ct (Option qm_Rf)} {X : Nat × (Nat → Int32)} {k : Nat} {z : Int} {Q : Option qm_V → qm_Hp → Prop} (hI : qm_Inv S J K L D R k) (hX : X.1 ≤ 3072) (h0 : 0 ≤ z) (h6 : z + 6 ≤ X.1) (hk : k ≤ 512) (ih : ∀ (S : List qm_Sh) (J K : qm_J) (L : qm_Ct Int64) (D : qm_Ct UInt64) (R : qm_Ct (Option qm_Rf)), qm_Inv S J K L D R (k + 1) → qm_G qm_P qm_P222 1445 [(0, qm_R (some (2, 0, 0))), (1, qm_R (some (0, 0, 0))), (2, qm_R (some (0, 61, 0))), (3, qm_I (qm_i z))] [] (qm_H S J K L D R X) Q) : qm_G qm_P qm_P222 947 [(0, qm_R (some (2, 0, 0))), (1, qm_R (some (0, 0, 0))), (2, qm_R (some (0, 61, 0))), (3, qm_I (qm_i z))] [] (qm_H S J K L D R X) Q := by
  have hS := hI.sd
  have hR := hI.rd
  obtain ⟨c9, hc9, hc8, hG9⟩ := hI.rg
  have hC9 := hI.cl
  have hK9 : ∀ i, i < 100 → K 43 0 i = J 69 0 i ∧ 0 ≤ J 69 0 i ∧ J 69 0 i ≤ 127 := hI.sgn
  have rl9 := hI.rtx
  refine qm_G.sp (lv1 := [(0, qm_R (some (2, 0, 0))), (1, qm_R (some (0, 0, 0))), (2, qm_R (some (0, 61, 0))), (3, qm_I (qm_i z))]) rfl rfl (qm_x_aload rfl) ?_
  refine qm_G.cm rfl rfl (hS 0 rfl) rfl ?_
  refine qm_C.go (cd := qm_P221) (lv := [(0, qm_R (some (0, 0, 0)))]) rfl rfl ?_
  refine qm_G.s1 rfl (qm_x_aload rfl) ?_
  refine qm_G.s1 rfl (qm_x_getfR (q := (some (0, 42, 0))) (hS 0 rfl) (hR 0 4 42 rfl rfl)) ?_
  refine qm_G.cm rfl rfl (hS 42 rfl) rfl ?_
  refine qm_d_foa (T := (J 69 0)) (ln := (J 61 0 12)) hS hR hK9 rl9 hI.tx (fun N F J1 R1 hO hFr hR1 hFa => ⟨_, rfl, ?_⟩)
  have rF := qm_oF_rng rl9 hO
  refine qm_G.s1 rfl (qm_x_istore (lv' := [(1, qm_I (qm_i F)), (0, qm_R (some (0, 0, 0)))]) rfl) ?_
  refine qm_G.s1 rfl (qm_x_aload rfl) ?_
  refine qm_G.s1 rfl (qm_x_getfR (q := (some (0, 42, 0))) (hS 0 rfl) (hR1 0 4 42 rfl rfl)) ?_
  refine qm_G.cmv rfl rfl (hS 42 rfl) rfl ?_
  refine qm_C.go (cd := qm_P43) (lv := [(0, qm_R (some (0, 42, 0)))]) rfl rfl ?_
  refine qm_G.s1 rfl (qm_x_aload rfl) ?_
  refine qm_G.s1 rfl (qm_x_pushI 0 rfl) ?_
  refine qm_G.s1 rfl (qm_x_putfI (hS 42 rfl)) ?_
  refine qm_G.retv rfl ⟨rfl, ?_⟩
  refine qm_G.s1 rfl (qm_x_iload rfl) ?_
  refine qm_G.s1 rfl (qm_x_pushI (-1) rfl) ?_
  refine qm_y_icmp_eq rfl ⟨by omega, by omega⟩ ⟨by decide, by decide⟩ (fun c1 => ?_) (fun c1 => ?_)
  · refine qm_G.sp (lv1 := [(0, qm_R (some (0, 0, 0)))]) rfl rfl (qm_x_pushI 0 rfl) ?_
    refine qm_G.s1 rfl (qm_x_istore (lv' := [(2, qm_I (qm_i 0)), (0, qm_R (some (0, 0, 0)))]) rfl) ?_
    refine qm_G.s1 rfl (qm_x_pushI 0 rfl) ?_
    refine qm_G.s1 rfl (qm_x_istore (lv' := [(3, qm_I (qm_i 0)), (2, qm_I (qm_i 0)), (0, qm_R (some (0, 0, 0)))]) rfl) ?_
    have eF : F = -1 := by omega
    have hFa1 := hFa eF
    generalize hJ2 : (qm_set J1 42 0 1 0) = J2
    have f2 : ∀ r s i, r ≠ 42 → r ≠ 45 → J2 r s i = J r s i := fun r s i a b => by rw [← hJ2, qm_st_ne (by omega)]; exact hFr.1 r s i (by omega) b
    have C2 : qm_Cl J2 D (J 62 0, D 61 0 2, D 61 0 3) := ⟨(f2 3 0 0 (by decide) (by decide)).trans hC9.1, (f2 3 0 1 (by decide) (by decide)).trans hC9.2.1, (f2 3 0 5 (by decide) (by decide)).trans hC9.2.2.1, (f2 2 0 5 (by decide) (by decide)).trans hC9.2.2.2.1, (f2 10 0 0 (by decide) (by decide)).trans hC9.2.2.2.2.1, (f2 10 0 1 (by decide) (by decide)).trans hC9.2.2.2.2.2.1, (f2 9 0 1 (by decide) (by decide)).trans hC9.2.2.2.2.2.2.1, (f2 9 0 2 (by decide) (by decide)).trans hC9.2.2.2.2.2.2.2.1, hC9.2.2.2.2.2.2.2.2.1, hC9.2.2.2.2.2.2.2.2.2⟩
    have N12 : N + 1 ≤ 12 := by have := hO.2.1; omega
    have ct2 : J2 42 0 5 = ((N + 1 : Nat) : Int) := by rw [← hJ2, qm_st_ne (by omega)]; exact hFa1.2.1
    have hv9 := qm_oF_hv rl9 hO eF
    have ln9 := (qm_oF_ok rl9 hO eF).2
    have z42 : J2 42 0 1 = 0 := by rw [← hJ2]; exact qm_st_eq
    refine qm_G.pk (lv1 := [(0, qm_R (some (0, 0, 0))), (2, qm_I (qm_i 0)), (3, qm_I (qm_i 0))]) rfl rfl rfl ?_
    refine qm_d_exl (J := J2) (D := D) (kd := (fun i => qm_ok (J 69 0) (J 61 0 12) (qm_oa (J 69 0) (J 61 0 12) i))) (nv := (fun i => qm_ov (J 69 0) (J 61 0 12) (qm_oa (J 69 0) (J 61 0 12) i))) (s0 := (J 62 0, D 61 0 2, D 61 0 3)) (N := N + 1) (c := c9) hS hR1 hG9 (by omega) N12 hv9 (fun i h => (hFa1.2.2 i h).1) (fun i h => by rw [← hJ2, qm_st_ne (by omega)]; exact (hFa1.2.2 i h).2) ct2 (fun J3 D3 f3 d3 C3 => ?_) (N + 1) 0 _ _ J2 D (by omega) rfl rfl (fun _ _ _ _ _ _ _ => rfl) (fun _ _ _ _ => rfl) C2
    have rs9 := qm_rs_rg (kd := (fun i => qm_ok (J 69 0) (J 61 0 12) (qm_oa (J 69 0) (J 61 0 12) i))) (nv := (fun i => qm_ov (J 69 0) (J 61 0 12) (qm_oa (J 69 0) (J 61 0 12) i))) hG9 (N + 1) (by omega)
    obtain ⟨V9, eV9⟩ : ∃ V : Int, V = (qm_rs (fun i => qm_ok (J 69 0) (J 61 0 12) (qm_oa (J 69 0) (J 61 0 12) i)) (fun i => qm_ov (J 69 0) (J 61 0 12) (qm_oa (J 69 0) (J 61 0 12) i)) (J 62 0, D 61 0 2, D 61 0 3) (N + 1)).2 := ⟨_, rfl⟩
    rw [← eV9]
    rw [← eV9] at rs9
    refine ⟨_, rfl, ?_⟩
    refine qm_G.s1 rfl (qm_x_aload rfl) ?_
    refine qm_G.cm rfl rfl (hS 61 rfl) rfl ?_
    refine qm_C.go (cd := qm_P209) (lv := [(0, qm_R (some (0, 61, 0)))]) rfl rfl ?_
    refine qm_G.s1 rfl (qm_x_aload rfl) ?_
    refine qm_G.s1 rfl (qm_x_pushI 0 rfl) ?_
    refine qm_G.s1 rfl (qm_x_putfI (hS 61 rfl)) ?_
    refine qm_G.s1 rfl (qm_x_pushI 0 rfl) ?_
    refine qm_G.s1 rfl (qm_x_istore (lv' := [(1, qm_I (qm_i 0)), (0, qm_R (some (0, 61, 0)))]) rfl) ?_
    refine qm_G.s1 rfl (qm_x_pushI 1 rfl) ?_
    refine qm_G.s1 rfl (qm_x_istore (lv' := [(2, qm_I (qm_i 1)), (1, qm_I (qm_i 0)), (0, qm_R (some (0, 61, 0)))]) rfl) ?_
    refine qm_G.s1 rfl (qm_x_pushI 1 rfl) ?_
    refine qm_G.s1 rfl (qm_x_istore (lv' := [(3, qm_I (qm_i 1)), (2, qm_I (qm_i 1)), (1, qm_I (qm_i 0)), (0, qm_R (some (0, 61, 0)))]) rfl) ?_
    generalize hJ4 : (qm_set J3 61 0 16 0) = J4
    have f4 : ∀ r s i, ¬ (r = 61 ∧ i = 16) → J4 r s i = J3 r s i := fun r s i a => by rw [← hJ4, qm_st_ne (by omega)]
    have e69 : ∀ i, J4 69 0 i = J 69 0 i := fun i => by rw [f4 69 0 i (by omega), f3 69 0 i (by omega) (by omega) (by omega) (by omega)]; exact f2 69 0 i (by decide) (by decide)
    have e12 : J4 61 0 12 = J 61 0 12 := by rw [f4 61 0 12 (by omega), f3 61 0 12 (by omega) (by omega) (by omega) (by omega)]; exact f2 61 0 12 (by decide) (by decide)
    have h16 : J4 61 0 16 = (qm_oa (J 69 0) (J 61 0 12) 0 : Int) := by rw [← hJ4]; exact qm_st_eq
    refine qm_G.pk (lv1 := [(0, qm_R (some (0, 61, 0))), (1, qm_I (qm_i 0)), (2, qm_I (qm_i 1)), (3, qm_I (qm_i 1))]) rfl rfl rfl ?_
    refine qm_m_rdl (T := (J 69 0)) (ln := (J 61 0 12)) (N := N) (F := F) hS hR1 (fun i h => by rw [e69 i]; exact (hK9 i h).2.1 |> fun a => ⟨rfl, a, (hK9 i h).2.2⟩) rl9 e12 hO (fun J5 x5 n5 => absurd eF n5) (fun J5 _ a5 => ?_) N 0 _ J4 (by omega) rfl ⟨fun _ _ _ _ _ _ => rfl, fun i h => absurd h (Nat.not_lt_zero i)⟩ h16
    refine qm_G.sp (lv1 := [(0, qm_R (some (0, 61, 0))), (1, qm_I (qm_i ((N + 1 : Nat) : Int))), (3, qm_I (qm_i 1))]) rfl rfl (qm_x_aload rfl) ?_
    refine qm_G.s1 rfl (qm_x_pushI 0 rfl) ?_
    refine qm_G.s1 rfl (qm_x_putfI (hS 61 rfl)) ?_
    refine qm_G.s1 rfl (qm_x_iload rfl) ?_
    refine qm_G.s1 rfl (qm_x_if_ne_t ⟨by decide, by decide⟩ (by decide)) ?_
    refine qm_G.sp (lv1 := [(0, qm_R (some (0, 61, 0))), (1, qm_I (qm_i ((N + 1 : Nat) : Int)))]) rfl rfl (qm_x_pushI 0 rfl) ?_
    refine qm_G.s1 rfl (qm_x_istore (lv' := [(4, qm_I (qm_i 0)), (0, qm_R (some (0, 61, 0))), (1, qm_I (qm_i ((N + 1 : Nat) : Int)))]) rfl) ?_
    refine qm_G.s1 rfl (qm_x_pushI 0 rfl) ?_
    refine qm_G.s1 rfl (qm_x_istore (lv' := [(5, qm_I (qm_i 0)), (4, qm_I (qm_i 0)), (0, qm_R (some (0, 61, 0))), (1, qm_I (qm_i ((N + 1 : Nat) : Int)))]) rfl) ?_
    generalize hJ6 : (qm_set J5 61 0 12 0) = J6
    have f6 : ∀ r s i, ¬ (r = 61 ∧ i = 12) → J6 r s i = J5 r s i := fun r s i a => by rw [← hJ6, qm_st_ne (by omega)]
    have z12 : J6 61 0 12 = 0 := by rw [← hJ6]; exact qm_st_eq
    have f46 : ∀ r s i, r ≠ 61 → r ≠ 70 → r ≠ 71 → J6 r s i = J3 r s i := fun r s i a b c => by rw [f6 r s i (by omega), a5.1 r s i (by omega) b c]; exact f4 r s i (by omega)
    have e62 : ∀ i, J6 62 0 i = J 62 0 i := fun i => by rw [f46 62 0 i (by omega) (by omega) (by omega), f3 62 0 i (by omega) (by omega) (by omega) (by omega)]; exact f2 62 0 i (by decide) (by decide)
    have C6 : qm_Cm J6 D3 (J 62 0, D 61 0 2, D 61 0 3) := ⟨e62, d3 61 0 2 (by omega), d3 61 0 3 (by omega)⟩
    refine qm_G.pk (lv1 := [(0, qm_R (some (0, 61, 0))), (1, qm_I (qm_i ((N + 1 : Nat) : Int))), (4, qm_I (qm_i 0)), (5, qm_I (qm_i 0))]) rfl rfl rfl ?_
    refine qm_m_exl (J := J6) (D := D3) (kd := (fun i => qm_ok (J 69 0) (J 61 0 12) (qm_oa (J 69 0) (J 61 0 12) i))) (nv := (fun i => qm_ov (J 69 0) (J 61 0 12) (qm_oa (J 69 0) (J 61 0 12) i))) (s0 := (J 62 0, D 61 0 2, D 61 0 3)) (N := N + 1) (c := c9) hS hR1 hG9 (by omega) N12 hv9 (fun i h => by rw [f6 70 0 i (by omega)]; exact (a5.2 i h).1) (fun i h => by rw [f6 71 0 i (by omega)]; exact (a5.2 i h).2) (fun J7 D7 f7 d7 C7 => ?_) (N + 1) 0 _ _ J6 D3 (by omega) rfl rfl (fun _ _ _ _ => rfl) (fun _ _ _ _ => rfl) C6
    rw [← eV9]
    refine ⟨_, rfl, ?_⟩
    refine qm_G.s1 rfl (qm_x_icmp_eq_t ⟨by omega, by omega⟩ ⟨by omega, by omega⟩ (by omega)) ?_
    have g7 : ∀ r s i, ¬ (r = 62 ∧ s = 0) → r ≠ 61 → r ≠ 70 → r ≠ 71 → J7 r s i = J3 r s i := fun r s i a b c d => (f7 r s i a).trans (f46 r s i b c d)
    have es : (J7 62 0, D7 61 0 2, D7 61 0 3) = (qm_rs (fun i => qm_ok (J 69 0) (J 61 0 12) (qm_oa (J 69 0) (J 61 0 12) i)) (fun i => qm_ov (J 69 0) (J 61 0 12) (qm_oa (J 69 0) (J 61 0 12) i)) (J 62 0, D 61 0 2, D 61 0 3) (N + 1)).1 := by rw [show J7 62 0 = _ from funext C7.1, C7.2.1, C7.2.2]
    refine ih _ _ _ _ _ _ (qm_U_read (c := c9 + (N + 1)) hI (fun r s i a b c d e f g h j l => ?_) (fun r s i a b => (d7 r s i b).trans (d3 r s i a)) hFr.2 hR1 ?_ ?_ ?_ (by rw [es]; exact rs9.1) (by omega))
    · by_cases c62 : r = 62 ∧ s = 0
      · obtain ⟨c1, c2⟩ := c62
        subst c1 c2
        exact (C7.1 i).trans (qm_rs_kp (by omega) (N + 1))
      · by_cases c61 : r = 61
        · subst c61
          rw [f7 61 s i (by omega), f6 61 s i (by omega), a5.1 61 s i (by omega) (by omega) (by omega), f4 61 s i (by omega), f3 61 s i (by omega) (by omega) (by omega) (by omega)]
          exact f2 61 s i (by decide) (by decide)
        · rw [g7 r s i c62 c61 h j, f3 r s i a b c d]
          exact f2 r s i e f
    · rw [g7 42 0 1 (by omega) (by omega) (by omega) (by omega), f3 42 0 1 (by omega) (by omega) (by omega) (by omega)]
      exact z42
    · rw [f7 61 0 12 (by omega)]
      exact z12
    · rw [es]
      exact ⟨(g7 3 0 0 (by omega) (by omega) (by omega) (by omega)).trans C3.1, (g7 3 0 1 (by omega) (by omega) (by omega) (by omega)).trans C3.2.1, (g7 3 0 5 (by omega) (by omega) (by omega) (by omega)).trans C3.2.2.1, (g7 2 0 5 (by omega) (by omega) (by omega) (by omega)).trans C3.2.2.2.1, (g7 10 0 0 (by omega) (by omega) (by omega) (by omega)).trans C3.2.2.2.2.1, (g7 10 0 1 (by omega) (by omega) (by omega) (by omega)).trans C3.2.2.2.2.2.1, (g7 9 0 1 (by omega) (by omega) (by omega) (by omega)).trans C3.2.2.2.2.2.2.1, (g7 9 0 2 (by omega) (by omega) (by omega) (by omega)).trans C3.2.2.2.2.2.2.2.1, (d7 9 0 3 (by omega)).trans C3.2.2.2.2.2.2.2.2.1, (d7 9 0 4 (by omega)).trans C3.2.2.2.2.2.2.2.2.2⟩
  · refine qm_G.s1 rfl (qm_x_pushI (-10) rfl) ?_
    refine qm_G.s1 rfl (qm_x_iload rfl) ?_
    refine qm_G.s1 rfl (qm_x_isub) ?_
    refine qm_G.ret rfl rfl ⟨_, rfl, ?_⟩
    refine qm_G.s1 rfl (qm_x_aload rfl) ?_
    refine qm_G.cm rfl rfl (hS 61 rfl) rfl ?_
    refine qm_C.go (cd := qm_P209) (lv := [(0, qm_R (some (0, 61, 0)))]) rfl rfl ?_
    refine qm_G.s1 rfl (qm_x_aload rfl) ?_
    refine qm_G.s1 rfl (qm_x_pushI 0 rfl) ?_
    refine qm_G.s1 rfl (qm_x_putfI (hS 61 rfl)) ?_
    refine qm_G.s1 rfl (qm_x_pushI 0 rfl) ?_
    refine qm_G.s1 rfl (qm_x_istore (lv' := [(1, qm_I (qm_i 0)), (0, qm_R (some (0, 61, 0)))]) rfl) ?_
    refine qm_G.s1 rfl (qm_x_pushI 1 rfl) ?_
    refine qm_G.s1 rfl (qm_x_istore (lv' := [(2, qm_I (qm_i 1)), (1, qm_I (qm_i 0)), (0, qm_R (some (0, 61, 0)))]) rfl) ?_
    refine qm_G.s1 rfl (qm_x_pushI 1 rfl) ?_
    refine qm_G.s1 rfl (qm_x_istore (lv' := [(3, qm_I (qm_i 1)), (2, qm_I (qm_i 1)), (1, qm_I (qm_i 0)), (0, qm_R (some (0, 61, 0)))]) rfl) ?_
    generalize hJ4 : (qm_set (qm_set J1 42 0 1 0) 61 0 16 0) = J4
    have f4 : ∀ r s i, r ≠ 42 → r ≠ 45 → ¬ (r = 61 ∧ i = 16) → J4 r s i = J r s i := fun r s i a b c => by rw [← hJ4, qm_st_ne (by omega), qm_st_ne (by omega)]; exact hFr.1 r s i (by omega) b
    have e69 : ∀ i, J4 69 0 i = J 69 0 i := fun i => f4 69 0 i (by omega) (by omega) (by omega)
    have e12 : J4 61 0 12 = J 61 0 12 := f4 61 0 12 (by omega) (by omega) (by omega)
    have z42 : J4 42 0 1 = 0 := by rw [← hJ4, qm_st_ne (by omega)]; exact qm_st_eq
    have h16 : J4 61 0 16 = (qm_oa (J 69 0) (J 61 0 12) 0 : Int) := by rw [← hJ4]; exact qm_st_eq
    refine qm_G.pk (lv1 := [(0, qm_R (some (0, 61, 0))), (1, qm_I (qm_i 0)), (2, qm_I (qm_i 1)), (3, qm_I (qm_i 1))]) rfl rfl rfl ?_
    refine qm_m_rdl (T := (J 69 0)) (ln := (J 61 0 12)) (N := N) (F := F) hS hR1 (fun i h => by rw [e69 i]; exact (hK9 i h).2.1 |> fun a => ⟨rfl, a, (hK9 i h).2.2⟩) rl9 e12 hO (fun J5 x5 n5 f5 g5 => ?_) (fun J5 e5 _ => absurd e5 (by omega)) N 0 _ J4 (by omega) rfl ⟨fun _ _ _ _ _ _ => rfl, fun i h => absurd h (Nat.not_lt_zero i)⟩ h16
    refine qm_G.sp (lv1 := [(0, qm_R (some (0, 61, 0))), (1, qm_I (qm_i x5)), (3, qm_I (qm_i 0))]) rfl rfl (qm_x_aload rfl) ?_
    refine qm_G.s1 rfl (qm_x_pushI 0 rfl) ?_
    refine qm_G.s1 rfl (qm_x_putfI (hS 61 rfl)) ?_
    refine qm_G.s1 rfl (qm_x_iload rfl) ?_
    refine qm_G.s1 rfl (qm_x_if_ne_f ⟨by decide, by decide⟩ (by decide)) ?_
    refine qm_G.s1 rfl (qm_x_pushI (-10) rfl) ?_
    refine qm_G.s1 rfl (qm_x_aload rfl) ?_
    refine qm_G.s1 rfl (qm_x_getfI (v := F) (hS 61 rfl) g5) ?_
    refine qm_G.s1 rfl (qm_x_isub) ?_
    refine qm_G.ret rfl rfl ⟨_, rfl, ?_⟩
    refine qm_G.s1 rfl (qm_x_icmp_eq_t ⟨by omega, by omega⟩ ⟨by omega, by omega⟩ (by omega)) ?_
    refine ih _ _ _ _ _ _ (qm_U_fault hI (fun r s i a b c d e => ?_) hFr.2 hR1 ?_ qm_st_eq)
    · rw [qm_st_ne (by omega), f5 r s i (by omega) d e]
      exact f4 r s i a b (by omega)
    · rw [qm_st_ne (by omega), f5 42 0 1 (by omega) (by omega) (by omega)]
      exact z42
