/-! CHANCE, whole -/
/-- CHANCE; the places of the street in g, a bit each, hold nothing -/
def qm_ch (N : Nat → Int) (g sd d : Int) : Int := qm_cho N sd d (N (Int.toNat (14 + 6 * sd + d))) (if g % 2 = 1 then -5 else N (50 + 4 * Int.toNat (N 6) + 0)) (if g / 2 % 2 = 1 then -5 else N (50 + 4 * Int.toNat (N 6) + 1)) (if g / 4 % 2 = 1 then -5 else N (50 + 4 * Int.toNat (N 6) + 2)) (if g / 8 % 2 = 1 then -5 else N (50 + 4 * Int.toNat (N 6) + 3))
theorem qm_ch_rng {N : Nat → Int} {g sd d : Int} (h : qm_Nk N) (h1 : 0 ≤ sd ∧ sd ≤ 1) (h2 : 0 ≤ d ∧ d ≤ 6) : 0 ≤ qm_ch N g sd d ∧ qm_ch N g sd d ≤ 1000 := by
  by_cases h3 : d = 6
  · unfold qm_ch qm_cho
    rw [if_pos h3]
    omega
  · have h4 := h.odd (Int.toNat (6 * sd + d)) (by omega)
    rw [show 14 + Int.toNat (6 * sd + d) = Int.toNat (14 + 6 * sd + d) by omega] at h4
    exact qm_cho_rng h4
theorem qm_ch6 {N : Nat → Int} {g sd : Int} : qm_ch N g sd 6 = 0 := by unfold qm_ch qm_cho; exact if_pos rfl
theorem qm_d_lik {S : List qm_Sh} {J K : qm_J} {L : qm_Ct Int64} {D : qm_Ct UInt64} {R : qm_Ct (Option qm_Rf)} {X : Nat × (Nat → Int32)} {Q : Option qm_V → qm_Hp → Prop} {sd d g : Int} (hS : qm_Sd S) (hR : qm_Rd R) (hM : qm_Mkn S J R) (r0 : 0 ≤ sd ∧ sd ≤ 1) (r1 : 0 ≤ d ∧ d ≤ 6) (r2 : 0 ≤ g ∧ g ≤ 15) (k : ∀ w : Int, w = qm_ch (J 62 0) g sd d → Q (some (qm_I (qm_i w))) (qm_H S J K L D R X)) : qm_C qm_P 161 [qm_R (some (0, 2, 0)), qm_I (qm_i sd), qm_I (qm_i d), qm_I (qm_i g)] (qm_H S J K L D R X) Q := by
  have f62_6 : 0 ≤ J 62 0 6 ∧ J 62 0 6 ≤ 2 := hM.rstr
  have f2_5 : J 2 0 5 = J 62 0 6 := hM.str
  rcases (show J 62 0 6 = 0 ∨ J 62 0 6 = 1 ∨ J 62 0 6 = 2 by omega) with c6 | c6 | c6
  · have hst : J 2 0 5 = 0 := by omega
    have i0 : J 62 0 (50 + 4 * Int.toNat (J 62 0 6) + 0) = J 62 0 50 := by rw [c6]; rfl
    have i1 : J 62 0 (50 + 4 * Int.toNat (J 62 0 6) + 1) = J 62 0 51 := by rw [c6]; rfl
    have i2 : J 62 0 (50 + 4 * Int.toNat (J 62 0 6) + 2) = J 62 0 52 := by rw [c6]; rfl
    have i3 : J 62 0 (50 + 4 * Int.toNat (J 62 0 6) + 3) = J 62 0 53 := by rw [c6]; rfl
    rcases (show sd = 0 ∨ sd = 1 by omega) with c0 | c0
    · subst c0
      refine qm_C.go (cd := qm_P161) (lv := [(0, qm_R (some (0, 2, 0))), (1, qm_I (qm_i 0)), (2, qm_I (qm_i d)), (3, qm_I (qm_i g))]) rfl rfl ?_
      refine qm_G.s1 rfl (qm_x_iload rfl) ?_
      refine qm_G.s1 rfl (qm_x_pushI 6 rfl) ?_
      refine qm_y_icmp_lt rfl ⟨by omega, by omega⟩ ⟨by decide, by decide⟩ (fun c1 => ?_) (fun c1 => ?_)
      · refine qm_G.sp (lv1 := [(0, qm_R (some (0, 2, 0))), (1, qm_I (qm_i 0)), (2, qm_I (qm_i d)), (3, qm_I (qm_i g))]) rfl rfl (qm_x_aload rfl) ?_
        refine qm_G.s1 rfl (qm_x_getfR (q := (some (0, 4, 0))) (hS 2 rfl) (hR 2 1 4 rfl rfl)) ?_
        refine qm_G.s1 rfl (qm_x_iload rfl) ?_
        refine qm_G.s1 rfl (qm_x_aaldr (q := (some (0, 5, 0))) (hS 4 rfl) rfl rfl (by decide) (by decide) (hR 4 0 5 rfl rfl)) ?_
        refine qm_G.s1 rfl (qm_x_iload rfl) ?_
        refine qm_G.s1 rfl (qm_x_iald (v := (J 5 0 (Int.toNat d))) (qm_arS hS rfl rfl) rfl (by omega) (by omega) (by decide) rfl) ?_
        refine qm_G.s1 rfl (qm_x_istore (lv' := [(4, qm_I (qm_i (J 5 0 (Int.toNat d)))), (0, qm_R (some (0, 2, 0))), (1, qm_I (qm_i 0)), (2, qm_I (qm_i d)), (3, qm_I (qm_i g))]) rfl) ?_
        refine qm_G.s1 rfl (qm_x_pushI 0 rfl) ?_
        refine qm_G.s1 rfl (qm_x_istore (lv' := [(5, qm_I (qm_i 0)), (4, qm_I (qm_i (J 5 0 (Int.toNat d)))), (0, qm_R (some (0, 2, 0))), (1, qm_I (qm_i 0)), (2, qm_I (qm_i d)), (3, qm_I (qm_i g))]) rfl) ?_
        have o0 := hM.odb (Int.toNat d) (by omega)
        have o1 : J 5 0 (Int.toNat d) = J 62 0 (Int.toNat (14 + 6 * 0 + d)) := by rw [o0]; exact congrArg (J 62 0) (by omega)
        have o2 := hM.rod (Int.toNat d + 0) (by omega)
        rw [show 14 + (Int.toNat d + 0) = 14 + Int.toNat d by omega, ← o0] at o2
        refine qm_G.pk (lv1 := [(0, qm_R (some (0, 2, 0))), (1, qm_I (qm_i 0)), (2, qm_I (qm_i d)), (3, qm_I (qm_i g)), (4, qm_I (qm_i (J 5 0 (Int.toNat d)))), (5, qm_I (qm_i 0))]) rfl rfl rfl ?_
        refine qm_d_lk0_0 hS hR hM hst (by decide) (by omega) (by omega) o2 (fun c0_ y0 => ?_)
        have z0 : 0 ≤ c0_ ∧ c0_ ≤ 1000 := by rw [y0]; exact qm_plc_rng o2
        refine qm_G.pk (lv1 := [(0, qm_R (some (0, 2, 0))), (1, qm_I (qm_i 0)), (2, qm_I (qm_i d)), (3, qm_I (qm_i g)), (4, qm_I (qm_i c0_)), (5, qm_I (qm_i 1))]) rfl rfl rfl ?_
        refine qm_d_lk0_1 hS hR hM hst (by decide) (by omega) (by omega) z0 (fun c1_ y1 => ?_)
        have z1 : 0 ≤ c1_ ∧ c1_ ≤ 1000 := by rw [y1]; exact qm_plc_rng z0
        refine qm_G.pk (lv1 := [(0, qm_R (some (0, 2, 0))), (1, qm_I (qm_i 0)), (2, qm_I (qm_i d)), (3, qm_I (qm_i g)), (4, qm_I (qm_i c1_)), (5, qm_I (qm_i 2))]) rfl rfl rfl ?_
        refine qm_d_lk0_2 hS hR hM hst (by decide) (by omega) (by omega) z1 (fun c2_ y2 => ?_)
        have z2 : 0 ≤ c2_ ∧ c2_ ≤ 1000 := by rw [y2]; exact qm_plc_rng z1
        refine qm_G.pk (lv1 := [(0, qm_R (some (0, 2, 0))), (1, qm_I (qm_i 0)), (2, qm_I (qm_i d)), (3, qm_I (qm_i g)), (4, qm_I (qm_i c2_)), (5, qm_I (qm_i 3))]) rfl rfl rfl ?_
        refine qm_d_lk0_3 hS hR hM hst (by decide) (by omega) (by omega) z2 (fun c3_ y3 => ?_)
        have z3 : 0 ≤ c3_ ∧ c3_ ≤ 1000 := by rw [y3]; exact qm_plc_rng z2
        refine qm_G.sp (lv1 := [(0, qm_R (some (0, 2, 0))), (1, qm_I (qm_i 0)), (2, qm_I (qm_i d)), (3, qm_I (qm_i g)), (4, qm_I (qm_i c3_)), (5, qm_I (qm_i (3 + 1)))]) rfl rfl (qm_x_iload rfl) ?_
        refine qm_G.s1 rfl (qm_x_pushI 4 rfl) ?_
        refine qm_G.s1 rfl (qm_x_icmp_ge_t ⟨by decide, by decide⟩ ⟨by decide, by decide⟩ (by decide)) ?_
        refine qm_G.sp (lv1 := [(4, qm_I (qm_i c3_))]) rfl rfl (qm_x_iload rfl) ?_
        exact qm_G.ret rfl rfl (k _ (by unfold qm_ch qm_cho; rw [if_neg (show ¬ d = 6 by omega), i0, i1, i2, i3, ← o1]; rw [← y0, ← y1, ← y2, ← y3]))
      · refine qm_G.s1 rfl (qm_x_pushI 0 rfl) ?_
        exact qm_G.ret rfl rfl (k _ (by rw [show d = 6 by omega, qm_ch6]))
    · subst c0
      refine qm_C.go (cd := qm_P161) (lv := [(0, qm_R (some (0, 2, 0))), (1, qm_I (qm_i 1)), (2, qm_I (qm_i d)), (3, qm_I (qm_i g))]) rfl rfl ?_
      refine qm_G.s1 rfl (qm_x_iload rfl) ?_
      refine qm_G.s1 rfl (qm_x_pushI 6 rfl) ?_
      refine qm_y_icmp_lt rfl ⟨by omega, by omega⟩ ⟨by decide, by decide⟩ (fun c2 => ?_) (fun c2 => ?_)
      · refine qm_G.sp (lv1 := [(0, qm_R (some (0, 2, 0))), (1, qm_I (qm_i 1)), (2, qm_I (qm_i d)), (3, qm_I (qm_i g))]) rfl rfl (qm_x_aload rfl) ?_
        refine qm_G.s1 rfl (qm_x_getfR (q := (some (0, 4, 0))) (hS 2 rfl) (hR 2 1 4 rfl rfl)) ?_
        refine qm_G.s1 rfl (qm_x_iload rfl) ?_
        refine qm_G.s1 rfl (qm_x_aaldr (q := (some (0, 6, 0))) (hS 4 rfl) rfl rfl (by decide) (by decide) (hR 4 1 6 rfl rfl)) ?_
        refine qm_G.s1 rfl (qm_x_iload rfl) ?_
        refine qm_G.s1 rfl (qm_x_iald (v := (J 6 0 (Int.toNat d))) (qm_arS hS rfl rfl) rfl (by omega) (by omega) (by decide) rfl) ?_
        refine qm_G.s1 rfl (qm_x_istore (lv' := [(4, qm_I (qm_i (J 6 0 (Int.toNat d)))), (0, qm_R (some (0, 2, 0))), (1, qm_I (qm_i 1)), (2, qm_I (qm_i d)), (3, qm_I (qm_i g))]) rfl) ?_
        refine qm_G.s1 rfl (qm_x_pushI 0 rfl) ?_
        refine qm_G.s1 rfl (qm_x_istore (lv' := [(5, qm_I (qm_i 0)), (4, qm_I (qm_i (J 6 0 (Int.toNat d)))), (0, qm_R (some (0, 2, 0))), (1, qm_I (qm_i 1)), (2, qm_I (qm_i d)), (3, qm_I (qm_i g))]) rfl) ?_
        have o0 := hM.oda (Int.toNat d) (by omega)
        have o1 : J 6 0 (Int.toNat d) = J 62 0 (Int.toNat (14 + 6 * 1 + d)) := by rw [o0]; exact congrArg (J 62 0) (by omega)
        have o2 := hM.rod (Int.toNat d + 6) (by omega)
        rw [show 14 + (Int.toNat d + 6) = 20 + Int.toNat d by omega, ← o0] at o2
        refine qm_G.pk (lv1 := [(0, qm_R (some (0, 2, 0))), (1, qm_I (qm_i 1)), (2, qm_I (qm_i d)), (3, qm_I (qm_i g)), (4, qm_I (qm_i (J 6 0 (Int.toNat d)))), (5, qm_I (qm_i 0))]) rfl rfl rfl ?_
        refine qm_d_lk0_0 hS hR hM hst (by decide) (by omega) (by omega) o2 (fun c0_ y0 => ?_)
        have z0 : 0 ≤ c0_ ∧ c0_ ≤ 1000 := by rw [y0]; exact qm_plc_rng o2
        refine qm_G.pk (lv1 := [(0, qm_R (some (0, 2, 0))), (1, qm_I (qm_i 1)), (2, qm_I (qm_i d)), (3, qm_I (qm_i g)), (4, qm_I (qm_i c0_)), (5, qm_I (qm_i 1))]) rfl rfl rfl ?_
        refine qm_d_lk0_1 hS hR hM hst (by decide) (by omega) (by omega) z0 (fun c1_ y1 => ?_)
        have z1 : 0 ≤ c1_ ∧ c1_ ≤ 1000 := by rw [y1]; exact qm_plc_rng z0
        refine qm_G.pk (lv1 := [(0, qm_R (some (0, 2, 0))), (1, qm_I (qm_i 1)), (2, qm_I (qm_i d)), (3, qm_I (qm_i g)), (4, qm_I (qm_i c1_)), (5, qm_I (qm_i 2))]) rfl rfl rfl ?_
        refine qm_d_lk0_2 hS hR hM hst (by decide) (by omega) (by omega) z1 (fun c2_ y2 => ?_)
        have z2 : 0 ≤ c2_ ∧ c2_ ≤ 1000 := by rw [y2]; exact qm_plc_rng z1
        refine qm_G.pk (lv1 := [(0, qm_R (some (0, 2, 0))), (1, qm_I (qm_i 1)), (2, qm_I (qm_i d)), (3, qm_I (qm_i g)), (4, qm_I (qm_i c2_)), (5, qm_I (qm_i 3))]) rfl rfl rfl ?_
        refine qm_d_lk0_3 hS hR hM hst (by decide) (by omega) (by omega) z2 (fun c3_ y3 => ?_)
        have z3 : 0 ≤ c3_ ∧ c3_ ≤ 1000 := by rw [y3]; exact qm_plc_rng z2
        refine qm_G.sp (lv1 := [(0, qm_R (some (0, 2, 0))), (1, qm_I (qm_i 1)), (2, qm_I (qm_i d)), (3, qm_I (qm_i g)), (4, qm_I (qm_i c3_)), (5, qm_I (qm_i (3 + 1)))]) rfl rfl (qm_x_iload rfl) ?_
        refine qm_G.s1 rfl (qm_x_pushI 4 rfl) ?_
        refine qm_G.s1 rfl (qm_x_icmp_ge_t ⟨by decide, by decide⟩ ⟨by decide, by decide⟩ (by decide)) ?_
        refine qm_G.sp (lv1 := [(4, qm_I (qm_i c3_))]) rfl rfl (qm_x_iload rfl) ?_
        exact qm_G.ret rfl rfl (k _ (by unfold qm_ch qm_cho; rw [if_neg (show ¬ d = 6 by omega), i0, i1, i2, i3, ← o1]; rw [← y0, ← y1, ← y2, ← y3]))
      · refine qm_G.s1 rfl (qm_x_pushI 0 rfl) ?_
        exact qm_G.ret rfl rfl (k _ (by rw [show d = 6 by omega, qm_ch6]))
  · have hst : J 2 0 5 = 1 := by omega
    have i0 : J 62 0 (50 + 4 * Int.toNat (J 62 0 6) + 0) = J 62 0 54 := by rw [c6]; rfl
    have i1 : J 62 0 (50 + 4 * Int.toNat (J 62 0 6) + 1) = J 62 0 55 := by rw [c6]; rfl
    have i2 : J 62 0 (50 + 4 * Int.toNat (J 62 0 6) + 2) = J 62 0 56 := by rw [c6]; rfl
    have i3 : J 62 0 (50 + 4 * Int.toNat (J 62 0 6) + 3) = J 62 0 57 := by rw [c6]; rfl
    rcases (show sd = 0 ∨ sd = 1 by omega) with c0 | c0
    · subst c0
      refine qm_C.go (cd := qm_P161) (lv := [(0, qm_R (some (0, 2, 0))), (1, qm_I (qm_i 0)), (2, qm_I (qm_i d)), (3, qm_I (qm_i g))]) rfl rfl ?_
      refine qm_G.s1 rfl (qm_x_iload rfl) ?_
      refine qm_G.s1 rfl (qm_x_pushI 6 rfl) ?_
      refine qm_y_icmp_lt rfl ⟨by omega, by omega⟩ ⟨by decide, by decide⟩ (fun c3 => ?_) (fun c3 => ?_)
      · refine qm_G.sp (lv1 := [(0, qm_R (some (0, 2, 0))), (1, qm_I (qm_i 0)), (2, qm_I (qm_i d)), (3, qm_I (qm_i g))]) rfl rfl (qm_x_aload rfl) ?_
        refine qm_G.s1 rfl (qm_x_getfR (q := (some (0, 4, 0))) (hS 2 rfl) (hR 2 1 4 rfl rfl)) ?_
        refine qm_G.s1 rfl (qm_x_iload rfl) ?_
        refine qm_G.s1 rfl (qm_x_aaldr (q := (some (0, 5, 0))) (hS 4 rfl) rfl rfl (by decide) (by decide) (hR 4 0 5 rfl rfl)) ?_
        refine qm_G.s1 rfl (qm_x_iload rfl) ?_
        refine qm_G.s1 rfl (qm_x_iald (v := (J 5 0 (Int.toNat d))) (qm_arS hS rfl rfl) rfl (by omega) (by omega) (by decide) rfl) ?_
        refine qm_G.s1 rfl (qm_x_istore (lv' := [(4, qm_I (qm_i (J 5 0 (Int.toNat d)))), (0, qm_R (some (0, 2, 0))), (1, qm_I (qm_i 0)), (2, qm_I (qm_i d)), (3, qm_I (qm_i g))]) rfl) ?_
        refine qm_G.s1 rfl (qm_x_pushI 0 rfl) ?_
        refine qm_G.s1 rfl (qm_x_istore (lv' := [(5, qm_I (qm_i 0)), (4, qm_I (qm_i (J 5 0 (Int.toNat d)))), (0, qm_R (some (0, 2, 0))), (1, qm_I (qm_i 0)), (2, qm_I (qm_i d)), (3, qm_I (qm_i g))]) rfl) ?_
        have o0 := hM.odb (Int.toNat d) (by omega)
        have o1 : J 5 0 (Int.toNat d) = J 62 0 (Int.toNat (14 + 6 * 0 + d)) := by rw [o0]; exact congrArg (J 62 0) (by omega)
        have o2 := hM.rod (Int.toNat d + 0) (by omega)
        rw [show 14 + (Int.toNat d + 0) = 14 + Int.toNat d by omega, ← o0] at o2
        refine qm_G.pk (lv1 := [(0, qm_R (some (0, 2, 0))), (1, qm_I (qm_i 0)), (2, qm_I (qm_i d)), (3, qm_I (qm_i g)), (4, qm_I (qm_i (J 5 0 (Int.toNat d)))), (5, qm_I (qm_i 0))]) rfl rfl rfl ?_
        refine qm_d_lk1_0 hS hR hM hst (by decide) (by omega) (by omega) o2 (fun c0_ y0 => ?_)
        have z0 : 0 ≤ c0_ ∧ c0_ ≤ 1000 := by rw [y0]; exact qm_plc_rng o2
        refine qm_G.pk (lv1 := [(0, qm_R (some (0, 2, 0))), (1, qm_I (qm_i 0)), (2, qm_I (qm_i d)), (3, qm_I (qm_i g)), (4, qm_I (qm_i c0_)), (5, qm_I (qm_i 1))]) rfl rfl rfl ?_
        refine qm_d_lk1_1 hS hR hM hst (by decide) (by omega) (by omega) z0 (fun c1_ y1 => ?_)
        have z1 : 0 ≤ c1_ ∧ c1_ ≤ 1000 := by rw [y1]; exact qm_plc_rng z0
        refine qm_G.pk (lv1 := [(0, qm_R (some (0, 2, 0))), (1, qm_I (qm_i 0)), (2, qm_I (qm_i d)), (3, qm_I (qm_i g)), (4, qm_I (qm_i c1_)), (5, qm_I (qm_i 2))]) rfl rfl rfl ?_
        refine qm_d_lk1_2 hS hR hM hst (by decide) (by omega) (by omega) z1 (fun c2_ y2 => ?_)
        have z2 : 0 ≤ c2_ ∧ c2_ ≤ 1000 := by rw [y2]; exact qm_plc_rng z1
        refine qm_G.pk (lv1 := [(0, qm_R (some (0, 2, 0))), (1, qm_I (qm_i 0)), (2, qm_I (qm_i d)), (3, qm_I (qm_i g)), (4, qm_I (qm_i c2_)), (5, qm_I (qm_i 3))]) rfl rfl rfl ?_
        refine qm_d_lk1_3 hS hR hM hst (by decide) (by omega) (by omega) z2 (fun c3_ y3 => ?_)
        have z3 : 0 ≤ c3_ ∧ c3_ ≤ 1000 := by rw [y3]; exact qm_plc_rng z2
        refine qm_G.sp (lv1 := [(0, qm_R (some (0, 2, 0))), (1, qm_I (qm_i 0)), (2, qm_I (qm_i d)), (3, qm_I (qm_i g)), (4, qm_I (qm_i c3_)), (5, qm_I (qm_i (3 + 1)))]) rfl rfl (qm_x_iload rfl) ?_
        refine qm_G.s1 rfl (qm_x_pushI 4 rfl) ?_
        refine qm_G.s1 rfl (qm_x_icmp_ge_t ⟨by decide, by decide⟩ ⟨by decide, by decide⟩ (by decide)) ?_
        refine qm_G.sp (lv1 := [(4, qm_I (qm_i c3_))]) rfl rfl (qm_x_iload rfl) ?_
        exact qm_G.ret rfl rfl (k _ (by unfold qm_ch qm_cho; rw [if_neg (show ¬ d = 6 by omega), i0, i1, i2, i3, ← o1]; rw [← y0, ← y1, ← y2, ← y3]))
      · refine qm_G.s1 rfl (qm_x_pushI 0 rfl) ?_
        exact qm_G.ret rfl rfl (k _ (by rw [show d = 6 by omega, qm_ch6]))
    · subst c0
      refine qm_C.go (cd := qm_P161) (lv := [(0, qm_R (some (0, 2, 0))), (1, qm_I (qm_i 1)), (2, qm_I (qm_i d)), (3, qm_I (qm_i g))]) rfl rfl ?_
      refine qm_G.s1 rfl (qm_x_iload rfl) ?_
      refine qm_G.s1 rfl (qm_x_pushI 6 rfl) ?_
      refine qm_y_icmp_lt rfl ⟨by omega, by omega⟩ ⟨by decide, by decide⟩ (fun c4 => ?_) (fun c4 => ?_)
      · refine qm_G.sp (lv1 := [(0, qm_R (some (0, 2, 0))), (1, qm_I (qm_i 1)), (2, qm_I (qm_i d)), (3, qm_I (qm_i g))]) rfl rfl (qm_x_aload rfl) ?_
        refine qm_G.s1 rfl (qm_x_getfR (q := (some (0, 4, 0))) (hS 2 rfl) (hR 2 1 4 rfl rfl)) ?_
        refine qm_G.s1 rfl (qm_x_iload rfl) ?_
        refine qm_G.s1 rfl (qm_x_aaldr (q := (some (0, 6, 0))) (hS 4 rfl) rfl rfl (by decide) (by decide) (hR 4 1 6 rfl rfl)) ?_
        refine qm_G.s1 rfl (qm_x_iload rfl) ?_
        refine qm_G.s1 rfl (qm_x_iald (v := (J 6 0 (Int.toNat d))) (qm_arS hS rfl rfl) rfl (by omega) (by omega) (by decide) rfl) ?_
        refine qm_G.s1 rfl (qm_x_istore (lv' := [(4, qm_I (qm_i (J 6 0 (Int.toNat d)))), (0, qm_R (some (0, 2, 0))), (1, qm_I (qm_i 1)), (2, qm_I (qm_i d)), (3, qm_I (qm_i g))]) rfl) ?_
        refine qm_G.s1 rfl (qm_x_pushI 0 rfl) ?_
        refine qm_G.s1 rfl (qm_x_istore (lv' := [(5, qm_I (qm_i 0)), (4, qm_I (qm_i (J 6 0 (Int.toNat d)))), (0, qm_R (some (0, 2, 0))), (1, qm_I (qm_i 1)), (2, qm_I (qm_i d)), (3, qm_I (qm_i g))]) rfl) ?_
        have o0 := hM.oda (Int.toNat d) (by omega)
        have o1 : J 6 0 (Int.toNat d) = J 62 0 (Int.toNat (14 + 6 * 1 + d)) := by rw [o0]; exact congrArg (J 62 0) (by omega)
        have o2 := hM.rod (Int.toNat d + 6) (by omega)
        rw [show 14 + (Int.toNat d + 6) = 20 + Int.toNat d by omega, ← o0] at o2
        refine qm_G.pk (lv1 := [(0, qm_R (some (0, 2, 0))), (1, qm_I (qm_i 1)), (2, qm_I (qm_i d)), (3, qm_I (qm_i g)), (4, qm_I (qm_i (J 6 0 (Int.toNat d)))), (5, qm_I (qm_i 0))]) rfl rfl rfl ?_
        refine qm_d_lk1_0 hS hR hM hst (by decide) (by omega) (by omega) o2 (fun c0_ y0 => ?_)
        have z0 : 0 ≤ c0_ ∧ c0_ ≤ 1000 := by rw [y0]; exact qm_plc_rng o2
        refine qm_G.pk (lv1 := [(0, qm_R (some (0, 2, 0))), (1, qm_I (qm_i 1)), (2, qm_I (qm_i d)), (3, qm_I (qm_i g)), (4, qm_I (qm_i c0_)), (5, qm_I (qm_i 1))]) rfl rfl rfl ?_
        refine qm_d_lk1_1 hS hR hM hst (by decide) (by omega) (by omega) z0 (fun c1_ y1 => ?_)
        have z1 : 0 ≤ c1_ ∧ c1_ ≤ 1000 := by rw [y1]; exact qm_plc_rng z0
        refine qm_G.pk (lv1 := [(0, qm_R (some (0, 2, 0))), (1, qm_I (qm_i 1)), (2, qm_I (qm_i d)), (3, qm_I (qm_i g)), (4, qm_I (qm_i c1_)), (5, qm_I (qm_i 2))]) rfl rfl rfl ?_
        refine qm_d_lk1_2 hS hR hM hst (by decide) (by omega) (by omega) z1 (fun c2_ y2 => ?_)
        have z2 : 0 ≤ c2_ ∧ c2_ ≤ 1000 := by rw [y2]; exact qm_plc_rng z1
        refine qm_G.pk (lv1 := [(0, qm_R (some (0, 2, 0))), (1, qm_I (qm_i 1)), (2, qm_I (qm_i d)), (3, qm_I (qm_i g)), (4, qm_I (qm_i c2_)), (5, qm_I (qm_i 3))]) rfl rfl rfl ?_
        refine qm_d_lk1_3 hS hR hM hst (by decide) (by omega) (by omega) z2 (fun c3_ y3 => ?_)
        have z3 : 0 ≤ c3_ ∧ c3_ ≤ 1000 := by rw [y3]; exact qm_plc_rng z2
        refine qm_G.sp (lv1 := [(0, qm_R (some (0, 2, 0))), (1, qm_I (qm_i 1)), (2, qm_I (qm_i d)), (3, qm_I (qm_i g)), (4, qm_I (qm_i c3_)), (5, qm_I (qm_i (3 + 1)))]) rfl rfl (qm_x_iload rfl) ?_
        refine qm_G.s1 rfl (qm_x_pushI 4 rfl) ?_
        refine qm_G.s1 rfl (qm_x_icmp_ge_t ⟨by decide, by decide⟩ ⟨by decide, by decide⟩ (by decide)) ?_
        refine qm_G.sp (lv1 := [(4, qm_I (qm_i c3_))]) rfl rfl (qm_x_iload rfl) ?_
        exact qm_G.ret rfl rfl (k _ (by unfold qm_ch qm_cho; rw [if_neg (show ¬ d = 6 by omega), i0, i1, i2, i3, ← o1]; rw [← y0, ← y1, ← y2, ← y3]))
      · refine qm_G.s1 rfl (qm_x_pushI 0 rfl) ?_
        exact qm_G.ret rfl rfl (k _ (by rw [show d = 6 by omega, qm_ch6]))
  · have hst : J 2 0 5 = 2 := by omega
    have i0 : J 62 0 (50 + 4 * Int.toNat (J 62 0 6) + 0) = J 62 0 58 := by rw [c6]; rfl
    have i1 : J 62 0 (50 + 4 * Int.toNat (J 62 0 6) + 1) = J 62 0 59 := by rw [c6]; rfl
    have i2 : J 62 0 (50 + 4 * Int.toNat (J 62 0 6) + 2) = J 62 0 60 := by rw [c6]; rfl
    have i3 : J 62 0 (50 + 4 * Int.toNat (J 62 0 6) + 3) = J 62 0 61 := by rw [c6]; rfl
    rcases (show sd = 0 ∨ sd = 1 by omega) with c0 | c0
    · subst c0
      refine qm_C.go (cd := qm_P161) (lv := [(0, qm_R (some (0, 2, 0))), (1, qm_I (qm_i 0)), (2, qm_I (qm_i d)), (3, qm_I (qm_i g))]) rfl rfl ?_
      refine qm_G.s1 rfl (qm_x_iload rfl) ?_
      refine qm_G.s1 rfl (qm_x_pushI 6 rfl) ?_
      refine qm_y_icmp_lt rfl ⟨by omega, by omega⟩ ⟨by decide, by decide⟩ (fun c5 => ?_) (fun c5 => ?_)
      · refine qm_G.sp (lv1 := [(0, qm_R (some (0, 2, 0))), (1, qm_I (qm_i 0)), (2, qm_I (qm_i d)), (3, qm_I (qm_i g))]) rfl rfl (qm_x_aload rfl) ?_
        refine qm_G.s1 rfl (qm_x_getfR (q := (some (0, 4, 0))) (hS 2 rfl) (hR 2 1 4 rfl rfl)) ?_
        refine qm_G.s1 rfl (qm_x_iload rfl) ?_
        refine qm_G.s1 rfl (qm_x_aaldr (q := (some (0, 5, 0))) (hS 4 rfl) rfl rfl (by decide) (by decide) (hR 4 0 5 rfl rfl)) ?_
        refine qm_G.s1 rfl (qm_x_iload rfl) ?_
        refine qm_G.s1 rfl (qm_x_iald (v := (J 5 0 (Int.toNat d))) (qm_arS hS rfl rfl) rfl (by omega) (by omega) (by decide) rfl) ?_
        refine qm_G.s1 rfl (qm_x_istore (lv' := [(4, qm_I (qm_i (J 5 0 (Int.toNat d)))), (0, qm_R (some (0, 2, 0))), (1, qm_I (qm_i 0)), (2, qm_I (qm_i d)), (3, qm_I (qm_i g))]) rfl) ?_
        refine qm_G.s1 rfl (qm_x_pushI 0 rfl) ?_
        refine qm_G.s1 rfl (qm_x_istore (lv' := [(5, qm_I (qm_i 0)), (4, qm_I (qm_i (J 5 0 (Int.toNat d)))), (0, qm_R (some (0, 2, 0))), (1, qm_I (qm_i 0)), (2, qm_I (qm_i d)), (3, qm_I (qm_i g))]) rfl) ?_
        have o0 := hM.odb (Int.toNat d) (by omega)
        have o1 : J 5 0 (Int.toNat d) = J 62 0 (Int.toNat (14 + 6 * 0 + d)) := by rw [o0]; exact congrArg (J 62 0) (by omega)
        have o2 := hM.rod (Int.toNat d + 0) (by omega)
        rw [show 14 + (Int.toNat d + 0) = 14 + Int.toNat d by omega, ← o0] at o2
        refine qm_G.pk (lv1 := [(0, qm_R (some (0, 2, 0))), (1, qm_I (qm_i 0)), (2, qm_I (qm_i d)), (3, qm_I (qm_i g)), (4, qm_I (qm_i (J 5 0 (Int.toNat d)))), (5, qm_I (qm_i 0))]) rfl rfl rfl ?_
        refine qm_d_lk2_0 hS hR hM hst (by decide) (by omega) (by omega) o2 (fun c0_ y0 => ?_)
        have z0 : 0 ≤ c0_ ∧ c0_ ≤ 1000 := by rw [y0]; exact qm_plc_rng o2
        refine qm_G.pk (lv1 := [(0, qm_R (some (0, 2, 0))), (1, qm_I (qm_i 0)), (2, qm_I (qm_i d)), (3, qm_I (qm_i g)), (4, qm_I (qm_i c0_)), (5, qm_I (qm_i 1))]) rfl rfl rfl ?_
        refine qm_d_lk2_1 hS hR hM hst (by decide) (by omega) (by omega) z0 (fun c1_ y1 => ?_)
        have z1 : 0 ≤ c1_ ∧ c1_ ≤ 1000 := by rw [y1]; exact qm_plc_rng z0
        refine qm_G.pk (lv1 := [(0, qm_R (some (0, 2, 0))), (1, qm_I (qm_i 0)), (2, qm_I (qm_i d)), (3, qm_I (qm_i g)), (4, qm_I (qm_i c1_)), (5, qm_I (qm_i 2))]) rfl rfl rfl ?_
        refine qm_d_lk2_2 hS hR hM hst (by decide) (by omega) (by omega) z1 (fun c2_ y2 => ?_)
        have z2 : 0 ≤ c2_ ∧ c2_ ≤ 1000 := by rw [y2]; exact qm_plc_rng z1
        refine qm_G.pk (lv1 := [(0, qm_R (some (0, 2, 0))), (1, qm_I (qm_i 0)), (2, qm_I (qm_i d)), (3, qm_I (qm_i g)), (4, qm_I (qm_i c2_)), (5, qm_I (qm_i 3))]) rfl rfl rfl ?_
        refine qm_d_lk2_3 hS hR hM hst (by decide) (by omega) (by omega) z2 (fun c3_ y3 => ?_)
        have z3 : 0 ≤ c3_ ∧ c3_ ≤ 1000 := by rw [y3]; exact qm_plc_rng z2
        refine qm_G.sp (lv1 := [(0, qm_R (some (0, 2, 0))), (1, qm_I (qm_i 0)), (2, qm_I (qm_i d)), (3, qm_I (qm_i g)), (4, qm_I (qm_i c3_)), (5, qm_I (qm_i (3 + 1)))]) rfl rfl (qm_x_iload rfl) ?_
        refine qm_G.s1 rfl (qm_x_pushI 4 rfl) ?_
        refine qm_G.s1 rfl (qm_x_icmp_ge_t ⟨by decide, by decide⟩ ⟨by decide, by decide⟩ (by decide)) ?_
        refine qm_G.sp (lv1 := [(4, qm_I (qm_i c3_))]) rfl rfl (qm_x_iload rfl) ?_
        exact qm_G.ret rfl rfl (k _ (by unfold qm_ch qm_cho; rw [if_neg (show ¬ d = 6 by omega), i0, i1, i2, i3, ← o1]; rw [← y0, ← y1, ← y2, ← y3]))
      · refine qm_G.s1 rfl (qm_x_pushI 0 rfl) ?_
        exact qm_G.ret rfl rfl (k _ (by rw [show d = 6 by omega, qm_ch6]))
    · subst c0
      refine qm_C.go (cd := qm_P161) (lv := [(0, qm_R (some (0, 2, 0))), (1, qm_I (qm_i 1)), (2, qm_I (qm_i d)), (3, qm_I (qm_i g))]) rfl rfl ?_
      refine qm_G.s1 rfl (qm_x_iload rfl) ?_
      refine qm_G.s1 rfl (qm_x_pushI 6 rfl) ?_
      refine qm_y_icmp_lt rfl ⟨by omega, by omega⟩ ⟨by decide, by decide⟩ (fun c6 => ?_) (fun c6 => ?_)
      · refine qm_G.sp (lv1 := [(0, qm_R (some (0, 2, 0))), (1, qm_I (qm_i 1)), (2, qm_I (qm_i d)), (3, qm_I (qm_i g))]) rfl rfl (qm_x_aload rfl) ?_
        refine qm_G.s1 rfl (qm_x_getfR (q := (some (0, 4, 0))) (hS 2 rfl) (hR 2 1 4 rfl rfl)) ?_
        refine qm_G.s1 rfl (qm_x_iload rfl) ?_
        refine qm_G.s1 rfl (qm_x_aaldr (q := (some (0, 6, 0))) (hS 4 rfl) rfl rfl (by decide) (by decide) (hR 4 1 6 rfl rfl)) ?_
        refine qm_G.s1 rfl (qm_x_iload rfl) ?_
        refine qm_G.s1 rfl (qm_x_iald (v := (J 6 0 (Int.toNat d))) (qm_arS hS rfl rfl) rfl (by omega) (by omega) (by decide) rfl) ?_
        refine qm_G.s1 rfl (qm_x_istore (lv' := [(4, qm_I (qm_i (J 6 0 (Int.toNat d)))), (0, qm_R (some (0, 2, 0))), (1, qm_I (qm_i 1)), (2, qm_I (qm_i d)), (3, qm_I (qm_i g))]) rfl) ?_
        refine qm_G.s1 rfl (qm_x_pushI 0 rfl) ?_
        refine qm_G.s1 rfl (qm_x_istore (lv' := [(5, qm_I (qm_i 0)), (4, qm_I (qm_i (J 6 0 (Int.toNat d)))), (0, qm_R (some (0, 2, 0))), (1, qm_I (qm_i 1)), (2, qm_I (qm_i d)), (3, qm_I (qm_i g))]) rfl) ?_
        have o0 := hM.oda (Int.toNat d) (by omega)
        have o1 : J 6 0 (Int.toNat d) = J 62 0 (Int.toNat (14 + 6 * 1 + d)) := by rw [o0]; exact congrArg (J 62 0) (by omega)
        have o2 := hM.rod (Int.toNat d + 6) (by omega)
        rw [show 14 + (Int.toNat d + 6) = 20 + Int.toNat d by omega, ← o0] at o2
        refine qm_G.pk (lv1 := [(0, qm_R (some (0, 2, 0))), (1, qm_I (qm_i 1)), (2, qm_I (qm_i d)), (3, qm_I (qm_i g)), (4, qm_I (qm_i (J 6 0 (Int.toNat d)))), (5, qm_I (qm_i 0))]) rfl rfl rfl ?_
        refine qm_d_lk2_0 hS hR hM hst (by decide) (by omega) (by omega) o2 (fun c0_ y0 => ?_)
        have z0 : 0 ≤ c0_ ∧ c0_ ≤ 1000 := by rw [y0]; exact qm_plc_rng o2
        refine qm_G.pk (lv1 := [(0, qm_R (some (0, 2, 0))), (1, qm_I (qm_i 1)), (2, qm_I (qm_i d)), (3, qm_I (qm_i g)), (4, qm_I (qm_i c0_)), (5, qm_I (qm_i 1))]) rfl rfl rfl ?_
        refine qm_d_lk2_1 hS hR hM hst (by decide) (by omega) (by omega) z0 (fun c1_ y1 => ?_)
        have z1 : 0 ≤ c1_ ∧ c1_ ≤ 1000 := by rw [y1]; exact qm_plc_rng z0
        refine qm_G.pk (lv1 := [(0, qm_R (some (0, 2, 0))), (1, qm_I (qm_i 1)), (2, qm_I (qm_i d)), (3, qm_I (qm_i g)), (4, qm_I (qm_i c1_)), (5, qm_I (qm_i 2))]) rfl rfl rfl ?_
        refine qm_d_lk2_2 hS hR hM hst (by decide) (by omega) (by omega) z1 (fun c2_ y2 => ?_)
        have z2 : 0 ≤ c2_ ∧ c2_ ≤ 1000 := by rw [y2]; exact qm_plc_rng z1
        refine qm_G.pk (lv1 := [(0, qm_R (some (0, 2, 0))), (1, qm_I (qm_i 1)), (2, qm_I (qm_i d)), (3, qm_I (qm_i g)), (4, qm_I (qm_i c2_)), (5, qm_I (qm_i 3))]) rfl rfl rfl ?_
        refine qm_d_lk2_3 hS hR hM hst (by decide) (by omega) (by omega) z2 (fun c3_ y3 => ?_)
        have z3 : 0 ≤ c3_ ∧ c3_ ≤ 1000 := by rw [y3]; exact qm_plc_rng z2
        refine qm_G.sp (lv1 := [(0, qm_R (some (0, 2, 0))), (1, qm_I (qm_i 1)), (2, qm_I (qm_i d)), (3, qm_I (qm_i g)), (4, qm_I (qm_i c3_)), (5, qm_I (qm_i (3 + 1)))]) rfl rfl (qm_x_iload rfl) ?_
        refine qm_G.s1 rfl (qm_x_pushI 4 rfl) ?_
        refine qm_G.s1 rfl (qm_x_icmp_ge_t ⟨by decide, by decide⟩ ⟨by decide, by decide⟩ (by decide)) ?_
        refine qm_G.sp (lv1 := [(4, qm_I (qm_i c3_))]) rfl rfl (qm_x_iload rfl) ?_
        exact qm_G.ret rfl rfl (k _ (by unfold qm_ch qm_cho; rw [if_neg (show ¬ d = 6 by omega), i0, i1, i2, i3, ← o1]; rw [← y0, ← y1, ← y2, ← y3]))
      · refine qm_G.s1 rfl (qm_x_pushI 0 rfl) ?_
        exact qm_G.ret rfl rfl (k _ (by rw [show d = 6 by omega, qm_ch6]))
theorem qm_m_lk0 {S : List qm_Sh} {J K : qm_J} {L : qm_Ct Int64} {D : qm_Ct UInt64} {R : qm_Ct (Option qm_Rf)} {X : Nat × (Nat → Int32)} {Q : Option qm_V → qm_Hp → Prop} {sd d c : Int} (hS : qm_Sd S) (hR : qm_Rd R) (hN : qm_Nk (J 62 0)) (r0 : 0 ≤ sd ∧ sd ≤ 1) (r1 : 0 ≤ d ∧ d ≤ 5) (r3 : 0 ≤ c ∧ c ≤ 1000) (k : ∀ c9 : Int, c9 = qm_plc (J 62 0) sd d c (J 62 0 (50 + 4 * Int.toNat (J 62 0 6) + 0)) → qm_G qm_P qm_P150 26 [(0, qm_R (some (0, 61, 0))), (1, qm_I (qm_i sd)), (2, qm_I (qm_i d)), (3, qm_I (qm_i c9)), (4, qm_I (qm_i (0 + 1)))] [] (qm_H S J K L D R X) Q) : qm_G qm_P qm_P150 26 [(0, qm_R (some (0, 61, 0))), (1, qm_I (qm_i sd)), (2, qm_I (qm_i d)), (3, qm_I (qm_i c)), (4, qm_I (qm_i 0))] [] (qm_H S J K L D R X) Q := by
  have f62_6 : 0 ≤ J 62 0 6 ∧ J 62 0 6 ≤ 2 := hN.str
  have f62_7 : 0 ≤ J 62 0 7 ∧ J 62 0 7 ≤ 8 := hN.cnt
  refine qm_G.sp (lv1 := [(0, qm_R (some (0, 61, 0))), (1, qm_I (qm_i sd)), (2, qm_I (qm_i d)), (3, qm_I (qm_i c)), (4, qm_I (qm_i 0))]) rfl rfl (qm_x_iload rfl) ?_
  refine qm_G.s1 rfl (qm_x_pushI 4 rfl) ?_
  refine qm_G.s1 rfl (qm_x_icmp_ge_f ⟨by decide, by decide⟩ ⟨by decide, by decide⟩ (by decide)) ?_
  refine qm_G.s1 rfl (qm_x_aload rfl) ?_
  refine qm_G.s1 rfl (qm_x_getfR (q := (some (0, 62, 0))) (hS 61 rfl) (hR 61 0 62 rfl rfl)) ?_
  refine qm_G.s1 rfl (qm_x_pushI 50 rfl) ?_
  refine qm_G.s1 rfl (qm_x_pushI 4 rfl) ?_
  refine qm_G.s1 rfl (qm_x_aload rfl) ?_
  refine qm_G.s1 rfl (qm_x_getfR (q := (some (0, 62, 0))) (hS 61 rfl) (hR 61 0 62 rfl rfl)) ?_
  refine qm_G.s1 rfl (qm_x_pushI 6 rfl) ?_
  refine qm_G.s1 rfl (qm_x_iald (v := (J 62 0 6)) (qm_arS hS rfl rfl) rfl (by decide) (by decide) (by decide) rfl) ?_
  refine qm_G.s1 rfl (qm_x_imul) ?_
  refine qm_G.s1 rfl (qm_x_iadd) ?_
  refine qm_G.s1 rfl (qm_x_iload rfl) ?_
  refine qm_G.s1 rfl (qm_x_iadd) ?_
  have dk := hN.dek (4 * Int.toNat (J 62 0 6) + 0) (by omega)
  rw [show 50 + (4 * Int.toNat (J 62 0 6) + 0) = 50 + 4 * Int.toNat (J 62 0 6) + 0 by omega] at dk
  refine qm_G.s1 rfl (qm_x_iald (v := (J 62 0 (50 + 4 * Int.toNat (J 62 0 6) + 0))) (qm_arS hS rfl rfl) rfl (by omega) (by omega) (by decide) (congrArg (J 62 0) (by omega))) ?_
  refine qm_G.s1 rfl (qm_x_istore (lv' := [(5, qm_I (qm_i (J 62 0 (50 + 4 * Int.toNat (J 62 0 6) + 0)))), (0, qm_R (some (0, 61, 0))), (1, qm_I (qm_i sd)), (2, qm_I (qm_i d)), (3, qm_I (qm_i c)), (4, qm_I (qm_i 0))]) rfl) ?_
  refine qm_G.s1 rfl (qm_x_iload rfl) ?_
  refine qm_y_if_ge rfl ⟨by omega, by omega⟩ (fun c1 => ?_) (fun c1 => ?_)
  · refine qm_G.sp (lv1 := [(0, qm_R (some (0, 61, 0))), (1, qm_I (qm_i sd)), (2, qm_I (qm_i d)), (3, qm_I (qm_i c)), (4, qm_I (qm_i 0)), (5, qm_I (qm_i (J 62 0 (50 + 4 * Int.toNat (J 62 0 6) + 0))))]) rfl rfl (qm_x_aload rfl) ?_
    refine qm_G.s1 rfl (qm_x_iload rfl) ?_
    refine qm_G.s1 rfl (qm_x_iload rfl) ?_
    refine qm_G.s1 rfl (qm_x_iload rfl) ?_
    refine qm_G.cm rfl rfl (hS 61 rfl) rfl ?_
    have g4 := hN.riv (Int.toNat (J 62 0 (50 + 4 * Int.toNat (J 62 0 6) + 0))) (by omega) (by omega)
    refine qm_m_the hS hR (by omega) g4.1 g4.2.1 g4.2.2 (by omega) (by omega) (fun w2 c3 => ⟨_, rfl, ?_⟩)
    have c3r : 0 ≤ w2 ∧ w2 ≤ 6 := by rw [c3]; exact qm_the_rng g4.1 g4.2.1 g4.2.2 (by omega)
    refine qm_G.s1 rfl (qm_x_istore (lv' := [(6, qm_I (qm_i w2)), (0, qm_R (some (0, 61, 0))), (1, qm_I (qm_i sd)), (2, qm_I (qm_i d)), (3, qm_I (qm_i c)), (4, qm_I (qm_i 0)), (5, qm_I (qm_i (J 62 0 (50 + 4 * Int.toNat (J 62 0 6) + 0))))]) rfl) ?_
    refine qm_G.s1 rfl (qm_x_iload rfl) ?_
    refine qm_G.s1 rfl (qm_x_iload rfl) ?_
    refine qm_y_icmp_ge rfl ⟨by omega, by omega⟩ ⟨by omega, by omega⟩ (fun c5 => ?_) (fun c5 => ?_)
    · refine qm_G.sp (lv1 := [(0, qm_R (some (0, 61, 0))), (1, qm_I (qm_i sd)), (2, qm_I (qm_i d)), (3, qm_I (qm_i c)), (4, qm_I (qm_i 0)), (6, qm_I (qm_i w2))]) rfl rfl (qm_x_iload rfl) ?_
      refine qm_G.s1 rfl (qm_x_iload rfl) ?_
      refine qm_y_icmp_ne rfl ⟨by omega, by omega⟩ ⟨by omega, by omega⟩ (fun c6 => ?_) (fun c6 => ?_)
      · refine qm_G.sp (lv1 := [(0, qm_R (some (0, 61, 0))), (1, qm_I (qm_i sd)), (2, qm_I (qm_i d)), (3, qm_I (qm_i c)), (4, qm_I (qm_i 0))]) rfl rfl (qm_x_iinc (lv' := [(4, qm_I (qm_i (0 + 1))), (0, qm_R (some (0, 61, 0))), (1, qm_I (qm_i sd)), (2, qm_I (qm_i d)), (3, qm_I (qm_i c))]) 1 rfl rfl rfl) ?_
        refine qm_G.s1 rfl (qm_x_goto) ?_
        refine qm_G.pk (lv1 := [(0, qm_R (some (0, 61, 0))), (1, qm_I (qm_i sd)), (2, qm_I (qm_i d)), (3, qm_I (qm_i c)), (4, qm_I (qm_i (0 + 1)))]) rfl rfl rfl ?_
        exact k _ (by unfold qm_plc; rw [if_neg (by omega), ← c3]; unfold qm_bes; (repeat' split) <;> omega)
      · refine qm_G.s1 rfl (qm_x_pushI 3 rfl) ?_
        refine qm_G.s1 rfl (qm_x_iload rfl) ?_
        refine qm_G.s1 rfl (qm_x_imul) ?_
        refine qm_G.s1 rfl (qm_x_pushI 4 rfl) ?_
        refine qm_G.s1 rfl (qm_x_idivp ⟨by omega, by omega⟩ (by omega) ⟨by decide, by decide⟩ (by decide)) ?_
        refine qm_G.s1 rfl (qm_x_istore (lv' := [(3, qm_I (qm_i ((3 * c) / 4))), (0, qm_R (some (0, 61, 0))), (1, qm_I (qm_i sd)), (2, qm_I (qm_i d)), (4, qm_I (qm_i 0)), (6, qm_I (qm_i w2))]) rfl) ?_
        refine qm_G.sp (lv1 := [(0, qm_R (some (0, 61, 0))), (1, qm_I (qm_i sd)), (2, qm_I (qm_i d)), (3, qm_I (qm_i ((3 * c) / 4))), (4, qm_I (qm_i 0))]) rfl rfl (qm_x_iinc (lv' := [(4, qm_I (qm_i (0 + 1))), (0, qm_R (some (0, 61, 0))), (1, qm_I (qm_i sd)), (2, qm_I (qm_i d)), (3, qm_I (qm_i ((3 * c) / 4)))]) 1 rfl rfl rfl) ?_
        refine qm_G.s1 rfl (qm_x_goto) ?_
        refine qm_G.pk (lv1 := [(0, qm_R (some (0, 61, 0))), (1, qm_I (qm_i sd)), (2, qm_I (qm_i d)), (3, qm_I (qm_i ((3 * c) / 4))), (4, qm_I (qm_i (0 + 1)))]) rfl rfl rfl ?_
        exact k _ (by unfold qm_plc; rw [if_neg (by omega), ← c3]; unfold qm_bes; (repeat' split) <;> omega)
    · refine qm_G.s1 rfl (qm_x_iload rfl) ?_
      refine qm_G.s1 rfl (qm_x_pushI 2 rfl) ?_
      refine qm_G.s1 rfl (qm_x_idivp ⟨by omega, by omega⟩ (by omega) ⟨by decide, by decide⟩ (by decide)) ?_
      refine qm_G.s1 rfl (qm_x_istore (lv' := [(3, qm_I (qm_i (c / 2))), (6, qm_I (qm_i w2)), (0, qm_R (some (0, 61, 0))), (1, qm_I (qm_i sd)), (2, qm_I (qm_i d)), (4, qm_I (qm_i 0)), (5, qm_I (qm_i (J 62 0 (50 + 4 * Int.toNat (J 62 0 6) + 0))))]) rfl) ?_
      refine qm_G.s1 rfl (qm_x_goto) ?_
      refine qm_G.sp (lv1 := [(0, qm_R (some (0, 61, 0))), (1, qm_I (qm_i sd)), (2, qm_I (qm_i d)), (3, qm_I (qm_i (c / 2))), (4, qm_I (qm_i 0))]) rfl rfl (qm_x_iinc (lv' := [(4, qm_I (qm_i (0 + 1))), (0, qm_R (some (0, 61, 0))), (1, qm_I (qm_i sd)), (2, qm_I (qm_i d)), (3, qm_I (qm_i (c / 2)))]) 1 rfl rfl rfl) ?_
      refine qm_G.s1 rfl (qm_x_goto) ?_
      refine qm_G.pk (lv1 := [(0, qm_R (some (0, 61, 0))), (1, qm_I (qm_i sd)), (2, qm_I (qm_i d)), (3, qm_I (qm_i (c / 2))), (4, qm_I (qm_i (0 + 1)))]) rfl rfl rfl ?_
      exact k _ (by unfold qm_plc; rw [if_neg (by omega), ← c3]; unfold qm_bes; (repeat' split) <;> omega)
  · refine qm_G.s1 rfl (qm_x_goto) ?_
    refine qm_G.sp (lv1 := [(0, qm_R (some (0, 61, 0))), (1, qm_I (qm_i sd)), (2, qm_I (qm_i d)), (3, qm_I (qm_i c)), (4, qm_I (qm_i 0))]) rfl rfl (qm_x_iinc (lv' := [(4, qm_I (qm_i (0 + 1))), (0, qm_R (some (0, 61, 0))), (1, qm_I (qm_i sd)), (2, qm_I (qm_i d)), (3, qm_I (qm_i c))]) 1 rfl rfl rfl) ?_
    refine qm_G.s1 rfl (qm_x_goto) ?_
    refine qm_G.pk (lv1 := [(0, qm_R (some (0, 61, 0))), (1, qm_I (qm_i sd)), (2, qm_I (qm_i d)), (3, qm_I (qm_i c)), (4, qm_I (qm_i (0 + 1)))]) rfl rfl rfl ?_
    exact k _ (by unfold qm_plc; rw [if_pos (by omega)])
theorem qm_m_lk1 {S : List qm_Sh} {J K : qm_J} {L : qm_Ct Int64} {D : qm_Ct UInt64} {R : qm_Ct (Option qm_Rf)} {X : Nat × (Nat → Int32)} {Q : Option qm_V → qm_Hp → Prop} {sd d c : Int} (hS : qm_Sd S) (hR : qm_Rd R) (hN : qm_Nk (J 62 0)) (r0 : 0 ≤ sd ∧ sd ≤ 1) (r1 : 0 ≤ d ∧ d ≤ 5) (r3 : 0 ≤ c ∧ c ≤ 1000) (k : ∀ c9 : Int, c9 = qm_plc (J 62 0) sd d c (J 62 0 (50 + 4 * Int.toNat (J 62 0 6) + 1)) → qm_G qm_P qm_P150 26 [(0, qm_R (some (0, 61, 0))), (1, qm_I (qm_i sd)), (2, qm_I (qm_i d)), (3, qm_I (qm_i c9)), (4, qm_I (qm_i (1 + 1)))] [] (qm_H S J K L D R X) Q) : qm_G qm_P qm_P150 26 [(0, qm_R (some (0, 61, 0))), (1, qm_I (qm_i sd)), (2, qm_I (qm_i d)), (3, qm_I (qm_i c)), (4, qm_I (qm_i 1))] [] (qm_H S J K L D R X) Q := by
  have f62_6 : 0 ≤ J 62 0 6 ∧ J 62 0 6 ≤ 2 := hN.str
  have f62_7 : 0 ≤ J 62 0 7 ∧ J 62 0 7 ≤ 8 := hN.cnt
  refine qm_G.sp (lv1 := [(0, qm_R (some (0, 61, 0))), (1, qm_I (qm_i sd)), (2, qm_I (qm_i d)), (3, qm_I (qm_i c)), (4, qm_I (qm_i 1))]) rfl rfl (qm_x_iload rfl) ?_
  refine qm_G.s1 rfl (qm_x_pushI 4 rfl) ?_
  refine qm_G.s1 rfl (qm_x_icmp_ge_f ⟨by decide, by decide⟩ ⟨by decide, by decide⟩ (by decide)) ?_
  refine qm_G.s1 rfl (qm_x_aload rfl) ?_
  refine qm_G.s1 rfl (qm_x_getfR (q := (some (0, 62, 0))) (hS 61 rfl) (hR 61 0 62 rfl rfl)) ?_
  refine qm_G.s1 rfl (qm_x_pushI 50 rfl) ?_
  refine qm_G.s1 rfl (qm_x_pushI 4 rfl) ?_
  refine qm_G.s1 rfl (qm_x_aload rfl) ?_
  refine qm_G.s1 rfl (qm_x_getfR (q := (some (0, 62, 0))) (hS 61 rfl) (hR 61 0 62 rfl rfl)) ?_
  refine qm_G.s1 rfl (qm_x_pushI 6 rfl) ?_
  refine qm_G.s1 rfl (qm_x_iald (v := (J 62 0 6)) (qm_arS hS rfl rfl) rfl (by decide) (by decide) (by decide) rfl) ?_
  refine qm_G.s1 rfl (qm_x_imul) ?_
  refine qm_G.s1 rfl (qm_x_iadd) ?_
  refine qm_G.s1 rfl (qm_x_iload rfl) ?_
  refine qm_G.s1 rfl (qm_x_iadd) ?_
  have dk := hN.dek (4 * Int.toNat (J 62 0 6) + 1) (by omega)
  rw [show 50 + (4 * Int.toNat (J 62 0 6) + 1) = 50 + 4 * Int.toNat (J 62 0 6) + 1 by omega] at dk
  refine qm_G.s1 rfl (qm_x_iald (v := (J 62 0 (50 + 4 * Int.toNat (J 62 0 6) + 1))) (qm_arS hS rfl rfl) rfl (by omega) (by omega) (by decide) (congrArg (J 62 0) (by omega))) ?_
  refine qm_G.s1 rfl (qm_x_istore (lv' := [(5, qm_I (qm_i (J 62 0 (50 + 4 * Int.toNat (J 62 0 6) + 1)))), (0, qm_R (some (0, 61, 0))), (1, qm_I (qm_i sd)), (2, qm_I (qm_i d)), (3, qm_I (qm_i c)), (4, qm_I (qm_i 1))]) rfl) ?_
  refine qm_G.s1 rfl (qm_x_iload rfl) ?_
  refine qm_y_if_ge rfl ⟨by omega, by omega⟩ (fun c1 => ?_) (fun c1 => ?_)
  · refine qm_G.sp (lv1 := [(0, qm_R (some (0, 61, 0))), (1, qm_I (qm_i sd)), (2, qm_I (qm_i d)), (3, qm_I (qm_i c)), (4, qm_I (qm_i 1)), (5, qm_I (qm_i (J 62 0 (50 + 4 * Int.toNat (J 62 0 6) + 1))))]) rfl rfl (qm_x_aload rfl) ?_
    refine qm_G.s1 rfl (qm_x_iload rfl) ?_
    refine qm_G.s1 rfl (qm_x_iload rfl) ?_
    refine qm_G.s1 rfl (qm_x_iload rfl) ?_
    refine qm_G.cm rfl rfl (hS 61 rfl) rfl ?_
    have g4 := hN.riv (Int.toNat (J 62 0 (50 + 4 * Int.toNat (J 62 0 6) + 1))) (by omega) (by omega)
    refine qm_m_the hS hR (by omega) g4.1 g4.2.1 g4.2.2 (by omega) (by omega) (fun w2 c3 => ⟨_, rfl, ?_⟩)
    have c3r : 0 ≤ w2 ∧ w2 ≤ 6 := by rw [c3]; exact qm_the_rng g4.1 g4.2.1 g4.2.2 (by omega)
    refine qm_G.s1 rfl (qm_x_istore (lv' := [(6, qm_I (qm_i w2)), (0, qm_R (some (0, 61, 0))), (1, qm_I (qm_i sd)), (2, qm_I (qm_i d)), (3, qm_I (qm_i c)), (4, qm_I (qm_i 1)), (5, qm_I (qm_i (J 62 0 (50 + 4 * Int.toNat (J 62 0 6) + 1))))]) rfl) ?_
    refine qm_G.s1 rfl (qm_x_iload rfl) ?_
    refine qm_G.s1 rfl (qm_x_iload rfl) ?_
    refine qm_y_icmp_ge rfl ⟨by omega, by omega⟩ ⟨by omega, by omega⟩ (fun c5 => ?_) (fun c5 => ?_)
    · refine qm_G.sp (lv1 := [(0, qm_R (some (0, 61, 0))), (1, qm_I (qm_i sd)), (2, qm_I (qm_i d)), (3, qm_I (qm_i c)), (4, qm_I (qm_i 1)), (6, qm_I (qm_i w2))]) rfl rfl (qm_x_iload rfl) ?_
      refine qm_G.s1 rfl (qm_x_iload rfl) ?_
      refine qm_y_icmp_ne rfl ⟨by omega, by omega⟩ ⟨by omega, by omega⟩ (fun c6 => ?_) (fun c6 => ?_)
      · refine qm_G.sp (lv1 := [(0, qm_R (some (0, 61, 0))), (1, qm_I (qm_i sd)), (2, qm_I (qm_i d)), (3, qm_I (qm_i c)), (4, qm_I (qm_i 1))]) rfl rfl (qm_x_iinc (lv' := [(4, qm_I (qm_i (1 + 1))), (0, qm_R (some (0, 61, 0))), (1, qm_I (qm_i sd)), (2, qm_I (qm_i d)), (3, qm_I (qm_i c))]) 1 rfl rfl rfl) ?_
        refine qm_G.s1 rfl (qm_x_goto) ?_
        refine qm_G.pk (lv1 := [(0, qm_R (some (0, 61, 0))), (1, qm_I (qm_i sd)), (2, qm_I (qm_i d)), (3, qm_I (qm_i c)), (4, qm_I (qm_i (1 + 1)))]) rfl rfl rfl ?_
        exact k _ (by unfold qm_plc; rw [if_neg (by omega), ← c3]; unfold qm_bes; (repeat' split) <;> omega)
      · refine qm_G.s1 rfl (qm_x_pushI 3 rfl) ?_
        refine qm_G.s1 rfl (qm_x_iload rfl) ?_
        refine qm_G.s1 rfl (qm_x_imul) ?_
        refine qm_G.s1 rfl (qm_x_pushI 4 rfl) ?_
        refine qm_G.s1 rfl (qm_x_idivp ⟨by omega, by omega⟩ (by omega) ⟨by decide, by decide⟩ (by decide)) ?_
        refine qm_G.s1 rfl (qm_x_istore (lv' := [(3, qm_I (qm_i ((3 * c) / 4))), (0, qm_R (some (0, 61, 0))), (1, qm_I (qm_i sd)), (2, qm_I (qm_i d)), (4, qm_I (qm_i 1)), (6, qm_I (qm_i w2))]) rfl) ?_
        refine qm_G.sp (lv1 := [(0, qm_R (some (0, 61, 0))), (1, qm_I (qm_i sd)), (2, qm_I (qm_i d)), (3, qm_I (qm_i ((3 * c) / 4))), (4, qm_I (qm_i 1))]) rfl rfl (qm_x_iinc (lv' := [(4, qm_I (qm_i (1 + 1))), (0, qm_R (some (0, 61, 0))), (1, qm_I (qm_i sd)), (2, qm_I (qm_i d)), (3, qm_I (qm_i ((3 * c) / 4)))]) 1 rfl rfl rfl) ?_
        refine qm_G.s1 rfl (qm_x_goto) ?_
        refine qm_G.pk (lv1 := [(0, qm_R (some (0, 61, 0))), (1, qm_I (qm_i sd)), (2, qm_I (qm_i d)), (3, qm_I (qm_i ((3 * c) / 4))), (4, qm_I (qm_i (1 + 1)))]) rfl rfl rfl ?_
        exact k _ (by unfold qm_plc; rw [if_neg (by omega), ← c3]; unfold qm_bes; (repeat' split) <;> omega)
    · refine qm_G.s1 rfl (qm_x_iload rfl) ?_
      refine qm_G.s1 rfl (qm_x_pushI 2 rfl) ?_
      refine qm_G.s1 rfl (qm_x_idivp ⟨by omega, by omega⟩ (by omega) ⟨by decide, by decide⟩ (by decide)) ?_
      refine qm_G.s1 rfl (qm_x_istore (lv' := [(3, qm_I (qm_i (c / 2))), (6, qm_I (qm_i w2)), (0, qm_R (some (0, 61, 0))), (1, qm_I (qm_i sd)), (2, qm_I (qm_i d)), (4, qm_I (qm_i 1)), (5, qm_I (qm_i (J 62 0 (50 + 4 * Int.toNat (J 62 0 6) + 1))))]) rfl) ?_
      refine qm_G.s1 rfl (qm_x_goto) ?_
      refine qm_G.sp (lv1 := [(0, qm_R (some (0, 61, 0))), (1, qm_I (qm_i sd)), (2, qm_I (qm_i d)), (3, qm_I (qm_i (c / 2))), (4, qm_I (qm_i 1))]) rfl rfl (qm_x_iinc (lv' := [(4, qm_I (qm_i (1 + 1))), (0, qm_R (some (0, 61, 0))), (1, qm_I (qm_i sd)), (2, qm_I (qm_i d)), (3, qm_I (qm_i (c / 2)))]) 1 rfl rfl rfl) ?_
      refine qm_G.s1 rfl (qm_x_goto) ?_
      refine qm_G.pk (lv1 := [(0, qm_R (some (0, 61, 0))), (1, qm_I (qm_i sd)), (2, qm_I (qm_i d)), (3, qm_I (qm_i (c / 2))), (4, qm_I (qm_i (1 + 1)))]) rfl rfl rfl ?_
      exact k _ (by unfold qm_plc; rw [if_neg (by omega), ← c3]; unfold qm_bes; (repeat' split) <;> omega)
  · refine qm_G.s1 rfl (qm_x_goto) ?_
    refine qm_G.sp (lv1 := [(0, qm_R (some (0, 61, 0))), (1, qm_I (qm_i sd)), (2, qm_I (qm_i d)), (3, qm_I (qm_i c)), (4, qm_I (qm_i 1))]) rfl rfl (qm_x_iinc (lv' := [(4, qm_I (qm_i (1 + 1))), (0, qm_R (some (0, 61, 0))), (1, qm_I (qm_i sd)), (2, qm_I (qm_i d)), (3, qm_I (qm_i c))]) 1 rfl rfl rfl) ?_
    refine qm_G.s1 rfl (qm_x_goto) ?_
    refine qm_G.pk (lv1 := [(0, qm_R (some (0, 61, 0))), (1, qm_I (qm_i sd)), (2, qm_I (qm_i d)), (3, qm_I (qm_i c)), (4, qm_I (qm_i (1 + 1)))]) rfl rfl rfl ?_
    exact k _ (by unfold qm_plc; rw [if_pos (by omega)])
theorem qm_m_lk2 {S : List qm_Sh} {J K : qm_J} {L : qm_Ct Int64} {D : qm_Ct UInt64} {R : qm_Ct (Option qm_Rf)} {X : Nat × (Nat → Int32)} {Q : Option qm_V → qm_Hp → Prop} {sd d c : Int} (hS : qm_Sd S) (hR : qm_Rd R) (hN : qm_Nk (J 62 0)) (r0 : 0 ≤ sd ∧ sd ≤ 1) (r1 : 0 ≤ d ∧ d ≤ 5) (r3 : 0 ≤ c ∧ c ≤ 1000) (k : ∀ c9 : Int, c9 = qm_plc (J 62 0) sd d c (J 62 0 (50 + 4 * Int.toNat (J 62 0 6) + 2)) → qm_G qm_P qm_P150 26 [(0, qm_R (some (0, 61, 0))), (1, qm_I (qm_i sd)), (2, qm_I (qm_i d)), (3, qm_I (qm_i c9)), (4, qm_I (qm_i (2 + 1)))] [] (qm_H S J K L D R X) Q) : qm_G qm_P qm_P150 26 [(0, qm_R (some (0, 61, 0))), (1, qm_I (qm_i sd)), (2, qm_I (qm_i d)), (3, qm_I (qm_i c)), (4, qm_I (qm_i 2))] [] (qm_H S J K L D R X) Q := by
  have f62_6 : 0 ≤ J 62 0 6 ∧ J 62 0 6 ≤ 2 := hN.str
  have f62_7 : 0 ≤ J 62 0 7 ∧ J 62 0 7 ≤ 8 := hN.cnt
  refine qm_G.sp (lv1 := [(0, qm_R (some (0, 61, 0))), (1, qm_I (qm_i sd)), (2, qm_I (qm_i d)), (3, qm_I (qm_i c)), (4, qm_I (qm_i 2))]) rfl rfl (qm_x_iload rfl) ?_
  refine qm_G.s1 rfl (qm_x_pushI 4 rfl) ?_
  refine qm_G.s1 rfl (qm_x_icmp_ge_f ⟨by decide, by decide⟩ ⟨by decide, by decide⟩ (by decide)) ?_
  refine qm_G.s1 rfl (qm_x_aload rfl) ?_
  refine qm_G.s1 rfl (qm_x_getfR (q := (some (0, 62, 0))) (hS 61 rfl) (hR 61 0 62 rfl rfl)) ?_
  refine qm_G.s1 rfl (qm_x_pushI 50 rfl) ?_
  refine qm_G.s1 rfl (qm_x_pushI 4 rfl) ?_
  refine qm_G.s1 rfl (qm_x_aload rfl) ?_
  refine qm_G.s1 rfl (qm_x_getfR (q := (some (0, 62, 0))) (hS 61 rfl) (hR 61 0 62 rfl rfl)) ?_
  refine qm_G.s1 rfl (qm_x_pushI 6 rfl) ?_
  refine qm_G.s1 rfl (qm_x_iald (v := (J 62 0 6)) (qm_arS hS rfl rfl) rfl (by decide) (by decide) (by decide) rfl) ?_
  refine qm_G.s1 rfl (qm_x_imul) ?_
  refine qm_G.s1 rfl (qm_x_iadd) ?_
  refine qm_G.s1 rfl (qm_x_iload rfl) ?_
  refine qm_G.s1 rfl (qm_x_iadd) ?_
  have dk := hN.dek (4 * Int.toNat (J 62 0 6) + 2) (by omega)
  rw [show 50 + (4 * Int.toNat (J 62 0 6) + 2) = 50 + 4 * Int.toNat (J 62 0 6) + 2 by omega] at dk
  refine qm_G.s1 rfl (qm_x_iald (v := (J 62 0 (50 + 4 * Int.toNat (J 62 0 6) + 2))) (qm_arS hS rfl rfl) rfl (by omega) (by omega) (by decide) (congrArg (J 62 0) (by omega))) ?_
  refine qm_G.s1 rfl (qm_x_istore (lv' := [(5, qm_I (qm_i (J 62 0 (50 + 4 * Int.toNat (J 62 0 6) + 2)))), (0, qm_R (some (0, 61, 0))), (1, qm_I (qm_i sd)), (2, qm_I (qm_i d)), (3, qm_I (qm_i c)), (4, qm_I (qm_i 2))]) rfl) ?_
  refine qm_G.s1 rfl (qm_x_iload rfl) ?_
  refine qm_y_if_ge rfl ⟨by omega, by omega⟩ (fun c1 => ?_) (fun c1 => ?_)
  · refine qm_G.sp (lv1 := [(0, qm_R (some (0, 61, 0))), (1, qm_I (qm_i sd)), (2, qm_I (qm_i d)), (3, qm_I (qm_i c)), (4, qm_I (qm_i 2)), (5, qm_I (qm_i (J 62 0 (50 + 4 * Int.toNat (J 62 0 6) + 2))))]) rfl rfl (qm_x_aload rfl) ?_
    refine qm_G.s1 rfl (qm_x_iload rfl) ?_
    refine qm_G.s1 rfl (qm_x_iload rfl) ?_
    refine qm_G.s1 rfl (qm_x_iload rfl) ?_
    refine qm_G.cm rfl rfl (hS 61 rfl) rfl ?_
    have g4 := hN.riv (Int.toNat (J 62 0 (50 + 4 * Int.toNat (J 62 0 6) + 2))) (by omega) (by omega)
    refine qm_m_the hS hR (by omega) g4.1 g4.2.1 g4.2.2 (by omega) (by omega) (fun w2 c3 => ⟨_, rfl, ?_⟩)
    have c3r : 0 ≤ w2 ∧ w2 ≤ 6 := by rw [c3]; exact qm_the_rng g4.1 g4.2.1 g4.2.2 (by omega)
    refine qm_G.s1 rfl (qm_x_istore (lv' := [(6, qm_I (qm_i w2)), (0, qm_R (some (0, 61, 0))), (1, qm_I (qm_i sd)), (2, qm_I (qm_i d)), (3, qm_I (qm_i c)), (4, qm_I (qm_i 2)), (5, qm_I (qm_i (J 62 0 (50 + 4 * Int.toNat (J 62 0 6) + 2))))]) rfl) ?_
    refine qm_G.s1 rfl (qm_x_iload rfl) ?_
    refine qm_G.s1 rfl (qm_x_iload rfl) ?_
    refine qm_y_icmp_ge rfl ⟨by omega, by omega⟩ ⟨by omega, by omega⟩ (fun c5 => ?_) (fun c5 => ?_)
    · refine qm_G.sp (lv1 := [(0, qm_R (some (0, 61, 0))), (1, qm_I (qm_i sd)), (2, qm_I (qm_i d)), (3, qm_I (qm_i c)), (4, qm_I (qm_i 2)), (6, qm_I (qm_i w2))]) rfl rfl (qm_x_iload rfl) ?_
      refine qm_G.s1 rfl (qm_x_iload rfl) ?_
      refine qm_y_icmp_ne rfl ⟨by omega, by omega⟩ ⟨by omega, by omega⟩ (fun c6 => ?_) (fun c6 => ?_)
      · refine qm_G.sp (lv1 := [(0, qm_R (some (0, 61, 0))), (1, qm_I (qm_i sd)), (2, qm_I (qm_i d)), (3, qm_I (qm_i c)), (4, qm_I (qm_i 2))]) rfl rfl (qm_x_iinc (lv' := [(4, qm_I (qm_i (2 + 1))), (0, qm_R (some (0, 61, 0))), (1, qm_I (qm_i sd)), (2, qm_I (qm_i d)), (3, qm_I (qm_i c))]) 1 rfl rfl rfl) ?_
        refine qm_G.s1 rfl (qm_x_goto) ?_
        refine qm_G.pk (lv1 := [(0, qm_R (some (0, 61, 0))), (1, qm_I (qm_i sd)), (2, qm_I (qm_i d)), (3, qm_I (qm_i c)), (4, qm_I (qm_i (2 + 1)))]) rfl rfl rfl ?_
        exact k _ (by unfold qm_plc; rw [if_neg (by omega), ← c3]; unfold qm_bes; (repeat' split) <;> omega)
      · refine qm_G.s1 rfl (qm_x_pushI 3 rfl) ?_
        refine qm_G.s1 rfl (qm_x_iload rfl) ?_
        refine qm_G.s1 rfl (qm_x_imul) ?_
        refine qm_G.s1 rfl (qm_x_pushI 4 rfl) ?_
        refine qm_G.s1 rfl (qm_x_idivp ⟨by omega, by omega⟩ (by omega) ⟨by decide, by decide⟩ (by decide)) ?_
        refine qm_G.s1 rfl (qm_x_istore (lv' := [(3, qm_I (qm_i ((3 * c) / 4))), (0, qm_R (some (0, 61, 0))), (1, qm_I (qm_i sd)), (2, qm_I (qm_i d)), (4, qm_I (qm_i 2)), (6, qm_I (qm_i w2))]) rfl) ?_
        refine qm_G.sp (lv1 := [(0, qm_R (some (0, 61, 0))), (1, qm_I (qm_i sd)), (2, qm_I (qm_i d)), (3, qm_I (qm_i ((3 * c) / 4))), (4, qm_I (qm_i 2))]) rfl rfl (qm_x_iinc (lv' := [(4, qm_I (qm_i (2 + 1))), (0, qm_R (some (0, 61, 0))), (1, qm_I (qm_i sd)), (2, qm_I (qm_i d)), (3, qm_I (qm_i ((3 * c) / 4)))]) 1 rfl rfl rfl) ?_
        refine qm_G.s1 rfl (qm_x_goto) ?_
        refine qm_G.pk (lv1 := [(0, qm_R (some (0, 61, 0))), (1, qm_I (qm_i sd)), (2, qm_I (qm_i d)), (3, qm_I (qm_i ((3 * c) / 4))), (4, qm_I (qm_i (2 + 1)))]) rfl rfl rfl ?_
        exact k _ (by unfold qm_plc; rw [if_neg (by omega), ← c3]; unfold qm_bes; (repeat' split) <;> omega)
    · refine qm_G.s1 rfl (qm_x_iload rfl) ?_
      refine qm_G.s1 rfl (qm_x_pushI 2 rfl) ?_
      refine qm_G.s1 rfl (qm_x_idivp ⟨by omega, by omega⟩ (by omega) ⟨by decide, by decide⟩ (by decide)) ?_
      refine qm_G.s1 rfl (qm_x_istore (lv' := [(3, qm_I (qm_i (c / 2))), (6, qm_I (qm_i w2)), (0, qm_R (some (0, 61, 0))), (1, qm_I (qm_i sd)), (2, qm_I (qm_i d)), (4, qm_I (qm_i 2)), (5, qm_I (qm_i (J 62 0 (50 + 4 * Int.toNat (J 62 0 6) + 2))))]) rfl) ?_
      refine qm_G.s1 rfl (qm_x_goto) ?_
      refine qm_G.sp (lv1 := [(0, qm_R (some (0, 61, 0))), (1, qm_I (qm_i sd)), (2, qm_I (qm_i d)), (3, qm_I (qm_i (c / 2))), (4, qm_I (qm_i 2))]) rfl rfl (qm_x_iinc (lv' := [(4, qm_I (qm_i (2 + 1))), (0, qm_R (some (0, 61, 0))), (1, qm_I (qm_i sd)), (2, qm_I (qm_i d)), (3, qm_I (qm_i (c / 2)))]) 1 rfl rfl rfl) ?_
      refine qm_G.s1 rfl (qm_x_goto) ?_
      refine qm_G.pk (lv1 := [(0, qm_R (some (0, 61, 0))), (1, qm_I (qm_i sd)), (2, qm_I (qm_i d)), (3, qm_I (qm_i (c / 2))), (4, qm_I (qm_i (2 + 1)))]) rfl rfl rfl ?_
      exact k _ (by unfold qm_plc; rw [if_neg (by omega), ← c3]; unfold qm_bes; (repeat' split) <;> omega)
  · refine qm_G.s1 rfl (qm_x_goto) ?_
    refine qm_G.sp (lv1 := [(0, qm_R (some (0, 61, 0))), (1, qm_I (qm_i sd)), (2, qm_I (qm_i d)), (3, qm_I (qm_i c)), (4, qm_I (qm_i 2))]) rfl rfl (qm_x_iinc (lv' := [(4, qm_I (qm_i (2 + 1))), (0, qm_R (some (0, 61, 0))), (1, qm_I (qm_i sd)), (2, qm_I (qm_i d)), (3, qm_I (qm_i c))]) 1 rfl rfl rfl) ?_
    refine qm_G.s1 rfl (qm_x_goto) ?_
    refine qm_G.pk (lv1 := [(0, qm_R (some (0, 61, 0))), (1, qm_I (qm_i sd)), (2, qm_I (qm_i d)), (3, qm_I (qm_i c)), (4, qm_I (qm_i (2 + 1)))]) rfl rfl rfl ?_
    exact k _ (by unfold qm_plc; rw [if_pos (by omega)])
theorem qm_m_lk3 {S : List qm_Sh} {J K : qm_J} {L : qm_Ct Int64} {D : qm_Ct UInt64} {R : qm_Ct (Option qm_Rf)} {X : Nat × (Nat → Int32)} {Q : Option qm_V → qm_Hp → Prop} {sd d c : Int} (hS : qm_Sd S) (hR : qm_Rd R) (hN : qm_Nk (J 62 0)) (r0 : 0 ≤ sd ∧ sd ≤ 1) (r1 : 0 ≤ d ∧ d ≤ 5) (r3 : 0 ≤ c ∧ c ≤ 1000) (k : ∀ c9 : Int, c9 = qm_plc (J 62 0) sd d c (J 62 0 (50 + 4 * Int.toNat (J 62 0 6) + 3)) → qm_G qm_P qm_P150 26 [(0, qm_R (some (0, 61, 0))), (1, qm_I (qm_i sd)), (2, qm_I (qm_i d)), (3, qm_I (qm_i c9)), (4, qm_I (qm_i (3 + 1)))] [] (qm_H S J K L D R X) Q) : qm_G qm_P qm_P150 26 [(0, qm_R (some (0, 61, 0))), (1, qm_I (qm_i sd)), (2, qm_I (qm_i d)), (3, qm_I (qm_i c)), (4, qm_I (qm_i 3))] [] (qm_H S J K L D R X) Q := by
  have f62_6 : 0 ≤ J 62 0 6 ∧ J 62 0 6 ≤ 2 := hN.str
  have f62_7 : 0 ≤ J 62 0 7 ∧ J 62 0 7 ≤ 8 := hN.cnt
  refine qm_G.sp (lv1 := [(0, qm_R (some (0, 61, 0))), (1, qm_I (qm_i sd)), (2, qm_I (qm_i d)), (3, qm_I (qm_i c)), (4, qm_I (qm_i 3))]) rfl rfl (qm_x_iload rfl) ?_
  refine qm_G.s1 rfl (qm_x_pushI 4 rfl) ?_
  refine qm_G.s1 rfl (qm_x_icmp_ge_f ⟨by decide, by decide⟩ ⟨by decide, by decide⟩ (by decide)) ?_
  refine qm_G.s1 rfl (qm_x_aload rfl) ?_
  refine qm_G.s1 rfl (qm_x_getfR (q := (some (0, 62, 0))) (hS 61 rfl) (hR 61 0 62 rfl rfl)) ?_
  refine qm_G.s1 rfl (qm_x_pushI 50 rfl) ?_
  refine qm_G.s1 rfl (qm_x_pushI 4 rfl) ?_
  refine qm_G.s1 rfl (qm_x_aload rfl) ?_
  refine qm_G.s1 rfl (qm_x_getfR (q := (some (0, 62, 0))) (hS 61 rfl) (hR 61 0 62 rfl rfl)) ?_
  refine qm_G.s1 rfl (qm_x_pushI 6 rfl) ?_
  refine qm_G.s1 rfl (qm_x_iald (v := (J 62 0 6)) (qm_arS hS rfl rfl) rfl (by decide) (by decide) (by decide) rfl) ?_
  refine qm_G.s1 rfl (qm_x_imul) ?_
  refine qm_G.s1 rfl (qm_x_iadd) ?_
  refine qm_G.s1 rfl (qm_x_iload rfl) ?_
  refine qm_G.s1 rfl (qm_x_iadd) ?_
  have dk := hN.dek (4 * Int.toNat (J 62 0 6) + 3) (by omega)
  rw [show 50 + (4 * Int.toNat (J 62 0 6) + 3) = 50 + 4 * Int.toNat (J 62 0 6) + 3 by omega] at dk
  refine qm_G.s1 rfl (qm_x_iald (v := (J 62 0 (50 + 4 * Int.toNat (J 62 0 6) + 3))) (qm_arS hS rfl rfl) rfl (by omega) (by omega) (by decide) (congrArg (J 62 0) (by omega))) ?_
  refine qm_G.s1 rfl (qm_x_istore (lv' := [(5, qm_I (qm_i (J 62 0 (50 + 4 * Int.toNat (J 62 0 6) + 3)))), (0, qm_R (some (0, 61, 0))), (1, qm_I (qm_i sd)), (2, qm_I (qm_i d)), (3, qm_I (qm_i c)), (4, qm_I (qm_i 3))]) rfl) ?_
  refine qm_G.s1 rfl (qm_x_iload rfl) ?_
  refine qm_y_if_ge rfl ⟨by omega, by omega⟩ (fun c1 => ?_) (fun c1 => ?_)
  · refine qm_G.sp (lv1 := [(0, qm_R (some (0, 61, 0))), (1, qm_I (qm_i sd)), (2, qm_I (qm_i d)), (3, qm_I (qm_i c)), (4, qm_I (qm_i 3)), (5, qm_I (qm_i (J 62 0 (50 + 4 * Int.toNat (J 62 0 6) + 3))))]) rfl rfl (qm_x_aload rfl) ?_
    refine qm_G.s1 rfl (qm_x_iload rfl) ?_
    refine qm_G.s1 rfl (qm_x_iload rfl) ?_
    refine qm_G.s1 rfl (qm_x_iload rfl) ?_
    refine qm_G.cm rfl rfl (hS 61 rfl) rfl ?_
    have g4 := hN.riv (Int.toNat (J 62 0 (50 + 4 * Int.toNat (J 62 0 6) + 3))) (by omega) (by omega)
    refine qm_m_the hS hR (by omega) g4.1 g4.2.1 g4.2.2 (by omega) (by omega) (fun w2 c3 => ⟨_, rfl, ?_⟩)
    have c3r : 0 ≤ w2 ∧ w2 ≤ 6 := by rw [c3]; exact qm_the_rng g4.1 g4.2.1 g4.2.2 (by omega)
    refine qm_G.s1 rfl (qm_x_istore (lv' := [(6, qm_I (qm_i w2)), (0, qm_R (some (0, 61, 0))), (1, qm_I (qm_i sd)), (2, qm_I (qm_i d)), (3, qm_I (qm_i c)), (4, qm_I (qm_i 3)), (5, qm_I (qm_i (J 62 0 (50 + 4 * Int.toNat (J 62 0 6) + 3))))]) rfl) ?_
    refine qm_G.s1 rfl (qm_x_iload rfl) ?_
    refine qm_G.s1 rfl (qm_x_iload rfl) ?_
    refine qm_y_icmp_ge rfl ⟨by omega, by omega⟩ ⟨by omega, by omega⟩ (fun c5 => ?_) (fun c5 => ?_)
    · refine qm_G.sp (lv1 := [(0, qm_R (some (0, 61, 0))), (1, qm_I (qm_i sd)), (2, qm_I (qm_i d)), (3, qm_I (qm_i c)), (4, qm_I (qm_i 3)), (6, qm_I (qm_i w2))]) rfl rfl (qm_x_iload rfl) ?_
      refine qm_G.s1 rfl (qm_x_iload rfl) ?_
      refine qm_y_icmp_ne rfl ⟨by omega, by omega⟩ ⟨by omega, by omega⟩ (fun c6 => ?_) (fun c6 => ?_)
      · refine qm_G.sp (lv1 := [(0, qm_R (some (0, 61, 0))), (1, qm_I (qm_i sd)), (2, qm_I (qm_i d)), (3, qm_I (qm_i c)), (4, qm_I (qm_i 3))]) rfl rfl (qm_x_iinc (lv' := [(4, qm_I (qm_i (3 + 1))), (0, qm_R (some (0, 61, 0))), (1, qm_I (qm_i sd)), (2, qm_I (qm_i d)), (3, qm_I (qm_i c))]) 1 rfl rfl rfl) ?_
        refine qm_G.s1 rfl (qm_x_goto) ?_
        refine qm_G.pk (lv1 := [(0, qm_R (some (0, 61, 0))), (1, qm_I (qm_i sd)), (2, qm_I (qm_i d)), (3, qm_I (qm_i c)), (4, qm_I (qm_i (3 + 1)))]) rfl rfl rfl ?_
        exact k _ (by unfold qm_plc; rw [if_neg (by omega), ← c3]; unfold qm_bes; (repeat' split) <;> omega)
      · refine qm_G.s1 rfl (qm_x_pushI 3 rfl) ?_
        refine qm_G.s1 rfl (qm_x_iload rfl) ?_
        refine qm_G.s1 rfl (qm_x_imul) ?_
        refine qm_G.s1 rfl (qm_x_pushI 4 rfl) ?_
        refine qm_G.s1 rfl (qm_x_idivp ⟨by omega, by omega⟩ (by omega) ⟨by decide, by decide⟩ (by decide)) ?_
        refine qm_G.s1 rfl (qm_x_istore (lv' := [(3, qm_I (qm_i ((3 * c) / 4))), (0, qm_R (some (0, 61, 0))), (1, qm_I (qm_i sd)), (2, qm_I (qm_i d)), (4, qm_I (qm_i 3)), (6, qm_I (qm_i w2))]) rfl) ?_
        refine qm_G.sp (lv1 := [(0, qm_R (some (0, 61, 0))), (1, qm_I (qm_i sd)), (2, qm_I (qm_i d)), (3, qm_I (qm_i ((3 * c) / 4))), (4, qm_I (qm_i 3))]) rfl rfl (qm_x_iinc (lv' := [(4, qm_I (qm_i (3 + 1))), (0, qm_R (some (0, 61, 0))), (1, qm_I (qm_i sd)), (2, qm_I (qm_i d)), (3, qm_I (qm_i ((3 * c) / 4)))]) 1 rfl rfl rfl) ?_
        refine qm_G.s1 rfl (qm_x_goto) ?_
        refine qm_G.pk (lv1 := [(0, qm_R (some (0, 61, 0))), (1, qm_I (qm_i sd)), (2, qm_I (qm_i d)), (3, qm_I (qm_i ((3 * c) / 4))), (4, qm_I (qm_i (3 + 1)))]) rfl rfl rfl ?_
        exact k _ (by unfold qm_plc; rw [if_neg (by omega), ← c3]; unfold qm_bes; (repeat' split) <;> omega)
    · refine qm_G.s1 rfl (qm_x_iload rfl) ?_
      refine qm_G.s1 rfl (qm_x_pushI 2 rfl) ?_
      refine qm_G.s1 rfl (qm_x_idivp ⟨by omega, by omega⟩ (by omega) ⟨by decide, by decide⟩ (by decide)) ?_
      refine qm_G.s1 rfl (qm_x_istore (lv' := [(3, qm_I (qm_i (c / 2))), (6, qm_I (qm_i w2)), (0, qm_R (some (0, 61, 0))), (1, qm_I (qm_i sd)), (2, qm_I (qm_i d)), (4, qm_I (qm_i 3)), (5, qm_I (qm_i (J 62 0 (50 + 4 * Int.toNat (J 62 0 6) + 3))))]) rfl) ?_
      refine qm_G.s1 rfl (qm_x_goto) ?_
      refine qm_G.sp (lv1 := [(0, qm_R (some (0, 61, 0))), (1, qm_I (qm_i sd)), (2, qm_I (qm_i d)), (3, qm_I (qm_i (c / 2))), (4, qm_I (qm_i 3))]) rfl rfl (qm_x_iinc (lv' := [(4, qm_I (qm_i (3 + 1))), (0, qm_R (some (0, 61, 0))), (1, qm_I (qm_i sd)), (2, qm_I (qm_i d)), (3, qm_I (qm_i (c / 2)))]) 1 rfl rfl rfl) ?_
      refine qm_G.s1 rfl (qm_x_goto) ?_
      refine qm_G.pk (lv1 := [(0, qm_R (some (0, 61, 0))), (1, qm_I (qm_i sd)), (2, qm_I (qm_i d)), (3, qm_I (qm_i (c / 2))), (4, qm_I (qm_i (3 + 1)))]) rfl rfl rfl ?_
      exact k _ (by unfold qm_plc; rw [if_neg (by omega), ← c3]; unfold qm_bes; (repeat' split) <;> omega)
  · refine qm_G.s1 rfl (qm_x_goto) ?_
    refine qm_G.sp (lv1 := [(0, qm_R (some (0, 61, 0))), (1, qm_I (qm_i sd)), (2, qm_I (qm_i d)), (3, qm_I (qm_i c)), (4, qm_I (qm_i 3))]) rfl rfl (qm_x_iinc (lv' := [(4, qm_I (qm_i (3 + 1))), (0, qm_R (some (0, 61, 0))), (1, qm_I (qm_i sd)), (2, qm_I (qm_i d)), (3, qm_I (qm_i c))]) 1 rfl rfl rfl) ?_
    refine qm_G.s1 rfl (qm_x_goto) ?_
    refine qm_G.pk (lv1 := [(0, qm_R (some (0, 61, 0))), (1, qm_I (qm_i sd)), (2, qm_I (qm_i d)), (3, qm_I (qm_i c)), (4, qm_I (qm_i (3 + 1)))]) rfl rfl rfl ?_
    exact k _ (by unfold qm_plc; rw [if_pos (by omega)])
theorem qm_m_cho {S : List qm_Sh} {J K : qm_J} {L : qm_Ct Int64} {D : qm_Ct UInt64} {R : qm_Ct (Option qm_Rf)} {X : Nat × (Nat → Int32)} {Q : Option qm_V → qm_Hp → Prop} {sd d : Int} (hS : qm_Sd S) (hR : qm_Rd R) (hN : qm_Nk (J 62 0)) (r0 : 0 ≤ sd ∧ sd ≤ 1) (r1 : 0 ≤ d ∧ d ≤ 6) (k : ∀ w : Int, w = qm_ch (J 62 0) 0 sd d → Q (some (qm_I (qm_i w))) (qm_H S J K L D R X)) : qm_C qm_P 150 [qm_R (some (0, 61, 0)), qm_I (qm_i sd), qm_I (qm_i d)] (qm_H S J K L D R X) Q := by
  refine qm_C.go (cd := qm_P150) (lv := [(0, qm_R (some (0, 61, 0))), (1, qm_I (qm_i sd)), (2, qm_I (qm_i d))]) rfl rfl ?_
  have f62_6 : 0 ≤ J 62 0 6 ∧ J 62 0 6 ≤ 2 := hN.str
  have f62_7 : 0 ≤ J 62 0 7 ∧ J 62 0 7 ≤ 8 := hN.cnt
  refine qm_G.s1 rfl (qm_x_iload rfl) ?_
  refine qm_G.s1 rfl (qm_x_pushI 6 rfl) ?_
  refine qm_y_icmp_ne rfl ⟨by omega, by omega⟩ ⟨by decide, by decide⟩ (fun c1 => ?_) (fun c1 => ?_)
  · refine qm_G.sp (lv1 := [(0, qm_R (some (0, 61, 0))), (1, qm_I (qm_i sd)), (2, qm_I (qm_i d))]) rfl rfl (qm_x_aload rfl) ?_
    refine qm_G.s1 rfl (qm_x_getfR (q := (some (0, 62, 0))) (hS 61 rfl) (hR 61 0 62 rfl rfl)) ?_
    refine qm_G.s1 rfl (qm_x_pushI 14 rfl) ?_
    refine qm_G.s1 rfl (qm_x_pushI 6 rfl) ?_
    refine qm_G.s1 rfl (qm_x_iload rfl) ?_
    refine qm_G.s1 rfl (qm_x_imul) ?_
    refine qm_G.s1 rfl (qm_x_iadd) ?_
    refine qm_G.s1 rfl (qm_x_iload rfl) ?_
    refine qm_G.s1 rfl (qm_x_iadd) ?_
    refine qm_G.s1 rfl (qm_x_iald (v := (J 62 0 (Int.toNat (14 + 6 * sd + d)))) (qm_arS hS rfl rfl) rfl (by omega) (by omega) (by decide) (congrArg (J 62 0) (by omega))) ?_
    refine qm_G.s1 rfl (qm_x_istore (lv' := [(3, qm_I (qm_i (J 62 0 (Int.toNat (14 + 6 * sd + d))))), (0, qm_R (some (0, 61, 0))), (1, qm_I (qm_i sd)), (2, qm_I (qm_i d))]) rfl) ?_
    refine qm_G.s1 rfl (qm_x_pushI 0 rfl) ?_
    refine qm_G.s1 rfl (qm_x_istore (lv' := [(4, qm_I (qm_i 0)), (3, qm_I (qm_i (J 62 0 (Int.toNat (14 + 6 * sd + d))))), (0, qm_R (some (0, 61, 0))), (1, qm_I (qm_i sd)), (2, qm_I (qm_i d))]) rfl) ?_
    have o2 := hN.odd (Int.toNat (6 * sd + d)) (by omega)
    rw [show 14 + Int.toNat (6 * sd + d) = Int.toNat (14 + 6 * sd + d) by omega] at o2
    refine qm_G.pk (lv1 := [(0, qm_R (some (0, 61, 0))), (1, qm_I (qm_i sd)), (2, qm_I (qm_i d)), (3, qm_I (qm_i (J 62 0 (Int.toNat (14 + 6 * sd + d))))), (4, qm_I (qm_i 0))]) rfl rfl rfl ?_
    refine qm_m_lk0 hS hR hN (by omega) (by omega) o2 (fun c0_ y0 => ?_)
    have z0 : 0 ≤ c0_ ∧ c0_ ≤ 1000 := by rw [y0]; exact qm_plc_rng o2
    refine qm_G.pk (lv1 := [(0, qm_R (some (0, 61, 0))), (1, qm_I (qm_i sd)), (2, qm_I (qm_i d)), (3, qm_I (qm_i c0_)), (4, qm_I (qm_i 1))]) rfl rfl rfl ?_
    refine qm_m_lk1 hS hR hN (by omega) (by omega) z0 (fun c1_ y1 => ?_)
    have z1 : 0 ≤ c1_ ∧ c1_ ≤ 1000 := by rw [y1]; exact qm_plc_rng z0
    refine qm_G.pk (lv1 := [(0, qm_R (some (0, 61, 0))), (1, qm_I (qm_i sd)), (2, qm_I (qm_i d)), (3, qm_I (qm_i c1_)), (4, qm_I (qm_i 2))]) rfl rfl rfl ?_
    refine qm_m_lk2 hS hR hN (by omega) (by omega) z1 (fun c2_ y2 => ?_)
    have z2 : 0 ≤ c2_ ∧ c2_ ≤ 1000 := by rw [y2]; exact qm_plc_rng z1
    refine qm_G.pk (lv1 := [(0, qm_R (some (0, 61, 0))), (1, qm_I (qm_i sd)), (2, qm_I (qm_i d)), (3, qm_I (qm_i c2_)), (4, qm_I (qm_i 3))]) rfl rfl rfl ?_
    refine qm_m_lk3 hS hR hN (by omega) (by omega) z2 (fun c3_ y3 => ?_)
    have z3 : 0 ≤ c3_ ∧ c3_ ≤ 1000 := by rw [y3]; exact qm_plc_rng z2
    refine qm_G.sp (lv1 := [(0, qm_R (some (0, 61, 0))), (1, qm_I (qm_i sd)), (2, qm_I (qm_i d)), (3, qm_I (qm_i c3_)), (4, qm_I (qm_i (3 + 1)))]) rfl rfl (qm_x_iload rfl) ?_
    refine qm_G.s1 rfl (qm_x_pushI 4 rfl) ?_
    refine qm_G.s1 rfl (qm_x_icmp_ge_t ⟨by decide, by decide⟩ ⟨by decide, by decide⟩ (by decide)) ?_
    refine qm_G.sp (lv1 := [(3, qm_I (qm_i c3_))]) rfl rfl (qm_x_iload rfl) ?_
    exact qm_G.ret rfl rfl (k _ (by unfold qm_ch qm_cho; rw [if_neg (show ¬ d = 6 by omega), if_neg (by decide), if_neg (by decide), if_neg (by decide), if_neg (by decide)]; rw [← y0, ← y1, ← y2, ← y3]))
  · refine qm_G.s1 rfl (qm_x_pushI 0 rfl) ?_
    exact qm_G.ret rfl rfl (k _ (by rw [show d = 6 by omega, qm_ch6]))
