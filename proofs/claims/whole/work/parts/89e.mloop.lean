/-! READING: the model's loop -/
def qm_Mf (J J1 : qm_J) : Prop := ∀ r s i, ¬ (r = 61 ∧ (i = 16 ∨ i = 17)) → r ≠ 70 → r ≠ 71 → J1 r s i = J r s i
def qm_Ma (T : Nat → Int) (ln : Int) (J J1 : qm_J) (n : Nat) : Prop := qm_Mf J J1 ∧ ∀ i, i < n → J1 70 0 i = (qm_ok T ln (qm_oa T ln i) : Int) ∧ J1 71 0 i = qm_ov T ln (qm_oa T ln i)
theorem qm_Ma.push {T : Nat → Int} {ln : Int} {J J1 J2 : qm_J} {n : Nat} {x : Int} (h : qm_Ma T ln J J1 n) (hx : x = (n : Int)) (f : ∀ r s i, ¬ (r = 61 ∧ (i = 16 ∨ i = 17)) → ¬ ((r = 70 ∨ r = 71) ∧ i = Int.toNat x) → J2 r s i = J1 r s i) (u : J2 70 0 (Int.toNat x) = (qm_ok T ln (qm_oa T ln n) : Int)) (v : J2 71 0 (Int.toNat x) = qm_ov T ln (qm_oa T ln n)) : qm_Ma T ln J J2 (n + 1) := by
  have h9 : Int.toNat x = n := by omega
  rw [h9] at u v
  refine ⟨fun r s i a b c => (f r s i a (by omega)).trans (h.1 r s i a b c), fun i hi => ?_⟩
  by_cases c : i = n
  · subst c; exact ⟨u, v⟩
  · rw [f 70 0 i (by omega) (by omega), f 71 0 i (by omega) (by omega)]; exact h.2 i (by omega)
theorem qm_Ma.mov {T : Nat → Int} {ln : Int} {J J1 J2 : qm_J} {n : Nat} (h : qm_Ma T ln J J1 n) (f : ∀ r s i, ¬ (r = 61 ∧ (i = 16 ∨ i = 17)) → J2 r s i = J1 r s i) : qm_Ma T ln J J2 n :=
  ⟨fun r s i a b c => (f r s i a).trans (h.1 r s i a b c), fun i hi => by rw [f 70 0 i (by omega), f 71 0 i (by omega)]; exact h.2 i hi⟩
theorem qm_m_rdl {S : List qm_Sh} {K : qm_J} {L : qm_Ct Int64} {D : qm_Ct UInt64} {R : qm_Ct (Option qm_Rf)} {X : Nat × (Nat → Int32)} {Q : Option qm_V → qm_Hp → Prop} {T : Nat → Int} {ln : Int} {J : qm_J} {N : Nat} {F : Int} (hS : qm_Sd S) (hR : qm_Rd R) (hT : ∀ i, i < 100 → J 69 0 i = T i ∧ 0 ≤ T i ∧ T i ≤ 127) (rl : 0 ≤ ln ∧ ln ≤ 100) (hl : J 61 0 12 = ln) (hO : qm_oF T ln N F) (kf : ∀ (J1 : qm_J) (x : Int), F ≠ -1 → qm_Mf J J1 → J1 61 0 17 = F → qm_G qm_P qm_P209 106 [(0, qm_R (some (0, 61, 0))), (1, qm_I (qm_i x)), (3, qm_I (qm_i 0))] [] (qm_H S J1 K L D R X) Q) (ks : ∀ J1 : qm_J, F = -1 → qm_Ma T ln J J1 (N + 1) → qm_G qm_P qm_P209 106 [(0, qm_R (some (0, 61, 0))), (1, qm_I (qm_i ((N + 1 : Nat) : Int))), (3, qm_I (qm_i 1))] [] (qm_H S J1 K L D R X) Q) : ∀ (m n : Nat) (x : Int) (J1 : qm_J), n + m = N → x = (n : Int) → qm_Ma T ln J J1 n → J1 61 0 16 = (qm_oa T ln n : Int) → qm_G qm_P qm_P209 11 [(0, qm_R (some (0, 61, 0))), (1, qm_I (qm_i x)), (2, qm_I (qm_i 1)), (3, qm_I (qm_i 1))] [] (qm_H S J1 K L D R X) Q := by
  intro m
  induction m with
  | zero =>
    intro n x J1 hn hx hM h16
    obtain rfl : n = N := by omega
    have n11 := hO.2.1
    have ha := (qm_oa_ln rl.1 n (fun i h => hO.1 i (by omega))).1
    have r9 := qm_o_rng (T := T) ha
    have hT1 : ∀ i, i < 100 → J1 69 0 i = T i ∧ 0 ≤ T i ∧ T i ≤ 127 := fun i h => by rw [hM.1 69 0 i (by omega) (by omega) (by omega)]; exact hT i h
    have hl1 : J1 61 0 12 = ln := (hM.1 61 0 12 (by omega) (by omega) (by omega)).trans hl
    rcases hO.2.2 with hA | hB | hC | hD | hE
    · have hc2 := hA.2
      refine qm_G.pk (lv1 := [(0, qm_R (some (0, 61, 0))), (1, qm_I (qm_i x)), (2, qm_I (qm_i 1)), (3, qm_I (qm_i 1))]) rfl rfl rfl ?_
      refine qm_G.sp (lv1 := [(0, qm_R (some (0, 61, 0))), (1, qm_I (qm_i x)), (2, qm_I (qm_i 1)), (3, qm_I (qm_i 1))]) rfl rfl (qm_x_iload rfl) ?_
      refine qm_G.s1 rfl (qm_x_if_eq_f ⟨by decide, by decide⟩ (by decide)) ?_
      refine qm_G.s1 rfl (qm_x_iload rfl) ?_
      refine qm_G.s1 rfl (qm_x_if_eq_f ⟨by decide, by decide⟩ (by decide)) ?_
      refine qm_G.s1 rfl (qm_x_aload rfl) ?_
      refine qm_G.s1 rfl (qm_x_iload rfl) ?_
      refine qm_G.cm rfl rfl (hS 61 rfl) rfl ?_
      refine qm_m_iso (a := qm_oa T ln n) hS hR hT1 rl hl1 ⟨by omega, by omega⟩ h16 ha (fun c1 J2 f2 g2 => ⟨_, rfl, ?_⟩) (fun c2 _ => absurd hA.1 c2) (fun c1 => absurd hA.1 c1.1)
      have hT2 : ∀ i, i < 100 → J2 69 0 i = T i ∧ 0 ≤ T i ∧ T i ≤ 127 := fun i h => by rw [f2 69 0 i (by omega) (by omega)]; exact hT1 i h
      have hl2 : J2 61 0 12 = ln := (f2 61 0 12 (by omega) (by omega)).trans hl1
      refine qm_G.s1 rfl (qm_x_istore (lv' := [(3, qm_I (qm_i 0)), (0, qm_R (some (0, 61, 0))), (1, qm_I (qm_i x)), (2, qm_I (qm_i 1))]) rfl) ?_
      refine qm_G.s1 rfl (qm_x_iload rfl) ?_
      refine qm_G.s1 rfl (qm_x_if_ne_f ⟨by decide, by decide⟩ (by decide)) ?_
      refine qm_G.s1 rfl (qm_x_goto) ?_
      refine qm_G.pk (lv1 := [(0, qm_R (some (0, 61, 0))), (1, qm_I (qm_i x)), (3, qm_I (qm_i 0))]) rfl rfl rfl ?_
      exact kf J2 _ (by omega) (fun r s i a b c => (f2 r s i a (by omega)).trans (hM.1 r s i a b c)) (g2.trans (by omega))
    · have hc2 := hB.2.2
      refine qm_G.pk (lv1 := [(0, qm_R (some (0, 61, 0))), (1, qm_I (qm_i x)), (2, qm_I (qm_i 1)), (3, qm_I (qm_i 1))]) rfl rfl rfl ?_
      refine qm_G.sp (lv1 := [(0, qm_R (some (0, 61, 0))), (1, qm_I (qm_i x)), (2, qm_I (qm_i 1)), (3, qm_I (qm_i 1))]) rfl rfl (qm_x_iload rfl) ?_
      refine qm_G.s1 rfl (qm_x_if_eq_f ⟨by decide, by decide⟩ (by decide)) ?_
      refine qm_G.s1 rfl (qm_x_iload rfl) ?_
      refine qm_G.s1 rfl (qm_x_if_eq_f ⟨by decide, by decide⟩ (by decide)) ?_
      refine qm_G.s1 rfl (qm_x_aload rfl) ?_
      refine qm_G.s1 rfl (qm_x_iload rfl) ?_
      refine qm_G.cm rfl rfl (hS 61 rfl) rfl ?_
      refine qm_m_iso (a := qm_oa T ln n) hS hR hT1 rl hl1 ⟨by omega, by omega⟩ h16 ha (fun c1 => absurd c1 hB.1) (fun c1 c2 J2 f2 g2 => ⟨_, rfl, ?_⟩) (fun c1 => absurd c1.2 hB.2.1)
      have hT2 : ∀ i, i < 100 → J2 69 0 i = T i ∧ 0 ≤ T i ∧ T i ≤ 127 := fun i h => by rw [f2 69 0 i (by omega) (by omega)]; exact hT1 i h
      have hl2 : J2 61 0 12 = ln := (f2 61 0 12 (by omega) (by omega)).trans hl1
      refine qm_G.s1 rfl (qm_x_istore (lv' := [(3, qm_I (qm_i 0)), (0, qm_R (some (0, 61, 0))), (1, qm_I (qm_i x)), (2, qm_I (qm_i 1))]) rfl) ?_
      refine qm_G.s1 rfl (qm_x_iload rfl) ?_
      refine qm_G.s1 rfl (qm_x_if_ne_f ⟨by decide, by decide⟩ (by decide)) ?_
      refine qm_G.s1 rfl (qm_x_goto) ?_
      refine qm_G.pk (lv1 := [(0, qm_R (some (0, 61, 0))), (1, qm_I (qm_i x)), (3, qm_I (qm_i 0))]) rfl rfl rfl ?_
      exact kf J2 _ (by omega) (fun r s i a b c => (f2 r s i a (by omega)).trans (hM.1 r s i a b c)) (g2.trans (by omega))
    · have hw := hC.1
      have hc2 := hC.2.1
      have hc3 := hC.2.2.1
      have hc4 := hC.2.2.2
      refine qm_G.pk (lv1 := [(0, qm_R (some (0, 61, 0))), (1, qm_I (qm_i x)), (2, qm_I (qm_i 1)), (3, qm_I (qm_i 1))]) rfl rfl rfl ?_
      refine qm_G.sp (lv1 := [(0, qm_R (some (0, 61, 0))), (1, qm_I (qm_i x)), (2, qm_I (qm_i 1)), (3, qm_I (qm_i 1))]) rfl rfl (qm_x_iload rfl) ?_
      refine qm_G.s1 rfl (qm_x_if_eq_f ⟨by decide, by decide⟩ (by decide)) ?_
      refine qm_G.s1 rfl (qm_x_iload rfl) ?_
      refine qm_G.s1 rfl (qm_x_if_eq_f ⟨by decide, by decide⟩ (by decide)) ?_
      refine qm_G.s1 rfl (qm_x_aload rfl) ?_
      refine qm_G.s1 rfl (qm_x_iload rfl) ?_
      refine qm_G.cm rfl rfl (hS 61 rfl) rfl ?_
      refine qm_m_iso (a := qm_oa T ln n) hS hR hT1 rl hl1 ⟨by omega, by omega⟩ h16 ha (fun c1 => absurd c1 hw.1) (fun _ c2 => absurd hw.2 c2) (fun c1 J2 f2 g2 u2 v2 => ⟨_, rfl, ?_⟩)
      have hT2 : ∀ i, i < 100 → J2 69 0 i = T i ∧ 0 ≤ T i ∧ T i ≤ 127 := fun i h => by rw [f2 69 0 i (by omega) (by omega)]; exact hT1 i h
      have hl2 : J2 61 0 12 = ln := (f2 61 0 12 (by omega) (by omega)).trans hl1
      refine qm_G.s1 rfl (qm_x_istore (lv' := [(3, qm_I (qm_i 1)), (0, qm_R (some (0, 61, 0))), (1, qm_I (qm_i x)), (2, qm_I (qm_i 1))]) rfl) ?_
      refine qm_G.s1 rfl (qm_x_iload rfl) ?_
      refine qm_G.s1 rfl (qm_x_if_ne_t ⟨by decide, by decide⟩ (by decide)) ?_
      refine qm_G.sp (lv1 := [(0, qm_R (some (0, 61, 0))), (1, qm_I (qm_i x)), (3, qm_I (qm_i 1))]) rfl rfl (qm_x_iinc (lv' := [(1, qm_I (qm_i (x + 1))), (0, qm_R (some (0, 61, 0))), (3, qm_I (qm_i 1))]) 1 rfl rfl rfl) ?_
      refine qm_G.s1 rfl (qm_x_aload rfl) ?_
      refine qm_G.s1 rfl (qm_x_getfI (v := (qm_og T ln (qm_oa T ln n) : Int)) (hS 61 rfl) g2) ?_
      refine qm_G.s1 rfl (qm_x_aload rfl) ?_
      refine qm_G.s1 rfl (qm_x_getfI (v := ln) (hS 61 rfl) hl2) ?_
      refine qm_G.s1 rfl (qm_x_icmp_ge_f ⟨by omega, by omega⟩ ⟨by omega, by omega⟩ (by omega)) ?_
      refine qm_G.s1 rfl (qm_x_pushI 1 rfl) ?_
      refine qm_G.s1 rfl (qm_x_goto) ?_
      refine qm_G.sp (lv1 := [(0, qm_R (some (0, 61, 0))), (1, qm_I (qm_i (x + 1))), (3, qm_I (qm_i 1))]) rfl rfl (qm_x_istore (lv' := [(2, qm_I (qm_i 1)), (0, qm_R (some (0, 61, 0))), (1, qm_I (qm_i (x + 1))), (3, qm_I (qm_i 1))]) rfl) ?_
      refine qm_G.s1 rfl (qm_x_iload rfl) ?_
      refine qm_G.s1 rfl (qm_x_if_ne_t ⟨by decide, by decide⟩ (by decide)) ?_
      refine qm_G.sp (lv1 := [(0, qm_R (some (0, 61, 0))), (1, qm_I (qm_i (x + 1))), (2, qm_I (qm_i 1))]) rfl rfl (qm_x_aload rfl) ?_
      refine qm_G.s1 rfl (qm_x_aload rfl) ?_
      refine qm_G.s1 rfl (qm_x_getfI (v := (qm_og T ln (qm_oa T ln n) : Int)) (hS 61 rfl) g2) ?_
      refine qm_G.s1 rfl (qm_x_putfI (hS 61 rfl)) ?_
      refine qm_G.s1 rfl (qm_x_aload rfl) ?_
      refine qm_G.s1 rfl (qm_x_getfR (q := (some (0, 69, 0))) (hS 61 rfl) (hR 61 13 69 rfl rfl)) ?_
      refine qm_G.s1 rfl (qm_x_aload rfl) ?_
      refine qm_G.s1 rfl (qm_x_getfI (v := (qm_og T ln (qm_oa T ln n) : Int)) (hS 61 rfl) g2) ?_
      have gT1 := (hT2 (qm_og T ln (qm_oa T ln n)) (by omega)).2
      refine qm_G.s1 rfl (qm_x_iald (v := (T (qm_og T ln (qm_oa T ln n)))) (qm_arS hS rfl rfl) rfl (by omega) (by omega) (by decide) (Eq.trans (congrArg (J2 69 0) (by omega)) (hT2 (qm_og T ln (qm_oa T ln n)) (by omega)).1)) ?_
      refine qm_G.s1 rfl (qm_x_pushI 59 rfl) ?_
      refine qm_G.s1 rfl (qm_x_icmp_ne_t ⟨by omega, by omega⟩ ⟨by decide, by decide⟩ (by omega)) ?_
      refine qm_G.sp (lv1 := [(0, qm_R (some (0, 61, 0))), (1, qm_I (qm_i (x + 1))), (2, qm_I (qm_i 1))]) rfl rfl (qm_x_pushI 0 rfl) ?_
      refine qm_G.sp (lv1 := [(0, qm_R (some (0, 61, 0))), (1, qm_I (qm_i (x + 1))), (2, qm_I (qm_i 1))]) rfl rfl (qm_x_istore (lv' := [(3, qm_I (qm_i 0)), (0, qm_R (some (0, 61, 0))), (1, qm_I (qm_i (x + 1))), (2, qm_I (qm_i 1))]) rfl) ?_
      refine qm_G.s1 rfl (qm_x_aload rfl) ?_
      refine qm_G.s1 rfl (qm_x_dupR) ?_
      refine qm_G.s1 rfl (qm_x_getfI (v := (qm_og T ln (qm_oa T ln n) : Int)) (hS 61 rfl) g2) ?_
      refine qm_G.s1 rfl (qm_x_pushI 1 rfl) ?_
      refine qm_G.s1 rfl (qm_x_iadd) ?_
      refine qm_G.s1 rfl (qm_x_putfI (hS 61 rfl)) ?_
      refine qm_G.s1 rfl (qm_x_goto) ?_
      refine qm_G.sp (lv1 := [(0, qm_R (some (0, 61, 0))), (1, qm_I (qm_i (x + 1))), (2, qm_I (qm_i 1)), (3, qm_I (qm_i 0))]) rfl rfl (qm_x_iload rfl) ?_
      refine qm_G.s1 rfl (qm_x_if_eq_f ⟨by decide, by decide⟩ (by decide)) ?_
      refine qm_G.s1 rfl (qm_x_iload rfl) ?_
      refine qm_G.s1 rfl (qm_x_if_eq_t ⟨by decide, by decide⟩ (by decide)) ?_
      refine qm_G.pk (lv1 := [(0, qm_R (some (0, 61, 0))), (1, qm_I (qm_i (x + 1))), (3, qm_I (qm_i 0))]) rfl rfl rfl ?_
      refine kf _ _ (by omega) (fun r s i a b c => ?_) ?_
      · rw [qm_st_ne (by omega), qm_st_ne (by omega)]; exact (f2 r s i a (by omega)).trans (hM.1 r s i a b c)
      · rw [qm_st_ne (by omega), qm_st_eq]; omega
    · have hw := hD.1.1
      have hc2 := hD.1.2.1
      have hc3 := hD.1.2.2
      have hc4 := hD.2.1
      have hc5 := hD.2.2
      refine qm_G.pk (lv1 := [(0, qm_R (some (0, 61, 0))), (1, qm_I (qm_i x)), (2, qm_I (qm_i 1)), (3, qm_I (qm_i 1))]) rfl rfl rfl ?_
      refine qm_G.sp (lv1 := [(0, qm_R (some (0, 61, 0))), (1, qm_I (qm_i x)), (2, qm_I (qm_i 1)), (3, qm_I (qm_i 1))]) rfl rfl (qm_x_iload rfl) ?_
      refine qm_G.s1 rfl (qm_x_if_eq_f ⟨by decide, by decide⟩ (by decide)) ?_
      refine qm_G.s1 rfl (qm_x_iload rfl) ?_
      refine qm_G.s1 rfl (qm_x_if_eq_f ⟨by decide, by decide⟩ (by decide)) ?_
      refine qm_G.s1 rfl (qm_x_aload rfl) ?_
      refine qm_G.s1 rfl (qm_x_iload rfl) ?_
      refine qm_G.cm rfl rfl (hS 61 rfl) rfl ?_
      refine qm_m_iso (a := qm_oa T ln n) hS hR hT1 rl hl1 ⟨by omega, by omega⟩ h16 ha (fun c1 => absurd c1 hw.1) (fun _ c2 => absurd hw.2 c2) (fun c1 J2 f2 g2 u2 v2 => ⟨_, rfl, ?_⟩)
      have hT2 : ∀ i, i < 100 → J2 69 0 i = T i ∧ 0 ≤ T i ∧ T i ≤ 127 := fun i h => by rw [f2 69 0 i (by omega) (by omega)]; exact hT1 i h
      have hl2 : J2 61 0 12 = ln := (f2 61 0 12 (by omega) (by omega)).trans hl1
      refine qm_G.s1 rfl (qm_x_istore (lv' := [(3, qm_I (qm_i 1)), (0, qm_R (some (0, 61, 0))), (1, qm_I (qm_i x)), (2, qm_I (qm_i 1))]) rfl) ?_
      refine qm_G.s1 rfl (qm_x_iload rfl) ?_
      refine qm_G.s1 rfl (qm_x_if_ne_t ⟨by decide, by decide⟩ (by decide)) ?_
      refine qm_G.sp (lv1 := [(0, qm_R (some (0, 61, 0))), (1, qm_I (qm_i x)), (3, qm_I (qm_i 1))]) rfl rfl (qm_x_iinc (lv' := [(1, qm_I (qm_i (x + 1))), (0, qm_R (some (0, 61, 0))), (3, qm_I (qm_i 1))]) 1 rfl rfl rfl) ?_
      refine qm_G.s1 rfl (qm_x_aload rfl) ?_
      refine qm_G.s1 rfl (qm_x_getfI (v := (qm_og T ln (qm_oa T ln n) : Int)) (hS 61 rfl) g2) ?_
      refine qm_G.s1 rfl (qm_x_aload rfl) ?_
      refine qm_G.s1 rfl (qm_x_getfI (v := ln) (hS 61 rfl) hl2) ?_
      refine qm_G.s1 rfl (qm_x_icmp_ge_f ⟨by omega, by omega⟩ ⟨by omega, by omega⟩ (by omega)) ?_
      refine qm_G.s1 rfl (qm_x_pushI 1 rfl) ?_
      refine qm_G.s1 rfl (qm_x_goto) ?_
      refine qm_G.sp (lv1 := [(0, qm_R (some (0, 61, 0))), (1, qm_I (qm_i (x + 1))), (3, qm_I (qm_i 1))]) rfl rfl (qm_x_istore (lv' := [(2, qm_I (qm_i 1)), (0, qm_R (some (0, 61, 0))), (1, qm_I (qm_i (x + 1))), (3, qm_I (qm_i 1))]) rfl) ?_
      refine qm_G.s1 rfl (qm_x_iload rfl) ?_
      refine qm_G.s1 rfl (qm_x_if_ne_t ⟨by decide, by decide⟩ (by decide)) ?_
      refine qm_G.sp (lv1 := [(0, qm_R (some (0, 61, 0))), (1, qm_I (qm_i (x + 1))), (2, qm_I (qm_i 1))]) rfl rfl (qm_x_aload rfl) ?_
      refine qm_G.s1 rfl (qm_x_aload rfl) ?_
      refine qm_G.s1 rfl (qm_x_getfI (v := (qm_og T ln (qm_oa T ln n) : Int)) (hS 61 rfl) g2) ?_
      refine qm_G.s1 rfl (qm_x_putfI (hS 61 rfl)) ?_
      refine qm_G.s1 rfl (qm_x_aload rfl) ?_
      refine qm_G.s1 rfl (qm_x_getfR (q := (some (0, 69, 0))) (hS 61 rfl) (hR 61 13 69 rfl rfl)) ?_
      refine qm_G.s1 rfl (qm_x_aload rfl) ?_
      refine qm_G.s1 rfl (qm_x_getfI (v := (qm_og T ln (qm_oa T ln n) : Int)) (hS 61 rfl) g2) ?_
      have gT1 := (hT2 (qm_og T ln (qm_oa T ln n)) (by omega)).2
      refine qm_G.s1 rfl (qm_x_iald (v := (T (qm_og T ln (qm_oa T ln n)))) (qm_arS hS rfl rfl) rfl (by omega) (by omega) (by decide) (Eq.trans (congrArg (J2 69 0) (by omega)) (hT2 (qm_og T ln (qm_oa T ln n)) (by omega)).1)) ?_
      refine qm_G.s1 rfl (qm_x_pushI 59 rfl) ?_
      refine qm_G.s1 rfl (qm_x_icmp_ne_f ⟨by omega, by omega⟩ ⟨by decide, by decide⟩ (by omega)) ?_
      refine qm_G.s1 rfl (qm_x_iload rfl) ?_
      refine qm_G.s1 rfl (qm_x_pushI 12 rfl) ?_
      refine qm_G.s1 rfl (qm_x_icmp_ge_t ⟨by omega, by omega⟩ ⟨by decide, by decide⟩ (by omega)) ?_
      refine qm_G.sp (lv1 := [(0, qm_R (some (0, 61, 0))), (1, qm_I (qm_i (x + 1))), (2, qm_I (qm_i 1))]) rfl rfl (qm_x_pushI 0 rfl) ?_
      refine qm_G.sp (lv1 := [(0, qm_R (some (0, 61, 0))), (1, qm_I (qm_i (x + 1))), (2, qm_I (qm_i 1))]) rfl rfl (qm_x_istore (lv' := [(3, qm_I (qm_i 0)), (0, qm_R (some (0, 61, 0))), (1, qm_I (qm_i (x + 1))), (2, qm_I (qm_i 1))]) rfl) ?_
      refine qm_G.s1 rfl (qm_x_aload rfl) ?_
      refine qm_G.s1 rfl (qm_x_dupR) ?_
      refine qm_G.s1 rfl (qm_x_getfI (v := (qm_og T ln (qm_oa T ln n) : Int)) (hS 61 rfl) g2) ?_
      refine qm_G.s1 rfl (qm_x_pushI 1 rfl) ?_
      refine qm_G.s1 rfl (qm_x_iadd) ?_
      refine qm_G.s1 rfl (qm_x_putfI (hS 61 rfl)) ?_
      refine qm_G.s1 rfl (qm_x_goto) ?_
      refine qm_G.sp (lv1 := [(0, qm_R (some (0, 61, 0))), (1, qm_I (qm_i (x + 1))), (2, qm_I (qm_i 1)), (3, qm_I (qm_i 0))]) rfl rfl (qm_x_iload rfl) ?_
      refine qm_G.s1 rfl (qm_x_if_eq_f ⟨by decide, by decide⟩ (by decide)) ?_
      refine qm_G.s1 rfl (qm_x_iload rfl) ?_
      refine qm_G.s1 rfl (qm_x_if_eq_t ⟨by decide, by decide⟩ (by decide)) ?_
      refine qm_G.pk (lv1 := [(0, qm_R (some (0, 61, 0))), (1, qm_I (qm_i (x + 1))), (3, qm_I (qm_i 0))]) rfl rfl rfl ?_
      refine kf _ _ (by omega) (fun r s i a b c => ?_) ?_
      · rw [qm_st_ne (by omega), qm_st_ne (by omega)]; exact (f2 r s i a (by omega)).trans (hM.1 r s i a b c)
      · rw [qm_st_ne (by omega), qm_st_eq]; omega
    · have hw := hE.1
      have hc2 := hE.2.1
      refine qm_G.pk (lv1 := [(0, qm_R (some (0, 61, 0))), (1, qm_I (qm_i x)), (2, qm_I (qm_i 1)), (3, qm_I (qm_i 1))]) rfl rfl rfl ?_
      refine qm_G.sp (lv1 := [(0, qm_R (some (0, 61, 0))), (1, qm_I (qm_i x)), (2, qm_I (qm_i 1)), (3, qm_I (qm_i 1))]) rfl rfl (qm_x_iload rfl) ?_
      refine qm_G.s1 rfl (qm_x_if_eq_f ⟨by decide, by decide⟩ (by decide)) ?_
      refine qm_G.s1 rfl (qm_x_iload rfl) ?_
      refine qm_G.s1 rfl (qm_x_if_eq_f ⟨by decide, by decide⟩ (by decide)) ?_
      refine qm_G.s1 rfl (qm_x_aload rfl) ?_
      refine qm_G.s1 rfl (qm_x_iload rfl) ?_
      refine qm_G.cm rfl rfl (hS 61 rfl) rfl ?_
      refine qm_m_iso (a := qm_oa T ln n) hS hR hT1 rl hl1 ⟨by omega, by omega⟩ h16 ha (fun c1 => absurd c1 hw.1) (fun _ c2 => absurd hw.2 c2) (fun c1 J2 f2 g2 u2 v2 => ⟨_, rfl, ?_⟩)
      have hT2 : ∀ i, i < 100 → J2 69 0 i = T i ∧ 0 ≤ T i ∧ T i ≤ 127 := fun i h => by rw [f2 69 0 i (by omega) (by omega)]; exact hT1 i h
      have hl2 : J2 61 0 12 = ln := (f2 61 0 12 (by omega) (by omega)).trans hl1
      refine qm_G.s1 rfl (qm_x_istore (lv' := [(3, qm_I (qm_i 1)), (0, qm_R (some (0, 61, 0))), (1, qm_I (qm_i x)), (2, qm_I (qm_i 1))]) rfl) ?_
      refine qm_G.s1 rfl (qm_x_iload rfl) ?_
      refine qm_G.s1 rfl (qm_x_if_ne_t ⟨by decide, by decide⟩ (by decide)) ?_
      refine qm_G.sp (lv1 := [(0, qm_R (some (0, 61, 0))), (1, qm_I (qm_i x)), (3, qm_I (qm_i 1))]) rfl rfl (qm_x_iinc (lv' := [(1, qm_I (qm_i (x + 1))), (0, qm_R (some (0, 61, 0))), (3, qm_I (qm_i 1))]) 1 rfl rfl rfl) ?_
      refine qm_G.s1 rfl (qm_x_aload rfl) ?_
      refine qm_G.s1 rfl (qm_x_getfI (v := (qm_og T ln (qm_oa T ln n) : Int)) (hS 61 rfl) g2) ?_
      refine qm_G.s1 rfl (qm_x_aload rfl) ?_
      refine qm_G.s1 rfl (qm_x_getfI (v := ln) (hS 61 rfl) hl2) ?_
      refine qm_G.s1 rfl (qm_x_icmp_ge_t ⟨by omega, by omega⟩ ⟨by omega, by omega⟩ (by omega)) ?_
      refine qm_G.sp (lv1 := [(0, qm_R (some (0, 61, 0))), (1, qm_I (qm_i (x + 1))), (3, qm_I (qm_i 1))]) rfl rfl (qm_x_pushI 0 rfl) ?_
      refine qm_G.sp (lv1 := [(0, qm_R (some (0, 61, 0))), (1, qm_I (qm_i (x + 1))), (3, qm_I (qm_i 1))]) rfl rfl (qm_x_istore (lv' := [(2, qm_I (qm_i 0)), (0, qm_R (some (0, 61, 0))), (1, qm_I (qm_i (x + 1))), (3, qm_I (qm_i 1))]) rfl) ?_
      refine qm_G.s1 rfl (qm_x_iload rfl) ?_
      refine qm_G.s1 rfl (qm_x_if_ne_f ⟨by decide, by decide⟩ (by decide)) ?_
      refine qm_G.s1 rfl (qm_x_goto) ?_
      refine qm_G.pk (lv1 := [(0, qm_R (some (0, 61, 0))), (1, qm_I (qm_i (x + 1))), (3, qm_I (qm_i 1))]) rfl rfl rfl ?_
      rw [show x + 1 = ((n + 1 : Nat) : Int) by omega]
      exact ks J2 hE.2.2 (hM.push hx f2 u2 v2)
  | succ m ih =>
    intro n x J1 hn hx hM h16
    have n11 := hO.2.1
    have ha := (qm_oa_ln rl.1 n (fun i h => hO.1 i (by omega))).1
    have r9 := qm_o_rng (T := T) ha
    have hT1 : ∀ i, i < 100 → J1 69 0 i = T i ∧ 0 ≤ T i ∧ T i ≤ 127 := fun i h => by rw [hM.1 69 0 i (by omega) (by omega) (by omega)]; exact hT i h
    have hl1 : J1 61 0 12 = ln := (hM.1 61 0 12 (by omega) (by omega) (by omega)).trans hl
    have hoc := hO.1 n (by omega)
    have hw := hoc.1
    have hc2 := hoc.2.1
    have hc3 := hoc.2.2
    refine qm_G.pk (lv1 := [(0, qm_R (some (0, 61, 0))), (1, qm_I (qm_i x)), (2, qm_I (qm_i 1)), (3, qm_I (qm_i 1))]) rfl rfl rfl ?_
    refine qm_G.sp (lv1 := [(0, qm_R (some (0, 61, 0))), (1, qm_I (qm_i x)), (2, qm_I (qm_i 1)), (3, qm_I (qm_i 1))]) rfl rfl (qm_x_iload rfl) ?_
    refine qm_G.s1 rfl (qm_x_if_eq_f ⟨by decide, by decide⟩ (by decide)) ?_
    refine qm_G.s1 rfl (qm_x_iload rfl) ?_
    refine qm_G.s1 rfl (qm_x_if_eq_f ⟨by decide, by decide⟩ (by decide)) ?_
    refine qm_G.s1 rfl (qm_x_aload rfl) ?_
    refine qm_G.s1 rfl (qm_x_iload rfl) ?_
    refine qm_G.cm rfl rfl (hS 61 rfl) rfl ?_
    refine qm_m_iso (a := qm_oa T ln n) hS hR hT1 rl hl1 ⟨by omega, by omega⟩ h16 ha (fun c1 => absurd c1 hw.1) (fun _ c2 => absurd hw.2 c2) (fun c1 J2 f2 g2 u2 v2 => ⟨_, rfl, ?_⟩)
    have hT2 : ∀ i, i < 100 → J2 69 0 i = T i ∧ 0 ≤ T i ∧ T i ≤ 127 := fun i h => by rw [f2 69 0 i (by omega) (by omega)]; exact hT1 i h
    have hl2 : J2 61 0 12 = ln := (f2 61 0 12 (by omega) (by omega)).trans hl1
    refine qm_G.s1 rfl (qm_x_istore (lv' := [(3, qm_I (qm_i 1)), (0, qm_R (some (0, 61, 0))), (1, qm_I (qm_i x)), (2, qm_I (qm_i 1))]) rfl) ?_
    refine qm_G.s1 rfl (qm_x_iload rfl) ?_
    refine qm_G.s1 rfl (qm_x_if_ne_t ⟨by decide, by decide⟩ (by decide)) ?_
    refine qm_G.sp (lv1 := [(0, qm_R (some (0, 61, 0))), (1, qm_I (qm_i x)), (3, qm_I (qm_i 1))]) rfl rfl (qm_x_iinc (lv' := [(1, qm_I (qm_i (x + 1))), (0, qm_R (some (0, 61, 0))), (3, qm_I (qm_i 1))]) 1 rfl rfl rfl) ?_
    refine qm_G.s1 rfl (qm_x_aload rfl) ?_
    refine qm_G.s1 rfl (qm_x_getfI (v := (qm_og T ln (qm_oa T ln n) : Int)) (hS 61 rfl) g2) ?_
    refine qm_G.s1 rfl (qm_x_aload rfl) ?_
    refine qm_G.s1 rfl (qm_x_getfI (v := ln) (hS 61 rfl) hl2) ?_
    refine qm_G.s1 rfl (qm_x_icmp_ge_f ⟨by omega, by omega⟩ ⟨by omega, by omega⟩ (by omega)) ?_
    refine qm_G.s1 rfl (qm_x_pushI 1 rfl) ?_
    refine qm_G.s1 rfl (qm_x_goto) ?_
    refine qm_G.sp (lv1 := [(0, qm_R (some (0, 61, 0))), (1, qm_I (qm_i (x + 1))), (3, qm_I (qm_i 1))]) rfl rfl (qm_x_istore (lv' := [(2, qm_I (qm_i 1)), (0, qm_R (some (0, 61, 0))), (1, qm_I (qm_i (x + 1))), (3, qm_I (qm_i 1))]) rfl) ?_
    refine qm_G.s1 rfl (qm_x_iload rfl) ?_
    refine qm_G.s1 rfl (qm_x_if_ne_t ⟨by decide, by decide⟩ (by decide)) ?_
    refine qm_G.sp (lv1 := [(0, qm_R (some (0, 61, 0))), (1, qm_I (qm_i (x + 1))), (2, qm_I (qm_i 1))]) rfl rfl (qm_x_aload rfl) ?_
    refine qm_G.s1 rfl (qm_x_aload rfl) ?_
    refine qm_G.s1 rfl (qm_x_getfI (v := (qm_og T ln (qm_oa T ln n) : Int)) (hS 61 rfl) g2) ?_
    refine qm_G.s1 rfl (qm_x_putfI (hS 61 rfl)) ?_
    refine qm_G.s1 rfl (qm_x_aload rfl) ?_
    refine qm_G.s1 rfl (qm_x_getfR (q := (some (0, 69, 0))) (hS 61 rfl) (hR 61 13 69 rfl rfl)) ?_
    refine qm_G.s1 rfl (qm_x_aload rfl) ?_
    refine qm_G.s1 rfl (qm_x_getfI (v := (qm_og T ln (qm_oa T ln n) : Int)) (hS 61 rfl) g2) ?_
    have gT1 := (hT2 (qm_og T ln (qm_oa T ln n)) (by omega)).2
    refine qm_G.s1 rfl (qm_x_iald (v := (T (qm_og T ln (qm_oa T ln n)))) (qm_arS hS rfl rfl) rfl (by omega) (by omega) (by decide) (Eq.trans (congrArg (J2 69 0) (by omega)) (hT2 (qm_og T ln (qm_oa T ln n)) (by omega)).1)) ?_
    refine qm_G.s1 rfl (qm_x_pushI 59 rfl) ?_
    refine qm_G.s1 rfl (qm_x_icmp_ne_f ⟨by omega, by omega⟩ ⟨by decide, by decide⟩ (by omega)) ?_
    refine qm_G.s1 rfl (qm_x_iload rfl) ?_
    refine qm_G.s1 rfl (qm_x_pushI 12 rfl) ?_
    refine qm_G.s1 rfl (qm_x_icmp_ge_f ⟨by omega, by omega⟩ ⟨by decide, by decide⟩ (by omega)) ?_
    refine qm_G.s1 rfl (qm_x_pushI 1 rfl) ?_
    refine qm_G.s1 rfl (qm_x_goto) ?_
    refine qm_G.sp (lv1 := [(0, qm_R (some (0, 61, 0))), (1, qm_I (qm_i (x + 1))), (2, qm_I (qm_i 1))]) rfl rfl (qm_x_istore (lv' := [(3, qm_I (qm_i 1)), (0, qm_R (some (0, 61, 0))), (1, qm_I (qm_i (x + 1))), (2, qm_I (qm_i 1))]) rfl) ?_
    refine qm_G.s1 rfl (qm_x_aload rfl) ?_
    refine qm_G.s1 rfl (qm_x_dupR) ?_
    refine qm_G.s1 rfl (qm_x_getfI (v := (qm_og T ln (qm_oa T ln n) : Int)) (hS 61 rfl) g2) ?_
    refine qm_G.s1 rfl (qm_x_pushI 1 rfl) ?_
    refine qm_G.s1 rfl (qm_x_iadd) ?_
    refine qm_G.s1 rfl (qm_x_putfI (hS 61 rfl)) ?_
    refine qm_G.s1 rfl (qm_x_goto) ?_
    refine qm_G.pk (lv1 := [(0, qm_R (some (0, 61, 0))), (1, qm_I (qm_i (x + 1))), (2, qm_I (qm_i 1)), (3, qm_I (qm_i 1))]) rfl rfl rfl ?_
    refine ih (n + 1) _ _ (by omega) (by omega) ((hM.push hx f2 u2 v2).mov (fun r s i a => ?_)) ?_
    · rw [qm_st_ne (by omega), qm_st_ne (by omega)]
    · rw [qm_st_eq]; show _ = ((qm_og T ln (qm_oa T ln n) + 1 : Nat) : Int); omega
