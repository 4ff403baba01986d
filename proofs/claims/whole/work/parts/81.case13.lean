/-! THE LAW, case 13 -/
theorem qm_case13 {S : List qm_Sh} {J K : qm_J} {L : qm_Ct Int64} {D : qm_Ct UInt64} {R : qm_Ct (Option qm_Rf)} {X : Nat × (Nat → Int32)} {k : Nat} {z : Int} {Q : Option qm_V → qm_Hp → Prop} {a1 : Int} (hI : qm_Inv S J K L D R k) (hX : X.1 ≤ 3072) (h0 : 0 ≤ z) (h6 : z + 6 ≤ X.1) (e1 : (X.2 (Int.toNat (z + 1))).toInt = a1) (ih : ∀ (S : List qm_Sh) (J K : qm_J) (L : qm_Ct Int64) (D : qm_Ct UInt64) (R : qm_Ct (Option qm_Rf)), qm_Inv S J K L D R (k + 1) → qm_G qm_P qm_P222 1445 [(0, qm_R (some (2, 0, 0))), (1, qm_R (some (0, 0, 0))), (2, qm_R (some (0, 61, 0))), (3, qm_I (qm_i z))] [] (qm_H S J K L D R X) Q) : qm_G qm_P qm_P222 667 [(0, qm_R (some (2, 0, 0))), (1, qm_R (some (0, 0, 0))), (2, qm_R (some (0, 61, 0))), (3, qm_I (qm_i z))] [] (qm_H S J K L D R X) Q := by
  have hS := hI.sd
  have hR := hI.rd
  have hM := hI.mk
  have hN := hM.nk
  obtain ⟨W, hW⟩ : ∃ W : Nat → Int → qm_S3, W = qm_VB (qm_ch (J 62 0) 0 0) (qm_ch (J 62 0) 0 1) (J 62 0 1) (J 62 0 3) := ⟨_, rfl⟩
  have rW : ∀ t s, (0 ≤ (W t s).2.1 ∧ (W t s).2.1 ≤ 6) ∧ (0 ≤ (W t s).2.2 ∧ (W t s).2.2 ≤ 6) := fun t s => by rw [hW]; exact qm_VB_rng
  have s1 : qm_sm a1 := e1 ▸ qm_i_sml _
  refine qm_G.sp (lv1 := [(0, qm_R (some (2, 0, 0))), (1, qm_R (some (0, 0, 0))), (2, qm_R (some (0, 61, 0))), (3, qm_I (qm_i z))]) rfl rfl (qm_x_aload rfl) ?_
  refine qm_G.s1 rfl (qm_x_aload rfl) ?_
  refine qm_G.s1 rfl (qm_x_iload rfl) ?_
  refine qm_G.s1 rfl (qm_x_pushI 1 rfl) ?_
  refine qm_G.s1 rfl (qm_x_iadd) ?_
  refine qm_G.s1 rfl (qm_x_iald2v (v := a1) (by omega) (by omega) hX e1) ?_
  refine qm_G.cm rfl rfl (hS 0 rfl) rfl ?_
  refine qm_C.go (cd := qm_P211) (lv := [(0, qm_R (some (0, 0, 0))), (1, qm_I (qm_i a1))]) rfl rfl ?_
  refine qm_G.s1 rfl (qm_x_iload rfl) ?_
  refine qm_G.s1 rfl (qm_x_pushI 1 rfl) ?_
  refine qm_G.s1 rfl (qm_x_pushI 8 rfl) ?_
  refine qm_G.cs rfl rfl rfl ?_
  refine qm_v_within10 ⟨by omega, by omega⟩ ⟨by decide, by decide⟩ ⟨by decide, by decide⟩ (fun c1 => ⟨_, rfl, ?_⟩) (fun c1 => ⟨_, rfl, ?_⟩)
  · refine qm_G.s1 rfl (qm_x_if_ne_t ⟨by decide, by decide⟩ (by decide)) ?_
    refine qm_G.sp (lv1 := [(0, qm_R (some (0, 0, 0))), (1, qm_I (qm_i a1))]) rfl rfl (qm_x_aload rfl) ?_
    refine qm_G.s1 rfl (qm_x_iload rfl) ?_
    refine qm_G.cmv rfl rfl (hS 0 rfl) rfl ?_
    refine qm_d_now hS hR hM (by omega) (fun J2 L2 ej2 f2 b2 t2 => ⟨rfl, ?_⟩)
    unfold qm_TV at t2
    rw [← hW] at t2
    refine qm_G.s1 rfl (qm_x_aload rfl) ?_
    refine qm_G.cm rfl rfl (hS 0 rfl) rfl ?_
    refine qm_C.go (cd := qm_P19) (lv := [(0, qm_R (some (0, 0, 0)))]) rfl rfl ?_
    refine qm_G.s1 rfl (qm_x_aload rfl) ?_
    refine qm_G.s1 rfl (qm_x_getfR (q := (some (0, 1, 0))) (hS 0 rfl) (hR 0 0 1 rfl rfl)) ?_
    refine qm_G.s1 rfl (qm_x_getfR (q := (some (0, 2, 0))) (hS 1 rfl) (hR 1 0 2 rfl rfl)) ?_
    refine qm_G.s1 rfl (qm_x_getfR (q := (some (0, 3, 0))) (hS 2 rfl) (hR 2 0 3 rfl rfl)) ?_
    refine qm_G.s1 rfl (qm_x_pushI 1 rfl) ?_
    have f62_1 : 1 ≤ J 62 0 1 ∧ J 62 0 1 ≤ 8 := hI.mk.r1
    have f3_1 : J 3 0 1 = J 62 0 1 := hI.mk.set 1 (by decide)
    refine qm_G.s1 rfl (qm_x_iald (v := (J 3 0 1)) (qm_arS hS rfl rfl) rfl (by decide) (by decide) (by decide) (ej2 3 0 1 (by omega))) ?_
    refine qm_G.ret rfl rfl ⟨_, rfl, ?_⟩
    refine qm_G.s1 rfl (qm_x_istore (lv' := [(2, qm_I (qm_i (J 3 0 1))), (0, qm_R (some (0, 0, 0))), (1, qm_I (qm_i a1))]) rfl) ?_
    refine qm_G.s1 rfl (qm_x_pushI 0 rfl) ?_
    refine qm_G.s1 rfl (qm_x_istore (lv' := [(3, qm_I (qm_i 0)), (2, qm_I (qm_i (J 3 0 1))), (0, qm_R (some (0, 0, 0))), (1, qm_I (qm_i a1))]) rfl) ?_
    refine qm_G.s1 rfl (qm_x_iload rfl) ?_
    refine qm_G.s1 rfl (qm_x_ineg) ?_
    refine qm_G.s1 rfl (qm_x_istore (lv' := [(4, qm_I (qm_i (-(J 3 0 1)))), (3, qm_I (qm_i 0)), (2, qm_I (qm_i (J 3 0 1))), (0, qm_R (some (0, 0, 0))), (1, qm_I (qm_i a1))]) rfl) ?_
    rw [f3_1]
    have g1 : ∀ x : Int, -(J 62 0 1) ≤ x → x ≤ J 62 0 1 → (0 ≤ J 62 0 (Int.toNat (62 + 2 * (x + 8))) ∧ J 62 0 (Int.toNat (62 + 2 * (x + 8))) ≤ 6) ∧ (0 ≤ J 62 0 (Int.toNat (62 + 2 * (x + 8) + 1)) ∧ J 62 0 (Int.toNat (62 + 2 * (x + 8) + 1)) ≤ 6) := fun x a b => by have h9 := hI.nt.rrule (Int.toNat (x + 8)) (by omega); rw [show 62 + 2 * Int.toNat (x + 8) = Int.toNat (62 + 2 * (x + 8)) by omega, show 63 + 2 * Int.toNat (x + 8) = Int.toNat (62 + 2 * (x + 8) + 1) by omega] at h9; exact h9
    obtain ⟨M, hM9⟩ : ∃ M, M = qm_many (fun x => 10 * (fun x => J 62 0 (Int.toNat (62 + 2 * (x + 8)))) x + (fun x => J 62 0 (Int.toNat (62 + 2 * (x + 8) + 1))) x) (fun x => 10 * (fun x => (W (Int.toNat a1) x).2.1) x + (fun x => (W (Int.toNat a1) x).2.2) x) (Int.toNat (2 * J 62 0 1 + 1)) (-(J 62 0 1)) 0 := ⟨_, rfl⟩
    have rM : 0 ≤ M ∧ M ≤ 17 := by rw [hM9]; have h9 := qm_many_rng (f := fun x => 10 * (fun x => J 62 0 (Int.toNat (62 + 2 * (x + 8)))) x + (fun x => J 62 0 (Int.toNat (62 + 2 * (x + 8) + 1))) x) (g := fun x => 10 * (fun x => (W (Int.toNat a1) x).2.1) x + (fun x => (W (Int.toNat a1) x).2.2) x) (Int.toNat (2 * J 62 0 1 + 1)) (-(J 62 0 1)) 0; omega
    refine qm_G.pk (lv1 := [(0, qm_R (some (0, 0, 0))), (1, qm_I (qm_i a1)), (2, qm_I (qm_i (J 62 0 1))), (3, qm_I (qm_i 0)), (4, qm_I (qm_i (-(J 62 0 1))))]) rfl rfl rfl ?_
    refine qm_d_adl (lim := J 62 0 1) (T := a1) (r1 := (fun x => J 62 0 (Int.toNat (62 + 2 * (x + 8))))) (r2 := (fun x => J 62 0 (Int.toNat (62 + 2 * (x + 8) + 1)))) (w1 := (fun x => (W (Int.toNat a1) x).2.1)) (w2 := (fun x => (W (Int.toNat a1) x).2.2)) hS hR (by omega) (by omega) g1 (fun x a b => rW _ _) (Int.toNat (2 * J 62 0 1 + 1)) (-(J 62 0 1)) 0 J2 (by omega) (by omega) (by omega) (fun x a b => (t2 a1 x (by omega) (Or.inl (by omega)) (by omega) (by omega)).2 (by omega)) (fun x a b => ⟨by rw [ej2 17 1 _ (by omega), (hI.nt.rule (Int.toNat (x + 8)) (by omega)).1]; exact congrArg (J 62 0) (by omega), by rw [ej2 17 2 _ (by omega), (hI.nt.rule (Int.toNat (x + 8)) (by omega)).2]; exact congrArg (J 62 0) (by omega)⟩) (fun J4 ej4 u4 v4 => ?_)
    rw [← hM9]
    refine ⟨_, rfl, ?_⟩
    refine qm_G.s1 rfl (qm_x_aload rfl) ?_
    refine qm_G.s1 rfl (qm_x_aload rfl) ?_
    refine qm_G.s1 rfl (qm_x_iload rfl) ?_
    refine qm_G.s1 rfl (qm_x_pushI 1 rfl) ?_
    refine qm_G.s1 rfl (qm_x_iadd) ?_
    refine qm_G.s1 rfl (qm_x_iald2v (v := a1) (by omega) (by omega) hX e1) ?_
    refine qm_G.cm rfl rfl (hS 61 rfl) rfl ?_
    refine qm_C.go (cd := qm_P187) (lv := [(0, qm_R (some (0, 61, 0))), (1, qm_I (qm_i a1))]) rfl rfl ?_
    refine qm_G.s1 rfl (qm_x_iload rfl) ?_
    refine qm_G.s1 rfl (qm_x_pushI 1 rfl) ?_
    refine qm_G.s1 rfl (qm_x_pushI 8 rfl) ?_
    refine qm_G.cs rfl rfl rfl ?_
    refine qm_v_within11_t ⟨by omega, by omega⟩ ⟨by decide, by decide⟩ ⟨by decide, by decide⟩ (by omega) ⟨_, rfl, ?_⟩
    refine qm_G.s1 rfl (qm_x_if_ne_t ⟨by decide, by decide⟩ (by decide)) ?_
    refine qm_G.sp (lv1 := [(0, qm_R (some (0, 61, 0))), (1, qm_I (qm_i a1))]) rfl rfl (qm_x_aload rfl) ?_
    refine qm_G.cmv rfl rfl (hS 61 rfl) rfl ?_
    have e62 : J4 62 0 = J 62 0 := funext (fun i => ((ej4 62 0 i (by omega)).trans (ej2 62 0 i (by omega))))
    refine qm_m_values hS hR (show qm_Nk (J4 62 0) from e62 ▸ hN) (fun J3 L3 ej3 f3 b3 t3 => ⟨rfl, ?_⟩)
    rw [e62] at b3 t3
    unfold qm_TM at t3
    rw [← hW] at t3
    refine qm_G.s1 rfl (qm_x_pushI 0 rfl) ?_
    refine qm_G.s1 rfl (qm_x_istore (lv' := [(2, qm_I (qm_i 0)), (0, qm_R (some (0, 61, 0))), (1, qm_I (qm_i a1))]) rfl) ?_
    refine qm_G.s1 rfl (qm_x_aload rfl) ?_
    refine qm_G.s1 rfl (qm_x_getfR (q := (some (0, 62, 0))) (hS 61 rfl) (hR 61 0 62 rfl rfl)) ?_
    refine qm_G.s1 rfl (qm_x_pushI 1 rfl) ?_
    refine qm_G.s1 rfl (qm_x_iald (v := (J 62 0 1)) (qm_arS hS rfl rfl) rfl (by decide) (by decide) (by decide) (Eq.trans (Eq.trans (ej3 62 0 1 (by omega)) (ej4 62 0 1 (by omega))) (ej2 62 0 1 (by omega)))) ?_
    refine qm_G.s1 rfl (qm_x_ineg) ?_
    refine qm_G.s1 rfl (qm_x_istore (lv' := [(3, qm_I (qm_i (-(J 62 0 1)))), (2, qm_I (qm_i 0)), (0, qm_R (some (0, 61, 0))), (1, qm_I (qm_i a1))]) rfl) ?_
    refine qm_G.pk (lv1 := [(0, qm_R (some (0, 61, 0))), (1, qm_I (qm_i a1)), (2, qm_I (qm_i 0)), (3, qm_I (qm_i (-(J 62 0 1))))]) rfl rfl rfl ?_
    refine qm_m_adl (lim := J 62 0 1) (T := a1) (r1 := (fun x => J 62 0 (Int.toNat (62 + 2 * (x + 8))))) (r2 := (fun x => J 62 0 (Int.toNat (62 + 2 * (x + 8) + 1)))) (w1 := (fun x => (W (Int.toNat a1) x).2.1)) (w2 := (fun x => (W (Int.toNat a1) x).2.2)) hS hR (by omega) (by omega) g1 (fun x a b => rW _ _) (Int.toNat (2 * J 62 0 1 + 1)) (-(J 62 0 1)) 0 J3 (by omega) (by omega) (by omega) ((ej3 62 0 1 (by omega)).trans ((ej4 62 0 1 (by omega)).trans (ej2 62 0 1 (by omega)))) (fun x a b => (t3 a1 x (by omega) (Or.inl (by omega)) (by omega) (by omega)).2 (by omega)) (fun x a b => ⟨((ej3 62 0 _ (by omega)).trans ((ej4 62 0 _ (by omega)).trans (ej2 62 0 _ (by omega)))), ((ej3 62 0 _ (by omega)).trans ((ej4 62 0 _ (by omega)).trans (ej2 62 0 _ (by omega))))⟩) (fun J5 ej5 u5 v5 => ?_)
    rw [← hM9]
    refine ⟨_, rfl, ?_⟩
    refine qm_G.s1 rfl (qm_x_icmp_eq_t ⟨by omega, by omega⟩ ⟨by omega, by omega⟩ (by omega)) ?_
    have ce : ∀ r s i, ¬ (qm_wJ r i ∨ r = 17 ∨ r = 62 ∧ 62 ≤ i ∧ i < 96) → J5 r s i = J r s i := fun r s i h => by unfold qm_wJ at h; rw [ej5 r s i (by omega), ej3 r s i (by omega), ej4 r s i (by omega), ej2 r s i (by omega)]
    have c17 : ∀ s i, J5 17 s i = J4 17 s i := fun s i => by rw [ej5 17 s i (by omega), ej3 17 s i (by omega)]
    have c62 : ∀ i, J3 62 0 i = J 62 0 i := fun i => by rw [ej3 62 0 i (by omega), ej4 62 0 i (by omega), ej2 62 0 i (by omega)]
    have cr : ∀ i, i < 17 → (J5 17 1 i = J5 62 0 (62 + 2 * i) ∧ J5 17 2 i = J5 62 0 (63 + 2 * i)) ∧ (0 ≤ J5 62 0 (62 + 2 * i) ∧ J5 62 0 (62 + 2 * i) ≤ 6) ∧ 0 ≤ J5 62 0 (63 + 2 * i) ∧ J5 62 0 (63 + 2 * i) ≤ 6 := by
      intro i hi
      rw [c17, c17]
      by_cases hx : -(J 62 0 1) ≤ (i : Int) - 8 ∧ (i : Int) - 8 ≤ J 62 0 1
      · have h1 := u4 ((i : Int) - 8) hx.1 hx.2
        have h2 := u5 ((i : Int) - 8) hx.1 hx.2
        rw [show Int.toNat ((i : Int) - 8 + 8) = i by omega] at h1
        rw [show Int.toNat (62 + 2 * ((i : Int) - 8 + 8)) = 62 + 2 * i by omega, show Int.toNat (62 + 2 * ((i : Int) - 8 + 8) + 1) = 63 + 2 * i by omega] at h2
        rw [h1.1, h1.2, h2.1, h2.2]
        exact ⟨⟨rfl, rfl⟩, rW _ _⟩
      · rw [v4 1 i (fun y a b => by omega), v4 2 i (fun y a b => by omega), v5 (62 + 2 * i) (fun y a b => by omega), v5 (63 + 2 * i) (fun y a b => by omega), c62, c62, ej2 17 1 i (by omega), ej2 17 2 i (by omega)]
        exact ⟨hI.nt.rule i hi, hI.nt.rrule i hi⟩
    exact ih _ _ _ _ _ _ (hI.rul ce (fun i hi => (cr i hi).1) (fun i hi => (cr i hi).2) (fun r s i h => ((f3 r s i (by omega)).trans (f2 r s i (by omega)))))
  · refine qm_G.s1 rfl (qm_x_if_ne_f ⟨by decide, by decide⟩ (by decide)) ?_
    refine qm_G.s1 rfl (qm_x_pushI (-2) rfl) ?_
    refine qm_G.ret rfl rfl ⟨_, rfl, ?_⟩
    refine qm_G.s1 rfl (qm_x_aload rfl) ?_
    refine qm_G.s1 rfl (qm_x_aload rfl) ?_
    refine qm_G.s1 rfl (qm_x_iload rfl) ?_
    refine qm_G.s1 rfl (qm_x_pushI 1 rfl) ?_
    refine qm_G.s1 rfl (qm_x_iadd) ?_
    refine qm_G.s1 rfl (qm_x_iald2v (v := a1) (by omega) (by omega) hX e1) ?_
    refine qm_G.cm rfl rfl (hS 61 rfl) rfl ?_
    refine qm_C.go (cd := qm_P187) (lv := [(0, qm_R (some (0, 61, 0))), (1, qm_I (qm_i a1))]) rfl rfl ?_
    refine qm_G.s1 rfl (qm_x_iload rfl) ?_
    refine qm_G.s1 rfl (qm_x_pushI 1 rfl) ?_
    refine qm_G.s1 rfl (qm_x_pushI 8 rfl) ?_
    refine qm_G.cs rfl rfl rfl ?_
    refine qm_v_within11_f ⟨by omega, by omega⟩ ⟨by decide, by decide⟩ ⟨by decide, by decide⟩ (by omega) ⟨_, rfl, ?_⟩
    refine qm_G.s1 rfl (qm_x_if_ne_f ⟨by decide, by decide⟩ (by decide)) ?_
    refine qm_G.s1 rfl (qm_x_pushI (-2) rfl) ?_
    refine qm_G.ret rfl rfl ⟨_, rfl, ?_⟩
    refine qm_G.s1 rfl (qm_x_icmp_eq_t ⟨by decide, by decide⟩ ⟨by decide, by decide⟩ (by decide)) ?_
    exact ih _ _ _ _ _ _ hI.next
