/-! THE TICKET of the model -/
def qm_Tm (J0 J : qm_J) (m : Int) (F : Nat → Int) : Prop := (∀ r s i, ¬ (r = 61 ∧ i = 18) → r ≠ 72 → J r s i = J0 r s i) ∧ J 61 0 18 = m ∧ ∀ i : Nat, (i : Int) < m → J 72 0 i = F i
theorem qm_Tm.push {J0 J : qm_J} {m c : Int} {F : Nat → Int} (h : qm_Tm J0 J m F) (h0 : 0 ≤ m) (hc : F m.toNat = c) : qm_Tm J0 (qm_set (qm_set J 61 0 18 (m + 1)) 72 0 m.toNat c) (m + 1) F := by
  obtain ⟨h1, h2, h3⟩ := h
  refine ⟨fun r s i a b => ?_, ?_, fun i hi => ?_⟩
  · rw [qm_st_ne (by omega), qm_st_ne (by omega)]; exact h1 r s i a b
  · rw [qm_st_ne (by omega)]; exact qm_st_eq
  · by_cases c9 : (i : Int) < m
    · rw [qm_st_ne (by omega), qm_st_ne (by omega)]; exact h3 i c9
    · rw [show i = m.toNat by omega, qm_st_eq, hc]
theorem qm_pow9 {e : Nat} (h : e ≤ 9) : ((10 ^ e : Nat) : Int) ≤ 1000000000 := by
  have := Nat.pow_le_pow_right (n := 10) (by decide) h
  have e9 : (10 : Nat) ^ 9 = 1000000000 := rfl
  omega
theorem qm_pow1 {e : Nat} : 1 ≤ ((10 ^ e : Nat) : Int) := by
  have := Nat.pow_pos (n := e) (show 0 < 10 by decide)
  omega
theorem qm_m_wr {S : List qm_Sh} {K : qm_J} {L : qm_Ct Int64} {D : qm_Ct UInt64} {R : qm_Ct (Option qm_Rf)} {X : Nat × (Nat → Int32)} {Q : Option qm_V → qm_Hp → Prop} {J0 J : qm_J} {m c : Int} {F : Nat → Int} (hS : qm_Sd S) (hR : qm_Rd R) (U : qm_Tm J0 J m F) (hm : 0 ≤ m ∧ m < 40) (hc : F m.toNat = c) (k : ∀ J', qm_Tm J0 J' (m + 1) F → Q none (qm_H S J' K L D R X)) : qm_C qm_P 30 [qm_R (some (0, 61, 0)), qm_I (qm_i c)] (qm_H S J K L D R X) Q := by
  refine qm_C.go (cd := qm_P30) (lv := [(0, qm_R (some (0, 61, 0))), (1, qm_I (qm_i c))]) rfl rfl ?_
  refine qm_G.s1 rfl (qm_x_aload rfl) ?_
  refine qm_G.s1 rfl (qm_x_getfR (q := (some (0, 72, 0))) (hS 61 rfl) (hR 61 19 72 rfl rfl)) ?_
  refine qm_G.s1 rfl (qm_x_aload rfl) ?_
  refine qm_G.s1 rfl (qm_x_dupR) ?_
  refine qm_G.s1 rfl (qm_x_getfI (v := m) (hS 61 rfl) U.2.1) ?_
  refine qm_G.s1 rfl (qm_x_dup_x1 rfl) ?_
  refine qm_G.s1 rfl (qm_x_pushI 1 rfl) ?_
  refine qm_G.s1 rfl (qm_x_iadd) ?_
  refine qm_G.s1 rfl (qm_x_putfI (hS 61 rfl)) ?_
  refine qm_G.s1 rfl (qm_x_iload rfl) ?_
  refine qm_G.s1 rfl (qm_x_iast (qm_arS hS rfl rfl) rfl (by omega) (by omega) (by decide)) ?_
  exact qm_G.retv rfl (k _ (U.push hm.1 hc))
theorem qm_m_wa {S : List qm_Sh} {K : qm_J} {L : qm_Ct Int64} {D : qm_Ct UInt64} {R : qm_Ct (Option qm_Rf)} {X : Nat × (Nat → Int32)} {Q : Option qm_V → qm_Hp → Prop} {J : qm_J} {Y d : Nat} (hd : qm_dn Y d) (hY : Y ≤ 2147483648) : ∀ (t e : Nat) (P : Int), e + t + 1 = d → P = ((10 ^ e : Nat) : Int) → (∀ P : Int, P = ((10 ^ (d - 1) : Nat) : Int) → qm_G qm_P qm_P66 42 [(0, qm_R (some (0, 61, 0))), (3, qm_L (qm_l (Y : Int))), (5, qm_L (qm_l P))] [] (qm_H S J K L D R X) Q) → qm_G qm_P qm_P66 20 [(0, qm_R (some (0, 61, 0))), (3, qm_L (qm_l (Y : Int))), (5, qm_L (qm_l P))] [] (qm_H S J K L D R X) Q := by
  have hd10 := qm_dn_le hd hY
  intro t
  induction t with
  | zero =>
    intro e P he hP k
    have p1 : 1 ≤ P := hP ▸ qm_pow1
    have p9 : P ≤ 1000000000 := hP ▸ qm_pow9 (by omega)
    have v9 : (Y : Int) / P ≤ 9 ∧ 0 ≤ (Y : Int) / P := by
      have h1 := hd.2.1
      rw [show d = e + 1 by omega, Nat.pow_succ, Nat.mul_comm] at h1
      have h2 : Y / 10 ^ e < 10 := (Nat.div_lt_iff_lt_mul (Nat.pow_pos (by decide))).mpr h1
      rw [hP, ← Int.natCast_ediv]
      generalize Y / 10 ^ e = W at h2 ⊢
      omega
    refine qm_G.pk (lv1 := [(0, qm_R (some (0, 61, 0))), (3, qm_L (qm_l (Y : Int))), (5, qm_L (qm_l P))]) rfl rfl rfl ?_
    refine qm_G.sp (lv1 := [(0, qm_R (some (0, 61, 0))), (3, qm_L (qm_l (Y : Int))), (5, qm_L (qm_l P))]) rfl rfl (qm_x_lload rfl) ?_
    refine qm_G.s1 rfl (qm_x_lload rfl) ?_
    refine qm_G.s1 rfl (qm_x_ldivz ⟨by omega, by omega⟩ ⟨by omega, by omega⟩) ?_
    refine qm_G.s1 rfl (qm_x_pushL 9 rfl) ?_
    refine qm_y_lcmp rfl ⟨by omega, by omega⟩ ⟨by omega, by omega⟩ (fun c1 => ?_) (fun c1 => ?_) (fun c1 => absurd c1 (by omega))
    · refine qm_G.s1 rfl (qm_x_if_le_t ⟨by decide, by decide⟩ (by decide)) ?_
      refine qm_G.pk (lv1 := [(0, qm_R (some (0, 61, 0))), (3, qm_L (qm_l (Y : Int))), (5, qm_L (qm_l P))]) rfl rfl rfl ?_
      exact k P (by rw [hP, show d - 1 = e by omega])
    · refine qm_G.s1 rfl (qm_x_if_le_t ⟨by decide, by decide⟩ (by decide)) ?_
      refine qm_G.pk (lv1 := [(0, qm_R (some (0, 61, 0))), (3, qm_L (qm_l (Y : Int))), (5, qm_L (qm_l P))]) rfl rfl rfl ?_
      exact k P (by rw [hP, show d - 1 = e by omega])
  | succ t ih =>
    intro e P he hP k
    have p1 : 1 ≤ P := hP ▸ qm_pow1
    have p9 : P ≤ 1000000000 := hP ▸ qm_pow9 (by omega)
    have v9 : 10 ≤ (Y : Int) / P ∧ (Y : Int) / P ≤ 2147483648 := by
      have h1 : 10 ^ (e + 1) ≤ Y := by
        rcases hd.2.2 with h3 | h3
        · exact Nat.le_trans (Nat.pow_le_pow_right (by decide) (by omega)) h3
        · omega
      rw [Nat.pow_succ, Nat.mul_comm] at h1
      have h2 : 10 ≤ Y / 10 ^ e := (Nat.le_div_iff_mul_le (Nat.pow_pos (by decide))).mpr h1
      have h4 := Nat.div_le_self Y (10 ^ e)
      rw [hP, ← Int.natCast_ediv]
      generalize Y / 10 ^ e = W at h2 h4 ⊢
      omega
    refine qm_G.pk (lv1 := [(0, qm_R (some (0, 61, 0))), (3, qm_L (qm_l (Y : Int))), (5, qm_L (qm_l P))]) rfl rfl rfl ?_
    refine qm_G.sp (lv1 := [(0, qm_R (some (0, 61, 0))), (3, qm_L (qm_l (Y : Int))), (5, qm_L (qm_l P))]) rfl rfl (qm_x_lload rfl) ?_
    refine qm_G.s1 rfl (qm_x_lload rfl) ?_
    refine qm_G.s1 rfl (qm_x_ldivz ⟨by omega, by omega⟩ ⟨by omega, by omega⟩) ?_
    refine qm_G.s1 rfl (qm_x_pushL 9 rfl) ?_
    refine qm_G.s1 rfl (qm_x_lcmpz_gt ⟨by omega, by omega⟩ ⟨by omega, by omega⟩ (by omega)) ?_
    refine qm_G.s1 rfl (qm_x_if_le_f ⟨by decide, by decide⟩ (by decide)) ?_
    refine qm_G.s1 rfl (qm_x_lload rfl) ?_
    refine qm_G.s1 rfl (qm_x_pushL 10 rfl) ?_
    refine qm_G.s1 rfl (qm_x_lmulz) ?_
    refine qm_G.s1 rfl (qm_x_lstore (lv' := [(5, qm_L (qm_l (P * 10))), (0, qm_R (some (0, 61, 0))), (3, qm_L (qm_l (Y : Int)))]) rfl) ?_
    refine qm_G.s1 rfl (qm_x_goto) ?_
    refine qm_G.pk (lv1 := [(0, qm_R (some (0, 61, 0))), (3, qm_L (qm_l (Y : Int))), (5, qm_L (qm_l (P * 10)))]) rfl rfl rfl ?_
    exact ih (e + 1) _ (by omega) (by rw [hP, Nat.pow_succ]; omega) k
theorem qm_m_wb {S : List qm_Sh} {K : qm_J} {L : qm_Ct Int64} {D : qm_Ct UInt64} {R : qm_Ct (Option qm_Rf)} {X : Nat × (Nat → Int32)} {Q : Option qm_V → qm_Hp → Prop} {J0 : qm_J} {Y : Nat} {m0 n : Int} {F : Nat → Int} (hS : qm_Sd S) (hR : qm_Rd R) (hY : Y ≤ 2147483648) (hm : 0 ≤ m0 ∧ m0 + n ≤ 40) (hk : ∀ J', qm_Tm J0 J' (m0 + n) F → Q none (qm_H S J' K L D R X)) : ∀ (t : Nat) (P m : Int) (J : qm_J), t ≤ 10 → m + t = m0 + n → m0 ≤ m → (t = 0 → P = 0) → (1 ≤ t → P = ((10 ^ (t - 1) : Nat) : Int)) → (∀ j, j < t → F (m.toNat + j) = 48 + ((Y / 10 ^ (t - 1 - j) % 10 : Nat) : Int)) → qm_Tm J0 J m F → qm_G qm_P qm_P66 42 [(0, qm_R (some (0, 61, 0))), (3, qm_L (qm_l (Y : Int))), (5, qm_L (qm_l P))] [] (qm_H S J K L D R X) Q := by
  intro t
  induction t with
  | zero =>
    intro P m J ht hmt h0 hz hP hF U
    have p0 := hz rfl
    refine qm_G.pk (lv1 := [(0, qm_R (some (0, 61, 0))), (3, qm_L (qm_l (Y : Int))), (5, qm_L (qm_l P))]) rfl rfl rfl ?_
    refine qm_G.sp (lv1 := [(0, qm_R (some (0, 61, 0))), (3, qm_L (qm_l (Y : Int))), (5, qm_L (qm_l P))]) rfl rfl (qm_x_lload rfl) ?_
    refine qm_G.s1 rfl (qm_x_pushL 0 rfl) ?_
    refine qm_G.s1 rfl (qm_x_lcmpz_eq (by omega)) ?_
    refine qm_G.s1 rfl (qm_x_if_le_t ⟨by decide, by decide⟩ (by decide)) ?_
    refine qm_G.retv rfl (hk _ ?_)
    rw [show m0 + n = m by omega]
    exact U
  | succ t ih =>
    intro P m J ht hmt h0 hz hP hF U
    have pp := hP (by omega)
    rw [show t + 1 - 1 = t by omega] at pp
    have p1 : 1 ≤ P := pp ▸ qm_pow1
    have p9 : P ≤ 1000000000 := pp ▸ qm_pow9 (by omega)
    have v9 : 0 ≤ (Y : Int) / P ∧ (Y : Int) / P ≤ 2147483648 := by
      have h4 := Nat.div_le_self Y (10 ^ t)
      rw [pp, ← Int.natCast_ediv]
      generalize Y / 10 ^ t = W at h4 ⊢
      omega
    have f9 : F m.toNat = 48 + (Y : Int) / P % 10 := by
      have h5 := hF 0 (by omega)
      rw [Nat.add_zero, show t + 1 - 1 - 0 = t by omega] at h5
      rw [h5, pp, ← Int.natCast_ediv]
      generalize Y / 10 ^ t = W
      omega
    refine qm_G.pk (lv1 := [(0, qm_R (some (0, 61, 0))), (3, qm_L (qm_l (Y : Int))), (5, qm_L (qm_l P))]) rfl rfl rfl ?_
    refine qm_G.sp (lv1 := [(0, qm_R (some (0, 61, 0))), (3, qm_L (qm_l (Y : Int))), (5, qm_L (qm_l P))]) rfl rfl (qm_x_lload rfl) ?_
    refine qm_G.s1 rfl (qm_x_pushL 0 rfl) ?_
    refine qm_G.s1 rfl (qm_x_lcmpz_gt ⟨by omega, by omega⟩ ⟨by omega, by omega⟩ (by omega)) ?_
    refine qm_G.s1 rfl (qm_x_if_le_f ⟨by decide, by decide⟩ (by decide)) ?_
    refine qm_G.s1 rfl (qm_x_aload rfl) ?_
    refine qm_G.s1 rfl (qm_x_pushI 48 rfl) ?_
    refine qm_G.s1 rfl (qm_x_lload rfl) ?_
    refine qm_G.s1 rfl (qm_x_lload rfl) ?_
    refine qm_G.s1 rfl (qm_x_ldivz ⟨by omega, by omega⟩ ⟨by omega, by omega⟩) ?_
    refine qm_G.s1 rfl (qm_x_pushL 10 rfl) ?_
    refine qm_G.s1 rfl (qm_x_lremz ⟨by omega, by omega⟩ ⟨by omega, by omega⟩) ?_
    refine qm_G.s1 rfl (qm_x_l2i ⟨by omega, by omega⟩) ?_
    refine qm_G.s1 rfl (qm_x_iadd) ?_
    refine qm_G.cmv rfl rfl (hS 61 rfl) rfl ?_
    refine qm_m_wr hS hR U (by omega) f9 (fun J1 U1 => ⟨rfl, ?_⟩)
    refine qm_G.s1 rfl (qm_x_lload rfl) ?_
    refine qm_G.s1 rfl (qm_x_pushL 10 rfl) ?_
    refine qm_G.s1 rfl (qm_x_ldivz ⟨by omega, by omega⟩ ⟨by omega, by omega⟩) ?_
    refine qm_G.s1 rfl (qm_x_lstore (lv' := [(5, qm_L (qm_l (P / 10))), (0, qm_R (some (0, 61, 0))), (3, qm_L (qm_l (Y : Int)))]) rfl) ?_
    refine qm_G.s1 rfl (qm_x_goto) ?_
    refine qm_G.pk (lv1 := [(0, qm_R (some (0, 61, 0))), (3, qm_L (qm_l (Y : Int))), (5, qm_L (qm_l (P / 10)))]) rfl rfl rfl ?_
    refine ih _ (m + 1) _ (by omega) (by omega) (by omega) (fun h => ?_) (fun h => ?_) (fun j hj => ?_) U1
    · rw [pp, h, Nat.pow_zero]; rfl
    · rw [pp, show t = t - 1 + 1 by omega, Nat.pow_succ, show t - 1 + 1 - 1 = t - 1 by omega]; omega
    · have h5 := hF (j + 1) (by omega)
      rw [show (m + 1).toNat + j = m.toNat + (j + 1) by omega, h5, show t + 1 - 1 - (j + 1) = t - 1 - j by omega]
theorem qm_m_wn {S : List qm_Sh} {K : qm_J} {L : qm_Ct Int64} {D : qm_Ct UInt64} {R : qm_Ct (Option qm_Rf)} {X : Nat × (Nat → Int32)} {Q : Option qm_V → qm_Hp → Prop} {J0 J : qm_J} {x m : Int} {d : Nat} {F : Nat → Int} (hS : qm_Sd S) (hR : qm_Rd R) (hx : qm_sm x) (hd : qm_dn x.natAbs d) (U : qm_Tm J0 J m F) (hm : 0 ≤ m ∧ m + (qm_sgn x d : Int) ≤ 40) (hF : ∀ j, j < qm_sgn x d → F (m.toNat + j) = qm_dg x (qm_sgn x d) j) (k : ∀ J', qm_Tm J0 J' (m + (qm_sgn x d : Int)) F → Q none (qm_H S J' K L D R X)) : qm_C qm_P 66 [qm_R (some (0, 61, 0)), qm_L (qm_l x)] (qm_H S J K L D R X) Q := by
  have hd10 := qm_dn_le hd (by omega)
  have hd1 := hd.1
  rcases (show x < 0 ∨ 0 ≤ x by omega) with c | c
  · have hs : qm_sgn x d = d + 1 := if_pos c
    rw [hs] at hm hF k
    refine qm_C.go (cd := qm_P66) (lv := [(0, qm_R (some (0, 61, 0))), (1, qm_L (qm_l x))]) rfl rfl ?_
    refine qm_G.s1 rfl (qm_x_lload rfl) ?_
    refine qm_G.s1 rfl (qm_x_lstore (lv' := [(3, qm_L (qm_l x)), (0, qm_R (some (0, 61, 0))), (1, qm_L (qm_l x))]) rfl) ?_
    refine qm_G.s1 rfl (qm_x_lload rfl) ?_
    refine qm_G.s1 rfl (qm_x_pushL 0 rfl) ?_
    refine qm_G.s1 rfl (qm_x_lcmpz_lt ⟨by omega, by omega⟩ ⟨by omega, by omega⟩ (by omega)) ?_
    refine qm_G.s1 rfl (qm_x_if_ge_f ⟨by decide, by decide⟩ (by decide)) ?_
    refine qm_G.s1 rfl (qm_x_aload rfl) ?_
    refine qm_G.s1 rfl (qm_x_pushI 45 rfl) ?_
    refine qm_G.cmv rfl rfl (hS 61 rfl) rfl ?_
    refine qm_m_wr hS hR U (by omega) (by have h5 := hF 0 (by omega); rw [Nat.add_zero] at h5; rw [h5]; exact if_pos ⟨c, rfl⟩) (fun J1 U1 => ⟨rfl, ?_⟩)
    refine qm_G.s1 rfl (qm_x_lload rfl) ?_
    refine qm_G.s1 rfl (qm_x_lnegz) ?_
    refine qm_G.s1 rfl (qm_x_lstore (lv' := [(3, qm_L (qm_l (-x))), (0, qm_R (some (0, 61, 0))), (1, qm_L (qm_l x))]) rfl) ?_
    refine qm_G.sp (lv1 := [(0, qm_R (some (0, 61, 0))), (3, qm_L (qm_l (-x)))]) rfl rfl (qm_x_pushL 1 rfl) ?_
    refine qm_G.s1 rfl (qm_x_lstore (lv' := [(5, qm_L (qm_l 1)), (0, qm_R (some (0, 61, 0))), (3, qm_L (qm_l (-x)))]) rfl) ?_
    rw [show (-x) = ((x.natAbs : Nat) : Int) by omega]
    refine qm_G.pk (lv1 := [(0, qm_R (some (0, 61, 0))), (3, qm_L (qm_l (x.natAbs : Int))), (5, qm_L (qm_l 1))]) rfl rfl rfl ?_
    refine qm_m_wa hd (by omega) (d - 1) 0 1 (by omega) (by rw [Nat.pow_zero]; rfl) (fun P hP => ?_)
    refine qm_m_wb (m0 := m) (n := ((d + 1 : Nat) : Int)) hS hR (by omega) (by omega) k d P (m + 1) _ (by omega) (by omega) (by omega) (fun h => by omega) (fun _ => hP) (fun j hj => ?_) U1
    rw [show (m + 1).toNat + j = m.toNat + (j + 1) by omega, hF (j + 1) (by omega)]
    unfold qm_dg
    rw [if_neg (by omega), show d + 1 - 1 - (j + 1) = d - 1 - j by omega]
  · have hs : qm_sgn x d = d := if_neg (by omega)
    rw [hs] at hm hF k
    refine qm_C.go (cd := qm_P66) (lv := [(0, qm_R (some (0, 61, 0))), (1, qm_L (qm_l x))]) rfl rfl ?_
    refine qm_G.s1 rfl (qm_x_lload rfl) ?_
    refine qm_G.s1 rfl (qm_x_lstore (lv' := [(3, qm_L (qm_l x)), (0, qm_R (some (0, 61, 0))), (1, qm_L (qm_l x))]) rfl) ?_
    refine qm_G.s1 rfl (qm_x_lload rfl) ?_
    refine qm_G.s1 rfl (qm_x_pushL 0 rfl) ?_
    refine qm_y_lcmp rfl ⟨by omega, by omega⟩ ⟨by omega, by omega⟩ (fun c1 => absurd c1 (by omega)) (fun c1 => ?_) (fun c1 => ?_)
    · refine qm_G.s1 rfl (qm_x_if_ge_t ⟨by decide, by decide⟩ (by decide)) ?_
      refine qm_G.sp (lv1 := [(0, qm_R (some (0, 61, 0))), (3, qm_L (qm_l x))]) rfl rfl (qm_x_pushL 1 rfl) ?_
      refine qm_G.s1 rfl (qm_x_lstore (lv' := [(5, qm_L (qm_l 1)), (0, qm_R (some (0, 61, 0))), (3, qm_L (qm_l x))]) rfl) ?_
      rw [show x = ((x.natAbs : Nat) : Int) by omega]
      refine qm_G.pk (lv1 := [(0, qm_R (some (0, 61, 0))), (3, qm_L (qm_l (x.natAbs : Int))), (5, qm_L (qm_l 1))]) rfl rfl rfl ?_
      refine qm_m_wa hd (by omega) (d - 1) 0 1 (by omega) (by rw [Nat.pow_zero]; rfl) (fun P hP => ?_)
      refine qm_m_wb (m0 := m) (n := (d : Int)) hS hR (by omega) (by omega) k d P m _ (by omega) (by omega) (by omega) (fun h => by omega) (fun _ => hP) (fun j hj => ?_) U
      rw [hF j (by omega)]
      unfold qm_dg
      rw [if_neg (by omega)]
    · refine qm_G.s1 rfl (qm_x_if_ge_t ⟨by decide, by decide⟩ (by decide)) ?_
      refine qm_G.sp (lv1 := [(0, qm_R (some (0, 61, 0))), (3, qm_L (qm_l x))]) rfl rfl (qm_x_pushL 1 rfl) ?_
      refine qm_G.s1 rfl (qm_x_lstore (lv' := [(5, qm_L (qm_l 1)), (0, qm_R (some (0, 61, 0))), (3, qm_L (qm_l x))]) rfl) ?_
      rw [show x = ((x.natAbs : Nat) : Int) by omega]
      refine qm_G.pk (lv1 := [(0, qm_R (some (0, 61, 0))), (3, qm_L (qm_l (x.natAbs : Int))), (5, qm_L (qm_l 1))]) rfl rfl rfl ?_
      refine qm_m_wa hd (by omega) (d - 1) 0 1 (by omega) (by rw [Nat.pow_zero]; rfl) (fun P hP => ?_)
      refine qm_m_wb (m0 := m) (n := (d : Int)) hS hR (by omega) (by omega) k d P m _ (by omega) (by omega) (by omega) (fun h => by omega) (fun _ => hP) (fun j hj => ?_) U
      rw [hF j (by omega)]
      unfold qm_dg
      rw [if_neg (by omega)]
theorem qm_m_wal22 {S : List qm_Sh} {K : qm_J} {L : qm_Ct Int64} {D : qm_Ct UInt64} {R : qm_Ct (Option qm_Rf)} {X : Nat × (Nat → Int32)} {Q : Option qm_V → qm_Hp → Prop} {J0 J : qm_J} {m : Int} {F : Nat → Int} (hS : qm_Sd S) (hR : qm_Rd R) (U : qm_Tm J0 J m F) (hm : 0 ≤ m ∧ m + 4 ≤ 40) (hF : ∀ j, j < 4 → F (m.toNat + j) = (qm_SB 35 j).toInt) (k : ∀ J', qm_Tm J0 J' (m + 4) F → Q none (qm_H S J' K L D R X)) : qm_C qm_P 176 [qm_R (some (0, 61, 0)), qm_R (some (1, 22, 0))] (qm_H S J K L D R X) Q := by
  refine qm_C.go (cd := qm_P176) (lv := [(0, qm_R (some (0, 61, 0))), (1, qm_R (some (1, 22, 0)))]) rfl rfl ?_
  refine qm_G.s1 rfl (qm_x_pushI 0 rfl) ?_
  refine qm_G.s1 rfl (qm_x_istore (lv' := [(2, qm_I (qm_i 0)), (0, qm_R (some (0, 61, 0))), (1, qm_R (some (1, 22, 0)))]) rfl) ?_
  refine qm_G.sp (lv1 := [(0, qm_R (some (0, 61, 0))), (1, qm_R (some (1, 22, 0))), (2, qm_I (qm_i 0))]) rfl rfl (qm_x_iload rfl) ?_
  refine qm_G.s1 rfl (qm_x_aload rfl) ?_
  refine qm_G.call rfl rfl rfl ?_
  refine qm_C.go (cd := qm_P53) (lv := [(0, qm_R (some (1, 22, 0)))]) rfl rfl ?_
  refine qm_G.s1 rfl (qm_x_aload rfl) ?_
  refine qm_G.s1 rfl (qm_x_getgR rfl rfl) ?_
  refine qm_G.s1 rfl (qm_x_alen1 (len := 4) rfl) ?_
  refine qm_G.s1 rfl (qm_x_aload rfl) ?_
  refine qm_G.call rfl rfl rfl ?_
  refine qm_C.go (cd := qm_P0) (lv := [(0, qm_R (some (1, 22, 0)))]) rfl rfl ?_
  refine qm_G.s1 rfl (qm_x_pushI 1 rfl) ?_
  refine qm_G.s1 rfl (qm_x_if_eq_f ⟨by decide, by decide⟩ (by decide)) ?_
  refine qm_G.s1 rfl (qm_x_aload rfl) ?_
  refine qm_G.s1 rfl (qm_x_getgI (v := 0) rfl rfl) ?_
  refine qm_G.s1 rfl (qm_x_goto) ?_
  refine qm_G.ret rfl rfl ⟨_, rfl, ?_⟩
  refine qm_G.s1 rfl (qm_x_ishr0) ?_
  refine qm_G.ret rfl rfl ⟨_, rfl, ?_⟩
  refine qm_G.s1 rfl (qm_x_icmp_ge_f ⟨by decide, by decide⟩ ⟨by decide, by decide⟩ (by decide)) ?_
  refine qm_G.s1 rfl (qm_x_aload rfl) ?_
  refine qm_G.s1 rfl (qm_x_aload rfl) ?_
  refine qm_G.s1 rfl (qm_x_iload rfl) ?_
  refine qm_G.call rfl rfl rfl ?_
  refine qm_C.go (cd := qm_P162) (lv := [(0, qm_R (some (1, 22, 0))), (1, qm_I (qm_i 0))]) rfl rfl ?_
  refine qm_G.s1 rfl (qm_x_aload rfl) ?_
  refine qm_G.call rfl rfl rfl ?_
  refine qm_C.go (cd := qm_P1) (lv := [(0, qm_R (some (1, 22, 0)))]) rfl rfl ?_
  refine qm_G.s1 rfl (qm_x_pushI 1 rfl) ?_
  refine qm_G.s1 rfl (qm_x_if_eq_f ⟨by decide, by decide⟩ (by decide)) ?_
  refine qm_G.s1 rfl (qm_x_aload rfl) ?_
  refine qm_G.s1 rfl (qm_x_getgI (v := 0) rfl rfl) ?_
  refine qm_G.s1 rfl (qm_x_if_ne_f ⟨by decide, by decide⟩ (by decide)) ?_
  refine qm_G.s1 rfl (qm_x_pushI 1 rfl) ?_
  refine qm_G.s1 rfl (qm_x_goto) ?_
  refine qm_G.ret rfl rfl ⟨_, rfl, ?_⟩
  refine qm_G.s1 rfl (qm_x_if_eq_f ⟨by decide, by decide⟩ (by decide)) ?_
  refine qm_G.s1 rfl (qm_x_aload rfl) ?_
  refine qm_G.s1 rfl (qm_x_getgR rfl rfl) ?_
  refine qm_G.s1 rfl (qm_x_iload rfl) ?_
  refine qm_G.cs rfl rfl rfl ?_
  refine qm_C.go (cd := qm_P134) (lv := [(0, qm_R (some (1, 35, 0))), (1, qm_I (qm_i 0))]) rfl rfl ?_
  refine qm_G.s1 rfl (qm_x_iload rfl) ?_
  refine qm_G.s1 rfl (qm_x_aload rfl) ?_
  refine qm_G.s1 rfl (qm_x_alen1 (len := 4) rfl) ?_
  refine qm_G.csv rfl rfl rfl ?_
  refine qm_C.go (cd := qm_P69) (lv := [(0, qm_I (qm_i 0)), (1, qm_I (qm_i 4))]) rfl rfl ?_
  refine qm_G.s1 rfl (qm_x_iload rfl) ?_
  refine qm_G.s1 rfl (qm_x_iload rfl) ?_
  refine qm_G.s1 rfl (show qm_St (qm_o_sio 5) _ _ _ _ _ (qm_R (qm_sio X) :: _) _ from rfl) ?_
  refine qm_G.cs rfl rfl rfl ?_
  refine qm_C.go (cd := qm_P3) (lv := [(0, qm_I (qm_i 0)), (1, qm_I (qm_i 4)), (2, qm_R ((qm_sio X)))]) rfl rfl ?_
  refine qm_G.s1 rfl (qm_x_iload rfl) ?_
  refine qm_G.s1 rfl (qm_x_if_lt_f ⟨by decide, by decide⟩ (by decide)) ?_
  refine qm_G.s1 rfl (qm_x_iload rfl) ?_
  refine qm_G.s1 rfl (qm_x_iload rfl) ?_
  refine qm_G.s1 rfl (qm_x_icmp_lt_t ⟨by decide, by decide⟩ ⟨by decide, by decide⟩ (by decide)) ?_
  refine qm_G.sp (lv1 := [(0, qm_I (qm_i 0))]) rfl rfl (qm_x_iload rfl) ?_
  refine qm_G.ret rfl rfl ⟨_, rfl, ?_⟩
  refine qm_G.s1 rfl (qm_x_popI) ?_
  refine qm_G.retv rfl ⟨rfl, ?_⟩
  refine qm_G.s1 rfl (qm_x_aload rfl) ?_
  refine qm_G.s1 rfl (qm_x_iload rfl) ?_
  refine qm_G.s1 rfl (qm_x_bald1 (len := 4) (v := 108) rfl rfl (by decide) (by decide) rfl) ?_
  refine qm_G.s1 rfl (qm_x_pushI 255 rfl) ?_
  refine qm_G.s1 rfl (qm_x_iand255 (by omega)) ?_
  refine qm_G.s1 rfl (qm_x_i2c (by omega)) ?_
  refine qm_G.ret rfl rfl ⟨_, rfl, ?_⟩
  refine qm_G.ret rfl rfl ⟨_, rfl, ?_⟩
  refine qm_G.cmv rfl rfl (hS 61 rfl) rfl ?_
  refine qm_m_wr hS hR U (by omega) (by rw [show Int.toNat m = m.toNat + 0 by omega, hF 0 (by decide)]; rfl) (fun J1 U1 => ⟨rfl, ?_⟩)
  refine qm_G.s1 rfl (qm_x_iinc (lv' := [(2, qm_I (qm_i (0 + 1))), (0, qm_R (some (0, 61, 0))), (1, qm_R (some (1, 22, 0)))]) 1 rfl rfl rfl) ?_
  refine qm_G.s1 rfl (qm_x_goto) ?_
  refine qm_G.sp (lv1 := [(0, qm_R (some (0, 61, 0))), (1, qm_R (some (1, 22, 0))), (2, qm_I (qm_i (0 + 1)))]) rfl rfl (qm_x_iload rfl) ?_
  refine qm_G.s1 rfl (qm_x_aload rfl) ?_
  refine qm_G.call rfl rfl rfl ?_
  refine qm_C.go (cd := qm_P53) (lv := [(0, qm_R (some (1, 22, 0)))]) rfl rfl ?_
  refine qm_G.s1 rfl (qm_x_aload rfl) ?_
  refine qm_G.s1 rfl (qm_x_getgR rfl rfl) ?_
  refine qm_G.s1 rfl (qm_x_alen1 (len := 4) rfl) ?_
  refine qm_G.s1 rfl (qm_x_aload rfl) ?_
  refine qm_G.call rfl rfl rfl ?_
  refine qm_C.go (cd := qm_P0) (lv := [(0, qm_R (some (1, 22, 0)))]) rfl rfl ?_
  refine qm_G.s1 rfl (qm_x_pushI 1 rfl) ?_
  refine qm_G.s1 rfl (qm_x_if_eq_f ⟨by decide, by decide⟩ (by decide)) ?_
  refine qm_G.s1 rfl (qm_x_aload rfl) ?_
  refine qm_G.s1 rfl (qm_x_getgI (v := 0) rfl rfl) ?_
  refine qm_G.s1 rfl (qm_x_goto) ?_
  refine qm_G.ret rfl rfl ⟨_, rfl, ?_⟩
  refine qm_G.s1 rfl (qm_x_ishr0) ?_
  refine qm_G.ret rfl rfl ⟨_, rfl, ?_⟩
  refine qm_G.s1 rfl (qm_x_icmp_ge_f ⟨by decide, by decide⟩ ⟨by decide, by decide⟩ (by decide)) ?_
  refine qm_G.s1 rfl (qm_x_aload rfl) ?_
  refine qm_G.s1 rfl (qm_x_aload rfl) ?_
  refine qm_G.s1 rfl (qm_x_iload rfl) ?_
  refine qm_G.call rfl rfl rfl ?_
  refine qm_C.go (cd := qm_P162) (lv := [(0, qm_R (some (1, 22, 0))), (1, qm_I (qm_i (0 + 1)))]) rfl rfl ?_
  refine qm_G.s1 rfl (qm_x_aload rfl) ?_
  refine qm_G.call rfl rfl rfl ?_
  refine qm_C.go (cd := qm_P1) (lv := [(0, qm_R (some (1, 22, 0)))]) rfl rfl ?_
  refine qm_G.s1 rfl (qm_x_pushI 1 rfl) ?_
  refine qm_G.s1 rfl (qm_x_if_eq_f ⟨by decide, by decide⟩ (by decide)) ?_
  refine qm_G.s1 rfl (qm_x_aload rfl) ?_
  refine qm_G.s1 rfl (qm_x_getgI (v := 0) rfl rfl) ?_
  refine qm_G.s1 rfl (qm_x_if_ne_f ⟨by decide, by decide⟩ (by decide)) ?_
  refine qm_G.s1 rfl (qm_x_pushI 1 rfl) ?_
  refine qm_G.s1 rfl (qm_x_goto) ?_
  refine qm_G.ret rfl rfl ⟨_, rfl, ?_⟩
  refine qm_G.s1 rfl (qm_x_if_eq_f ⟨by decide, by decide⟩ (by decide)) ?_
  refine qm_G.s1 rfl (qm_x_aload rfl) ?_
  refine qm_G.s1 rfl (qm_x_getgR rfl rfl) ?_
  refine qm_G.s1 rfl (qm_x_iload rfl) ?_
  refine qm_G.cs rfl rfl rfl ?_
  refine qm_C.go (cd := qm_P134) (lv := [(0, qm_R (some (1, 35, 0))), (1, qm_I (qm_i (0 + 1)))]) rfl rfl ?_
  refine qm_G.s1 rfl (qm_x_iload rfl) ?_
  refine qm_G.s1 rfl (qm_x_aload rfl) ?_
  refine qm_G.s1 rfl (qm_x_alen1 (len := 4) rfl) ?_
  refine qm_G.csv rfl rfl rfl ?_
  refine qm_C.go (cd := qm_P69) (lv := [(0, qm_I (qm_i (0 + 1))), (1, qm_I (qm_i 4))]) rfl rfl ?_
  refine qm_G.s1 rfl (qm_x_iload rfl) ?_
  refine qm_G.s1 rfl (qm_x_iload rfl) ?_
  refine qm_G.s1 rfl (show qm_St (qm_o_sio 5) _ _ _ _ _ (qm_R (qm_sio X) :: _) _ from rfl) ?_
  refine qm_G.cs rfl rfl rfl ?_
  refine qm_C.go (cd := qm_P3) (lv := [(0, qm_I (qm_i (0 + 1))), (1, qm_I (qm_i 4)), (2, qm_R ((qm_sio X)))]) rfl rfl ?_
  refine qm_G.s1 rfl (qm_x_iload rfl) ?_
  refine qm_G.s1 rfl (qm_x_if_lt_f ⟨by decide, by decide⟩ (by decide)) ?_
  refine qm_G.s1 rfl (qm_x_iload rfl) ?_
  refine qm_G.s1 rfl (qm_x_iload rfl) ?_
  refine qm_G.s1 rfl (qm_x_icmp_lt_t ⟨by decide, by decide⟩ ⟨by decide, by decide⟩ (by decide)) ?_
  refine qm_G.sp (lv1 := [(0, qm_I (qm_i (0 + 1)))]) rfl rfl (qm_x_iload rfl) ?_
  refine qm_G.ret rfl rfl ⟨_, rfl, ?_⟩
  refine qm_G.s1 rfl (qm_x_popI) ?_
  refine qm_G.retv rfl ⟨rfl, ?_⟩
  refine qm_G.s1 rfl (qm_x_aload rfl) ?_
  refine qm_G.s1 rfl (qm_x_iload rfl) ?_
  refine qm_G.s1 rfl (qm_x_bald1 (len := 4) (v := 111) rfl rfl (by decide) (by decide) rfl) ?_
  refine qm_G.s1 rfl (qm_x_pushI 255 rfl) ?_
  refine qm_G.s1 rfl (qm_x_iand255 (by omega)) ?_
  refine qm_G.s1 rfl (qm_x_i2c (by omega)) ?_
  refine qm_G.ret rfl rfl ⟨_, rfl, ?_⟩
  refine qm_G.ret rfl rfl ⟨_, rfl, ?_⟩
  refine qm_G.cmv rfl rfl (hS 61 rfl) rfl ?_
  refine qm_m_wr hS hR U1 (by omega) (by rw [show Int.toNat (m + 1) = m.toNat + 1 by omega, hF 1 (by decide)]; rfl) (fun J2 U2 => ⟨rfl, ?_⟩)
  refine qm_G.s1 rfl (qm_x_iinc (lv' := [(2, qm_I (qm_i ((0 + 1) + 1))), (0, qm_R (some (0, 61, 0))), (1, qm_R (some (1, 22, 0)))]) 1 rfl rfl rfl) ?_
  refine qm_G.s1 rfl (qm_x_goto) ?_
  refine qm_G.sp (lv1 := [(0, qm_R (some (0, 61, 0))), (1, qm_R (some (1, 22, 0))), (2, qm_I (qm_i ((0 + 1) + 1)))]) rfl rfl (qm_x_iload rfl) ?_
  refine qm_G.s1 rfl (qm_x_aload rfl) ?_
  refine qm_G.call rfl rfl rfl ?_
  refine qm_C.go (cd := qm_P53) (lv := [(0, qm_R (some (1, 22, 0)))]) rfl rfl ?_
  refine qm_G.s1 rfl (qm_x_aload rfl) ?_
  refine qm_G.s1 rfl (qm_x_getgR rfl rfl) ?_
  refine qm_G.s1 rfl (qm_x_alen1 (len := 4) rfl) ?_
  refine qm_G.s1 rfl (qm_x_aload rfl) ?_
  refine qm_G.call rfl rfl rfl ?_
  refine qm_C.go (cd := qm_P0) (lv := [(0, qm_R (some (1, 22, 0)))]) rfl rfl ?_
  refine qm_G.s1 rfl (qm_x_pushI 1 rfl) ?_
  refine qm_G.s1 rfl (qm_x_if_eq_f ⟨by decide, by decide⟩ (by decide)) ?_
  refine qm_G.s1 rfl (qm_x_aload rfl) ?_
  refine qm_G.s1 rfl (qm_x_getgI (v := 0) rfl rfl) ?_
  refine qm_G.s1 rfl (qm_x_goto) ?_
  refine qm_G.ret rfl rfl ⟨_, rfl, ?_⟩
  refine qm_G.s1 rfl (qm_x_ishr0) ?_
  refine qm_G.ret rfl rfl ⟨_, rfl, ?_⟩
  refine qm_G.s1 rfl (qm_x_icmp_ge_f ⟨by decide, by decide⟩ ⟨by decide, by decide⟩ (by decide)) ?_
  refine qm_G.s1 rfl (qm_x_aload rfl) ?_
  refine qm_G.s1 rfl (qm_x_aload rfl) ?_
  refine qm_G.s1 rfl (qm_x_iload rfl) ?_
  refine qm_G.call rfl rfl rfl ?_
  refine qm_C.go (cd := qm_P162) (lv := [(0, qm_R (some (1, 22, 0))), (1, qm_I (qm_i ((0 + 1) + 1)))]) rfl rfl ?_
  refine qm_G.s1 rfl (qm_x_aload rfl) ?_
  refine qm_G.call rfl rfl rfl ?_
  refine qm_C.go (cd := qm_P1) (lv := [(0, qm_R (some (1, 22, 0)))]) rfl rfl ?_
  refine qm_G.s1 rfl (qm_x_pushI 1 rfl) ?_
  refine qm_G.s1 rfl (qm_x_if_eq_f ⟨by decide, by decide⟩ (by decide)) ?_
  refine qm_G.s1 rfl (qm_x_aload rfl) ?_
  refine qm_G.s1 rfl (qm_x_getgI (v := 0) rfl rfl) ?_
  refine qm_G.s1 rfl (qm_x_if_ne_f ⟨by decide, by decide⟩ (by decide)) ?_
  refine qm_G.s1 rfl (qm_x_pushI 1 rfl) ?_
  refine qm_G.s1 rfl (qm_x_goto) ?_
  refine qm_G.ret rfl rfl ⟨_, rfl, ?_⟩
  refine qm_G.s1 rfl (qm_x_if_eq_f ⟨by decide, by decide⟩ (by decide)) ?_
  refine qm_G.s1 rfl (qm_x_aload rfl) ?_
  refine qm_G.s1 rfl (qm_x_getgR rfl rfl) ?_
  refine qm_G.s1 rfl (qm_x_iload rfl) ?_
  refine qm_G.cs rfl rfl rfl ?_
  refine qm_C.go (cd := qm_P134) (lv := [(0, qm_R (some (1, 35, 0))), (1, qm_I (qm_i ((0 + 1) + 1)))]) rfl rfl ?_
  refine qm_G.s1 rfl (qm_x_iload rfl) ?_
  refine qm_G.s1 rfl (qm_x_aload rfl) ?_
  refine qm_G.s1 rfl (qm_x_alen1 (len := 4) rfl) ?_
  refine qm_G.csv rfl rfl rfl ?_
  refine qm_C.go (cd := qm_P69) (lv := [(0, qm_I (qm_i ((0 + 1) + 1))), (1, qm_I (qm_i 4))]) rfl rfl ?_
  refine qm_G.s1 rfl (qm_x_iload rfl) ?_
  refine qm_G.s1 rfl (qm_x_iload rfl) ?_
  refine qm_G.s1 rfl (show qm_St (qm_o_sio 5) _ _ _ _ _ (qm_R (qm_sio X) :: _) _ from rfl) ?_
  refine qm_G.cs rfl rfl rfl ?_
  refine qm_C.go (cd := qm_P3) (lv := [(0, qm_I (qm_i ((0 + 1) + 1))), (1, qm_I (qm_i 4)), (2, qm_R ((qm_sio X)))]) rfl rfl ?_
  refine qm_G.s1 rfl (qm_x_iload rfl) ?_
  refine qm_G.s1 rfl (qm_x_if_lt_f ⟨by decide, by decide⟩ (by decide)) ?_
  refine qm_G.s1 rfl (qm_x_iload rfl) ?_
  refine qm_G.s1 rfl (qm_x_iload rfl) ?_
  refine qm_G.s1 rfl (qm_x_icmp_lt_t ⟨by decide, by decide⟩ ⟨by decide, by decide⟩ (by decide)) ?_
  refine qm_G.sp (lv1 := [(0, qm_I (qm_i ((0 + 1) + 1)))]) rfl rfl (qm_x_iload rfl) ?_
  refine qm_G.ret rfl rfl ⟨_, rfl, ?_⟩
  refine qm_G.s1 rfl (qm_x_popI) ?_
  refine qm_G.retv rfl ⟨rfl, ?_⟩
  refine qm_G.s1 rfl (qm_x_aload rfl) ?_
  refine qm_G.s1 rfl (qm_x_iload rfl) ?_
  refine qm_G.s1 rfl (qm_x_bald1 (len := 4) (v := 110) rfl rfl (by decide) (by decide) rfl) ?_
  refine qm_G.s1 rfl (qm_x_pushI 255 rfl) ?_
  refine qm_G.s1 rfl (qm_x_iand255 (by omega)) ?_
  refine qm_G.s1 rfl (qm_x_i2c (by omega)) ?_
  refine qm_G.ret rfl rfl ⟨_, rfl, ?_⟩
  refine qm_G.ret rfl rfl ⟨_, rfl, ?_⟩
  refine qm_G.cmv rfl rfl (hS 61 rfl) rfl ?_
  refine qm_m_wr hS hR U2 (by omega) (by rw [show Int.toNat (m + 1 + 1) = m.toNat + 2 by omega, hF 2 (by decide)]; rfl) (fun J3 U3 => ⟨rfl, ?_⟩)
  refine qm_G.s1 rfl (qm_x_iinc (lv' := [(2, qm_I (qm_i (((0 + 1) + 1) + 1))), (0, qm_R (some (0, 61, 0))), (1, qm_R (some (1, 22, 0)))]) 1 rfl rfl rfl) ?_
  refine qm_G.s1 rfl (qm_x_goto) ?_
  refine qm_G.sp (lv1 := [(0, qm_R (some (0, 61, 0))), (1, qm_R (some (1, 22, 0))), (2, qm_I (qm_i (((0 + 1) + 1) + 1)))]) rfl rfl (qm_x_iload rfl) ?_
  refine qm_G.s1 rfl (qm_x_aload rfl) ?_
  refine qm_G.call rfl rfl rfl ?_
  refine qm_C.go (cd := qm_P53) (lv := [(0, qm_R (some (1, 22, 0)))]) rfl rfl ?_
  refine qm_G.s1 rfl (qm_x_aload rfl) ?_
  refine qm_G.s1 rfl (qm_x_getgR rfl rfl) ?_
  refine qm_G.s1 rfl (qm_x_alen1 (len := 4) rfl) ?_
  refine qm_G.s1 rfl (qm_x_aload rfl) ?_
  refine qm_G.call rfl rfl rfl ?_
  refine qm_C.go (cd := qm_P0) (lv := [(0, qm_R (some (1, 22, 0)))]) rfl rfl ?_
  refine qm_G.s1 rfl (qm_x_pushI 1 rfl) ?_
  refine qm_G.s1 rfl (qm_x_if_eq_f ⟨by decide, by decide⟩ (by decide)) ?_
  refine qm_G.s1 rfl (qm_x_aload rfl) ?_
  refine qm_G.s1 rfl (qm_x_getgI (v := 0) rfl rfl) ?_
  refine qm_G.s1 rfl (qm_x_goto) ?_
  refine qm_G.ret rfl rfl ⟨_, rfl, ?_⟩
  refine qm_G.s1 rfl (qm_x_ishr0) ?_
  refine qm_G.ret rfl rfl ⟨_, rfl, ?_⟩
  refine qm_G.s1 rfl (qm_x_icmp_ge_f ⟨by decide, by decide⟩ ⟨by decide, by decide⟩ (by decide)) ?_
  refine qm_G.s1 rfl (qm_x_aload rfl) ?_
  refine qm_G.s1 rfl (qm_x_aload rfl) ?_
  refine qm_G.s1 rfl (qm_x_iload rfl) ?_
  refine qm_G.call rfl rfl rfl ?_
  refine qm_C.go (cd := qm_P162) (lv := [(0, qm_R (some (1, 22, 0))), (1, qm_I (qm_i (((0 + 1) + 1) + 1)))]) rfl rfl ?_
  refine qm_G.s1 rfl (qm_x_aload rfl) ?_
  refine qm_G.call rfl rfl rfl ?_
  refine qm_C.go (cd := qm_P1) (lv := [(0, qm_R (some (1, 22, 0)))]) rfl rfl ?_
  refine qm_G.s1 rfl (qm_x_pushI 1 rfl) ?_
  refine qm_G.s1 rfl (qm_x_if_eq_f ⟨by decide, by decide⟩ (by decide)) ?_
  refine qm_G.s1 rfl (qm_x_aload rfl) ?_
  refine qm_G.s1 rfl (qm_x_getgI (v := 0) rfl rfl) ?_
  refine qm_G.s1 rfl (qm_x_if_ne_f ⟨by decide, by decide⟩ (by decide)) ?_
  refine qm_G.s1 rfl (qm_x_pushI 1 rfl) ?_
  refine qm_G.s1 rfl (qm_x_goto) ?_
  refine qm_G.ret rfl rfl ⟨_, rfl, ?_⟩
  refine qm_G.s1 rfl (qm_x_if_eq_f ⟨by decide, by decide⟩ (by decide)) ?_
  refine qm_G.s1 rfl (qm_x_aload rfl) ?_
  refine qm_G.s1 rfl (qm_x_getgR rfl rfl) ?_
  refine qm_G.s1 rfl (qm_x_iload rfl) ?_
  refine qm_G.cs rfl rfl rfl ?_
  refine qm_C.go (cd := qm_P134) (lv := [(0, qm_R (some (1, 35, 0))), (1, qm_I (qm_i (((0 + 1) + 1) + 1)))]) rfl rfl ?_
  refine qm_G.s1 rfl (qm_x_iload rfl) ?_
  refine qm_G.s1 rfl (qm_x_aload rfl) ?_
  refine qm_G.s1 rfl (qm_x_alen1 (len := 4) rfl) ?_
  refine qm_G.csv rfl rfl rfl ?_
  refine qm_C.go (cd := qm_P69) (lv := [(0, qm_I (qm_i (((0 + 1) + 1) + 1))), (1, qm_I (qm_i 4))]) rfl rfl ?_
  refine qm_G.s1 rfl (qm_x_iload rfl) ?_
  refine qm_G.s1 rfl (qm_x_iload rfl) ?_
  refine qm_G.s1 rfl (show qm_St (qm_o_sio 5) _ _ _ _ _ (qm_R (qm_sio X) :: _) _ from rfl) ?_
  refine qm_G.cs rfl rfl rfl ?_
  refine qm_C.go (cd := qm_P3) (lv := [(0, qm_I (qm_i (((0 + 1) + 1) + 1))), (1, qm_I (qm_i 4)), (2, qm_R ((qm_sio X)))]) rfl rfl ?_
  refine qm_G.s1 rfl (qm_x_iload rfl) ?_
  refine qm_G.s1 rfl (qm_x_if_lt_f ⟨by decide, by decide⟩ (by decide)) ?_
  refine qm_G.s1 rfl (qm_x_iload rfl) ?_
  refine qm_G.s1 rfl (qm_x_iload rfl) ?_
  refine qm_G.s1 rfl (qm_x_icmp_lt_t ⟨by decide, by decide⟩ ⟨by decide, by decide⟩ (by decide)) ?_
  refine qm_G.sp (lv1 := [(0, qm_I (qm_i (((0 + 1) + 1) + 1)))]) rfl rfl (qm_x_iload rfl) ?_
  refine qm_G.ret rfl rfl ⟨_, rfl, ?_⟩
  refine qm_G.s1 rfl (qm_x_popI) ?_
  refine qm_G.retv rfl ⟨rfl, ?_⟩
  refine qm_G.s1 rfl (qm_x_aload rfl) ?_
  refine qm_G.s1 rfl (qm_x_iload rfl) ?_
  refine qm_G.s1 rfl (qm_x_bald1 (len := 4) (v := 103) rfl rfl (by decide) (by decide) rfl) ?_
  refine qm_G.s1 rfl (qm_x_pushI 255 rfl) ?_
  refine qm_G.s1 rfl (qm_x_iand255 (by omega)) ?_
  refine qm_G.s1 rfl (qm_x_i2c (by omega)) ?_
  refine qm_G.ret rfl rfl ⟨_, rfl, ?_⟩
  refine qm_G.ret rfl rfl ⟨_, rfl, ?_⟩
  refine qm_G.cmv rfl rfl (hS 61 rfl) rfl ?_
  refine qm_m_wr hS hR U3 (by omega) (by rw [show Int.toNat (m + 1 + 1 + 1) = m.toNat + 3 by omega, hF 3 (by decide)]; rfl) (fun J4 U4 => ⟨rfl, ?_⟩)
  refine qm_G.s1 rfl (qm_x_iinc (lv' := [(2, qm_I (qm_i ((((0 + 1) + 1) + 1) + 1))), (0, qm_R (some (0, 61, 0))), (1, qm_R (some (1, 22, 0)))]) 1 rfl rfl rfl) ?_
  refine qm_G.s1 rfl (qm_x_goto) ?_
  refine qm_G.sp (lv1 := [(0, qm_R (some (0, 61, 0))), (1, qm_R (some (1, 22, 0))), (2, qm_I (qm_i ((((0 + 1) + 1) + 1) + 1)))]) rfl rfl (qm_x_iload rfl) ?_
  refine qm_G.s1 rfl (qm_x_aload rfl) ?_
  refine qm_G.call rfl rfl rfl ?_
  refine qm_C.go (cd := qm_P53) (lv := [(0, qm_R (some (1, 22, 0)))]) rfl rfl ?_
  refine qm_G.s1 rfl (qm_x_aload rfl) ?_
  refine qm_G.s1 rfl (qm_x_getgR rfl rfl) ?_
  refine qm_G.s1 rfl (qm_x_alen1 (len := 4) rfl) ?_
  refine qm_G.s1 rfl (qm_x_aload rfl) ?_
  refine qm_G.call rfl rfl rfl ?_
  refine qm_C.go (cd := qm_P0) (lv := [(0, qm_R (some (1, 22, 0)))]) rfl rfl ?_
  refine qm_G.s1 rfl (qm_x_pushI 1 rfl) ?_
  refine qm_G.s1 rfl (qm_x_if_eq_f ⟨by decide, by decide⟩ (by decide)) ?_
  refine qm_G.s1 rfl (qm_x_aload rfl) ?_
  refine qm_G.s1 rfl (qm_x_getgI (v := 0) rfl rfl) ?_
  refine qm_G.s1 rfl (qm_x_goto) ?_
  refine qm_G.ret rfl rfl ⟨_, rfl, ?_⟩
  refine qm_G.s1 rfl (qm_x_ishr0) ?_
  refine qm_G.ret rfl rfl ⟨_, rfl, ?_⟩
  refine qm_G.s1 rfl (qm_x_icmp_ge_t ⟨by decide, by decide⟩ ⟨by decide, by decide⟩ (by decide)) ?_
  refine qm_G.retv rfl (k _ ?_)
  rw [show m + 4 = m + 1 + 1 + 1 + 1 by omega]
  exact U4
theorem qm_m_wal23 {S : List qm_Sh} {K : qm_J} {L : qm_Ct Int64} {D : qm_Ct UInt64} {R : qm_Ct (Option qm_Rf)} {X : Nat × (Nat → Int32)} {Q : Option qm_V → qm_Hp → Prop} {J0 J : qm_J} {m : Int} {F : Nat → Int} (hS : qm_Sd S) (hR : qm_Rd R) (U : qm_Tm J0 J m F) (hm : 0 ≤ m ∧ m + 5 ≤ 40) (hF : ∀ j, j < 5 → F (m.toNat + j) = (qm_SB 36 j).toInt) (k : ∀ J', qm_Tm J0 J' (m + 5) F → Q none (qm_H S J' K L D R X)) : qm_C qm_P 176 [qm_R (some (0, 61, 0)), qm_R (some (1, 23, 0))] (qm_H S J K L D R X) Q := by
  refine qm_C.go (cd := qm_P176) (lv := [(0, qm_R (some (0, 61, 0))), (1, qm_R (some (1, 23, 0)))]) rfl rfl ?_
  refine qm_G.s1 rfl (qm_x_pushI 0 rfl) ?_
  refine qm_G.s1 rfl (qm_x_istore (lv' := [(2, qm_I (qm_i 0)), (0, qm_R (some (0, 61, 0))), (1, qm_R (some (1, 23, 0)))]) rfl) ?_
  refine qm_G.sp (lv1 := [(0, qm_R (some (0, 61, 0))), (1, qm_R (some (1, 23, 0))), (2, qm_I (qm_i 0))]) rfl rfl (qm_x_iload rfl) ?_
  refine qm_G.s1 rfl (qm_x_aload rfl) ?_
  refine qm_G.call rfl rfl rfl ?_
  refine qm_C.go (cd := qm_P53) (lv := [(0, qm_R (some (1, 23, 0)))]) rfl rfl ?_
  refine qm_G.s1 rfl (qm_x_aload rfl) ?_
  refine qm_G.s1 rfl (qm_x_getgR rfl rfl) ?_
  refine qm_G.s1 rfl (qm_x_alen1 (len := 5) rfl) ?_
  refine qm_G.s1 rfl (qm_x_aload rfl) ?_
  refine qm_G.call rfl rfl rfl ?_
  refine qm_C.go (cd := qm_P0) (lv := [(0, qm_R (some (1, 23, 0)))]) rfl rfl ?_
  refine qm_G.s1 rfl (qm_x_pushI 1 rfl) ?_
  refine qm_G.s1 rfl (qm_x_if_eq_f ⟨by decide, by decide⟩ (by decide)) ?_
  refine qm_G.s1 rfl (qm_x_aload rfl) ?_
  refine qm_G.s1 rfl (qm_x_getgI (v := 0) rfl rfl) ?_
  refine qm_G.s1 rfl (qm_x_goto) ?_
  refine qm_G.ret rfl rfl ⟨_, rfl, ?_⟩
  refine qm_G.s1 rfl (qm_x_ishr0) ?_
  refine qm_G.ret rfl rfl ⟨_, rfl, ?_⟩
  refine qm_G.s1 rfl (qm_x_icmp_ge_f ⟨by decide, by decide⟩ ⟨by decide, by decide⟩ (by decide)) ?_
  refine qm_G.s1 rfl (qm_x_aload rfl) ?_
  refine qm_G.s1 rfl (qm_x_aload rfl) ?_
  refine qm_G.s1 rfl (qm_x_iload rfl) ?_
  refine qm_G.call rfl rfl rfl ?_
  refine qm_C.go (cd := qm_P162) (lv := [(0, qm_R (some (1, 23, 0))), (1, qm_I (qm_i 0))]) rfl rfl ?_
  refine qm_G.s1 rfl (qm_x_aload rfl) ?_
  refine qm_G.call rfl rfl rfl ?_
  refine qm_C.go (cd := qm_P1) (lv := [(0, qm_R (some (1, 23, 0)))]) rfl rfl ?_
  refine qm_G.s1 rfl (qm_x_pushI 1 rfl) ?_
  refine qm_G.s1 rfl (qm_x_if_eq_f ⟨by decide, by decide⟩ (by decide)) ?_
  refine qm_G.s1 rfl (qm_x_aload rfl) ?_
  refine qm_G.s1 rfl (qm_x_getgI (v := 0) rfl rfl) ?_
  refine qm_G.s1 rfl (qm_x_if_ne_f ⟨by decide, by decide⟩ (by decide)) ?_
  refine qm_G.s1 rfl (qm_x_pushI 1 rfl) ?_
  refine qm_G.s1 rfl (qm_x_goto) ?_
  refine qm_G.ret rfl rfl ⟨_, rfl, ?_⟩
  refine qm_G.s1 rfl (qm_x_if_eq_f ⟨by decide, by decide⟩ (by decide)) ?_
  refine qm_G.s1 rfl (qm_x_aload rfl) ?_
  refine qm_G.s1 rfl (qm_x_getgR rfl rfl) ?_
  refine qm_G.s1 rfl (qm_x_iload rfl) ?_
  refine qm_G.cs rfl rfl rfl ?_
  refine qm_C.go (cd := qm_P134) (lv := [(0, qm_R (some (1, 36, 0))), (1, qm_I (qm_i 0))]) rfl rfl ?_
  refine qm_G.s1 rfl (qm_x_iload rfl) ?_
  refine qm_G.s1 rfl (qm_x_aload rfl) ?_
  refine qm_G.s1 rfl (qm_x_alen1 (len := 5) rfl) ?_
  refine qm_G.csv rfl rfl rfl ?_
  refine qm_C.go (cd := qm_P69) (lv := [(0, qm_I (qm_i 0)), (1, qm_I (qm_i 5))]) rfl rfl ?_
  refine qm_G.s1 rfl (qm_x_iload rfl) ?_
  refine qm_G.s1 rfl (qm_x_iload rfl) ?_
  refine qm_G.s1 rfl (show qm_St (qm_o_sio 5) _ _ _ _ _ (qm_R (qm_sio X) :: _) _ from rfl) ?_
  refine qm_G.cs rfl rfl rfl ?_
  refine qm_C.go (cd := qm_P3) (lv := [(0, qm_I (qm_i 0)), (1, qm_I (qm_i 5)), (2, qm_R ((qm_sio X)))]) rfl rfl ?_
  refine qm_G.s1 rfl (qm_x_iload rfl) ?_
  refine qm_G.s1 rfl (qm_x_if_lt_f ⟨by decide, by decide⟩ (by decide)) ?_
  refine qm_G.s1 rfl (qm_x_iload rfl) ?_
  refine qm_G.s1 rfl (qm_x_iload rfl) ?_
  refine qm_G.s1 rfl (qm_x_icmp_lt_t ⟨by decide, by decide⟩ ⟨by decide, by decide⟩ (by decide)) ?_
  refine qm_G.sp (lv1 := [(0, qm_I (qm_i 0))]) rfl rfl (qm_x_iload rfl) ?_
  refine qm_G.ret rfl rfl ⟨_, rfl, ?_⟩
  refine qm_G.s1 rfl (qm_x_popI) ?_
  refine qm_G.retv rfl ⟨rfl, ?_⟩
  refine qm_G.s1 rfl (qm_x_aload rfl) ?_
  refine qm_G.s1 rfl (qm_x_iload rfl) ?_
  refine qm_G.s1 rfl (qm_x_bald1 (len := 5) (v := 115) rfl rfl (by decide) (by decide) rfl) ?_
  refine qm_G.s1 rfl (qm_x_pushI 255 rfl) ?_
  refine qm_G.s1 rfl (qm_x_iand255 (by omega)) ?_
  refine qm_G.s1 rfl (qm_x_i2c (by omega)) ?_
  refine qm_G.ret rfl rfl ⟨_, rfl, ?_⟩
  refine qm_G.ret rfl rfl ⟨_, rfl, ?_⟩
  refine qm_G.cmv rfl rfl (hS 61 rfl) rfl ?_
  refine qm_m_wr hS hR U (by omega) (by rw [show Int.toNat m = m.toNat + 0 by omega, hF 0 (by decide)]; rfl) (fun J1 U1 => ⟨rfl, ?_⟩)
  refine qm_G.s1 rfl (qm_x_iinc (lv' := [(2, qm_I (qm_i (0 + 1))), (0, qm_R (some (0, 61, 0))), (1, qm_R (some (1, 23, 0)))]) 1 rfl rfl rfl) ?_
  refine qm_G.s1 rfl (qm_x_goto) ?_
  refine qm_G.sp (lv1 := [(0, qm_R (some (0, 61, 0))), (1, qm_R (some (1, 23, 0))), (2, qm_I (qm_i (0 + 1)))]) rfl rfl (qm_x_iload rfl) ?_
  refine qm_G.s1 rfl (qm_x_aload rfl) ?_
  refine qm_G.call rfl rfl rfl ?_
  refine qm_C.go (cd := qm_P53) (lv := [(0, qm_R (some (1, 23, 0)))]) rfl rfl ?_
  refine qm_G.s1 rfl (qm_x_aload rfl) ?_
  refine qm_G.s1 rfl (qm_x_getgR rfl rfl) ?_
  refine qm_G.s1 rfl (qm_x_alen1 (len := 5) rfl) ?_
  refine qm_G.s1 rfl (qm_x_aload rfl) ?_
  refine qm_G.call rfl rfl rfl ?_
  refine qm_C.go (cd := qm_P0) (lv := [(0, qm_R (some (1, 23, 0)))]) rfl rfl ?_
  refine qm_G.s1 rfl (qm_x_pushI 1 rfl) ?_
  refine qm_G.s1 rfl (qm_x_if_eq_f ⟨by decide, by decide⟩ (by decide)) ?_
  refine qm_G.s1 rfl (qm_x_aload rfl) ?_
  refine qm_G.s1 rfl (qm_x_getgI (v := 0) rfl rfl) ?_
  refine qm_G.s1 rfl (qm_x_goto) ?_
  refine qm_G.ret rfl rfl ⟨_, rfl, ?_⟩
  refine qm_G.s1 rfl (qm_x_ishr0) ?_
  refine qm_G.ret rfl rfl ⟨_, rfl, ?_⟩
  refine qm_G.s1 rfl (qm_x_icmp_ge_f ⟨by decide, by decide⟩ ⟨by decide, by decide⟩ (by decide)) ?_
  refine qm_G.s1 rfl (qm_x_aload rfl) ?_
  refine qm_G.s1 rfl (qm_x_aload rfl) ?_
  refine qm_G.s1 rfl (qm_x_iload rfl) ?_
  refine qm_G.call rfl rfl rfl ?_
  refine qm_C.go (cd := qm_P162) (lv := [(0, qm_R (some (1, 23, 0))), (1, qm_I (qm_i (0 + 1)))]) rfl rfl ?_
  refine qm_G.s1 rfl (qm_x_aload rfl) ?_
  refine qm_G.call rfl rfl rfl ?_
  refine qm_C.go (cd := qm_P1) (lv := [(0, qm_R (some (1, 23, 0)))]) rfl rfl ?_
  refine qm_G.s1 rfl (qm_x_pushI 1 rfl) ?_
  refine qm_G.s1 rfl (qm_x_if_eq_f ⟨by decide, by decide⟩ (by decide)) ?_
  refine qm_G.s1 rfl (qm_x_aload rfl) ?_
  refine qm_G.s1 rfl (qm_x_getgI (v := 0) rfl rfl) ?_
  refine qm_G.s1 rfl (qm_x_if_ne_f ⟨by decide, by decide⟩ (by decide)) ?_
  refine qm_G.s1 rfl (qm_x_pushI 1 rfl) ?_
  refine qm_G.s1 rfl (qm_x_goto) ?_
  refine qm_G.ret rfl rfl ⟨_, rfl, ?_⟩
  refine qm_G.s1 rfl (qm_x_if_eq_f ⟨by decide, by decide⟩ (by decide)) ?_
  refine qm_G.s1 rfl (qm_x_aload rfl) ?_
  refine qm_G.s1 rfl (qm_x_getgR rfl rfl) ?_
  refine qm_G.s1 rfl (qm_x_iload rfl) ?_
  refine qm_G.cs rfl rfl rfl ?_
  refine qm_C.go (cd := qm_P134) (lv := [(0, qm_R (some (1, 36, 0))), (1, qm_I (qm_i (0 + 1)))]) rfl rfl ?_
  refine qm_G.s1 rfl (qm_x_iload rfl) ?_
  refine qm_G.s1 rfl (qm_x_aload rfl) ?_
  refine qm_G.s1 rfl (qm_x_alen1 (len := 5) rfl) ?_
  refine qm_G.csv rfl rfl rfl ?_
  refine qm_C.go (cd := qm_P69) (lv := [(0, qm_I (qm_i (0 + 1))), (1, qm_I (qm_i 5))]) rfl rfl ?_
  refine qm_G.s1 rfl (qm_x_iload rfl) ?_
  refine qm_G.s1 rfl (qm_x_iload rfl) ?_
  refine qm_G.s1 rfl (show qm_St (qm_o_sio 5) _ _ _ _ _ (qm_R (qm_sio X) :: _) _ from rfl) ?_
  refine qm_G.cs rfl rfl rfl ?_
  refine qm_C.go (cd := qm_P3) (lv := [(0, qm_I (qm_i (0 + 1))), (1, qm_I (qm_i 5)), (2, qm_R ((qm_sio X)))]) rfl rfl ?_
  refine qm_G.s1 rfl (qm_x_iload rfl) ?_
  refine qm_G.s1 rfl (qm_x_if_lt_f ⟨by decide, by decide⟩ (by decide)) ?_
  refine qm_G.s1 rfl (qm_x_iload rfl) ?_
  refine qm_G.s1 rfl (qm_x_iload rfl) ?_
  refine qm_G.s1 rfl (qm_x_icmp_lt_t ⟨by decide, by decide⟩ ⟨by decide, by decide⟩ (by decide)) ?_
  refine qm_G.sp (lv1 := [(0, qm_I (qm_i (0 + 1)))]) rfl rfl (qm_x_iload rfl) ?_
  refine qm_G.ret rfl rfl ⟨_, rfl, ?_⟩
  refine qm_G.s1 rfl (qm_x_popI) ?_
  refine qm_G.retv rfl ⟨rfl, ?_⟩
  refine qm_G.s1 rfl (qm_x_aload rfl) ?_
  refine qm_G.s1 rfl (qm_x_iload rfl) ?_
  refine qm_G.s1 rfl (qm_x_bald1 (len := 5) (v := 104) rfl rfl (by decide) (by decide) rfl) ?_
  refine qm_G.s1 rfl (qm_x_pushI 255 rfl) ?_
  refine qm_G.s1 rfl (qm_x_iand255 (by omega)) ?_
  refine qm_G.s1 rfl (qm_x_i2c (by omega)) ?_
  refine qm_G.ret rfl rfl ⟨_, rfl, ?_⟩
  refine qm_G.ret rfl rfl ⟨_, rfl, ?_⟩
  refine qm_G.cmv rfl rfl (hS 61 rfl) rfl ?_
  refine qm_m_wr hS hR U1 (by omega) (by rw [show Int.toNat (m + 1) = m.toNat + 1 by omega, hF 1 (by decide)]; rfl) (fun J2 U2 => ⟨rfl, ?_⟩)
  refine qm_G.s1 rfl (qm_x_iinc (lv' := [(2, qm_I (qm_i ((0 + 1) + 1))), (0, qm_R (some (0, 61, 0))), (1, qm_R (some (1, 23, 0)))]) 1 rfl rfl rfl) ?_
  refine qm_G.s1 rfl (qm_x_goto) ?_
  refine qm_G.sp (lv1 := [(0, qm_R (some (0, 61, 0))), (1, qm_R (some (1, 23, 0))), (2, qm_I (qm_i ((0 + 1) + 1)))]) rfl rfl (qm_x_iload rfl) ?_
  refine qm_G.s1 rfl (qm_x_aload rfl) ?_
  refine qm_G.call rfl rfl rfl ?_
  refine qm_C.go (cd := qm_P53) (lv := [(0, qm_R (some (1, 23, 0)))]) rfl rfl ?_
  refine qm_G.s1 rfl (qm_x_aload rfl) ?_
  refine qm_G.s1 rfl (qm_x_getgR rfl rfl) ?_
  refine qm_G.s1 rfl (qm_x_alen1 (len := 5) rfl) ?_
  refine qm_G.s1 rfl (qm_x_aload rfl) ?_
  refine qm_G.call rfl rfl rfl ?_
  refine qm_C.go (cd := qm_P0) (lv := [(0, qm_R (some (1, 23, 0)))]) rfl rfl ?_
  refine qm_G.s1 rfl (qm_x_pushI 1 rfl) ?_
  refine qm_G.s1 rfl (qm_x_if_eq_f ⟨by decide, by decide⟩ (by decide)) ?_
  refine qm_G.s1 rfl (qm_x_aload rfl) ?_
  refine qm_G.s1 rfl (qm_x_getgI (v := 0) rfl rfl) ?_
  refine qm_G.s1 rfl (qm_x_goto) ?_
  refine qm_G.ret rfl rfl ⟨_, rfl, ?_⟩
  refine qm_G.s1 rfl (qm_x_ishr0) ?_
  refine qm_G.ret rfl rfl ⟨_, rfl, ?_⟩
  refine qm_G.s1 rfl (qm_x_icmp_ge_f ⟨by decide, by decide⟩ ⟨by decide, by decide⟩ (by decide)) ?_
  refine qm_G.s1 rfl (qm_x_aload rfl) ?_
  refine qm_G.s1 rfl (qm_x_aload rfl) ?_
  refine qm_G.s1 rfl (qm_x_iload rfl) ?_
  refine qm_G.call rfl rfl rfl ?_
  refine qm_C.go (cd := qm_P162) (lv := [(0, qm_R (some (1, 23, 0))), (1, qm_I (qm_i ((0 + 1) + 1)))]) rfl rfl ?_
  refine qm_G.s1 rfl (qm_x_aload rfl) ?_
  refine qm_G.call rfl rfl rfl ?_
  refine qm_C.go (cd := qm_P1) (lv := [(0, qm_R (some (1, 23, 0)))]) rfl rfl ?_
  refine qm_G.s1 rfl (qm_x_pushI 1 rfl) ?_
  refine qm_G.s1 rfl (qm_x_if_eq_f ⟨by decide, by decide⟩ (by decide)) ?_
  refine qm_G.s1 rfl (qm_x_aload rfl) ?_
  refine qm_G.s1 rfl (qm_x_getgI (v := 0) rfl rfl) ?_
  refine qm_G.s1 rfl (qm_x_if_ne_f ⟨by decide, by decide⟩ (by decide)) ?_
  refine qm_G.s1 rfl (qm_x_pushI 1 rfl) ?_
  refine qm_G.s1 rfl (qm_x_goto) ?_
  refine qm_G.ret rfl rfl ⟨_, rfl, ?_⟩
  refine qm_G.s1 rfl (qm_x_if_eq_f ⟨by decide, by decide⟩ (by decide)) ?_
  refine qm_G.s1 rfl (qm_x_aload rfl) ?_
  refine qm_G.s1 rfl (qm_x_getgR rfl rfl) ?_
  refine qm_G.s1 rfl (qm_x_iload rfl) ?_
  refine qm_G.cs rfl rfl rfl ?_
  refine qm_C.go (cd := qm_P134) (lv := [(0, qm_R (some (1, 36, 0))), (1, qm_I (qm_i ((0 + 1) + 1)))]) rfl rfl ?_
  refine qm_G.s1 rfl (qm_x_iload rfl) ?_
  refine qm_G.s1 rfl (qm_x_aload rfl) ?_
  refine qm_G.s1 rfl (qm_x_alen1 (len := 5) rfl) ?_
  refine qm_G.csv rfl rfl rfl ?_
  refine qm_C.go (cd := qm_P69) (lv := [(0, qm_I (qm_i ((0 + 1) + 1))), (1, qm_I (qm_i 5))]) rfl rfl ?_
  refine qm_G.s1 rfl (qm_x_iload rfl) ?_
  refine qm_G.s1 rfl (qm_x_iload rfl) ?_
  refine qm_G.s1 rfl (show qm_St (qm_o_sio 5) _ _ _ _ _ (qm_R (qm_sio X) :: _) _ from rfl) ?_
  refine qm_G.cs rfl rfl rfl ?_
  refine qm_C.go (cd := qm_P3) (lv := [(0, qm_I (qm_i ((0 + 1) + 1))), (1, qm_I (qm_i 5)), (2, qm_R ((qm_sio X)))]) rfl rfl ?_
  refine qm_G.s1 rfl (qm_x_iload rfl) ?_
  refine qm_G.s1 rfl (qm_x_if_lt_f ⟨by decide, by decide⟩ (by decide)) ?_
  refine qm_G.s1 rfl (qm_x_iload rfl) ?_
  refine qm_G.s1 rfl (qm_x_iload rfl) ?_
  refine qm_G.s1 rfl (qm_x_icmp_lt_t ⟨by decide, by decide⟩ ⟨by decide, by decide⟩ (by decide)) ?_
  refine qm_G.sp (lv1 := [(0, qm_I (qm_i ((0 + 1) + 1)))]) rfl rfl (qm_x_iload rfl) ?_
  refine qm_G.ret rfl rfl ⟨_, rfl, ?_⟩
  refine qm_G.s1 rfl (qm_x_popI) ?_
  refine qm_G.retv rfl ⟨rfl, ?_⟩
  refine qm_G.s1 rfl (qm_x_aload rfl) ?_
  refine qm_G.s1 rfl (qm_x_iload rfl) ?_
  refine qm_G.s1 rfl (qm_x_bald1 (len := 5) (v := 111) rfl rfl (by decide) (by decide) rfl) ?_
  refine qm_G.s1 rfl (qm_x_pushI 255 rfl) ?_
  refine qm_G.s1 rfl (qm_x_iand255 (by omega)) ?_
  refine qm_G.s1 rfl (qm_x_i2c (by omega)) ?_
  refine qm_G.ret rfl rfl ⟨_, rfl, ?_⟩
  refine qm_G.ret rfl rfl ⟨_, rfl, ?_⟩
  refine qm_G.cmv rfl rfl (hS 61 rfl) rfl ?_
  refine qm_m_wr hS hR U2 (by omega) (by rw [show Int.toNat (m + 1 + 1) = m.toNat + 2 by omega, hF 2 (by decide)]; rfl) (fun J3 U3 => ⟨rfl, ?_⟩)
  refine qm_G.s1 rfl (qm_x_iinc (lv' := [(2, qm_I (qm_i (((0 + 1) + 1) + 1))), (0, qm_R (some (0, 61, 0))), (1, qm_R (some (1, 23, 0)))]) 1 rfl rfl rfl) ?_
  refine qm_G.s1 rfl (qm_x_goto) ?_
  refine qm_G.sp (lv1 := [(0, qm_R (some (0, 61, 0))), (1, qm_R (some (1, 23, 0))), (2, qm_I (qm_i (((0 + 1) + 1) + 1)))]) rfl rfl (qm_x_iload rfl) ?_
  refine qm_G.s1 rfl (qm_x_aload rfl) ?_
  refine qm_G.call rfl rfl rfl ?_
  refine qm_C.go (cd := qm_P53) (lv := [(0, qm_R (some (1, 23, 0)))]) rfl rfl ?_
  refine qm_G.s1 rfl (qm_x_aload rfl) ?_
  refine qm_G.s1 rfl (qm_x_getgR rfl rfl) ?_
  refine qm_G.s1 rfl (qm_x_alen1 (len := 5) rfl) ?_
  refine qm_G.s1 rfl (qm_x_aload rfl) ?_
  refine qm_G.call rfl rfl rfl ?_
  refine qm_C.go (cd := qm_P0) (lv := [(0, qm_R (some (1, 23, 0)))]) rfl rfl ?_
  refine qm_G.s1 rfl (qm_x_pushI 1 rfl) ?_
  refine qm_G.s1 rfl (qm_x_if_eq_f ⟨by decide, by decide⟩ (by decide)) ?_
  refine qm_G.s1 rfl (qm_x_aload rfl) ?_
  refine qm_G.s1 rfl (qm_x_getgI (v := 0) rfl rfl) ?_
  refine qm_G.s1 rfl (qm_x_goto) ?_
  refine qm_G.ret rfl rfl ⟨_, rfl, ?_⟩
  refine qm_G.s1 rfl (qm_x_ishr0) ?_
  refine qm_G.ret rfl rfl ⟨_, rfl, ?_⟩
  refine qm_G.s1 rfl (qm_x_icmp_ge_f ⟨by decide, by decide⟩ ⟨by decide, by decide⟩ (by decide)) ?_
  refine qm_G.s1 rfl (qm_x_aload rfl) ?_
  refine qm_G.s1 rfl (qm_x_aload rfl) ?_
  refine qm_G.s1 rfl (qm_x_iload rfl) ?_
  refine qm_G.call rfl rfl rfl ?_
  refine qm_C.go (cd := qm_P162) (lv := [(0, qm_R (some (1, 23, 0))), (1, qm_I (qm_i (((0 + 1) + 1) + 1)))]) rfl rfl ?_
  refine qm_G.s1 rfl (qm_x_aload rfl) ?_
  refine qm_G.call rfl rfl rfl ?_
  refine qm_C.go (cd := qm_P1) (lv := [(0, qm_R (some (1, 23, 0)))]) rfl rfl ?_
  refine qm_G.s1 rfl (qm_x_pushI 1 rfl) ?_
  refine qm_G.s1 rfl (qm_x_if_eq_f ⟨by decide, by decide⟩ (by decide)) ?_
  refine qm_G.s1 rfl (qm_x_aload rfl) ?_
  refine qm_G.s1 rfl (qm_x_getgI (v := 0) rfl rfl) ?_
  refine qm_G.s1 rfl (qm_x_if_ne_f ⟨by decide, by decide⟩ (by decide)) ?_
  refine qm_G.s1 rfl (qm_x_pushI 1 rfl) ?_
  refine qm_G.s1 rfl (qm_x_goto) ?_
  refine qm_G.ret rfl rfl ⟨_, rfl, ?_⟩
  refine qm_G.s1 rfl (qm_x_if_eq_f ⟨by decide, by decide⟩ (by decide)) ?_
  refine qm_G.s1 rfl (qm_x_aload rfl) ?_
  refine qm_G.s1 rfl (qm_x_getgR rfl rfl) ?_
  refine qm_G.s1 rfl (qm_x_iload rfl) ?_
  refine qm_G.cs rfl rfl rfl ?_
  refine qm_C.go (cd := qm_P134) (lv := [(0, qm_R (some (1, 36, 0))), (1, qm_I (qm_i (((0 + 1) + 1) + 1)))]) rfl rfl ?_
  refine qm_G.s1 rfl (qm_x_iload rfl) ?_
  refine qm_G.s1 rfl (qm_x_aload rfl) ?_
  refine qm_G.s1 rfl (qm_x_alen1 (len := 5) rfl) ?_
  refine qm_G.csv rfl rfl rfl ?_
  refine qm_C.go (cd := qm_P69) (lv := [(0, qm_I (qm_i (((0 + 1) + 1) + 1))), (1, qm_I (qm_i 5))]) rfl rfl ?_
  refine qm_G.s1 rfl (qm_x_iload rfl) ?_
  refine qm_G.s1 rfl (qm_x_iload rfl) ?_
  refine qm_G.s1 rfl (show qm_St (qm_o_sio 5) _ _ _ _ _ (qm_R (qm_sio X) :: _) _ from rfl) ?_
  refine qm_G.cs rfl rfl rfl ?_
  refine qm_C.go (cd := qm_P3) (lv := [(0, qm_I (qm_i (((0 + 1) + 1) + 1))), (1, qm_I (qm_i 5)), (2, qm_R ((qm_sio X)))]) rfl rfl ?_
  refine qm_G.s1 rfl (qm_x_iload rfl) ?_
  refine qm_G.s1 rfl (qm_x_if_lt_f ⟨by decide, by decide⟩ (by decide)) ?_
  refine qm_G.s1 rfl (qm_x_iload rfl) ?_
  refine qm_G.s1 rfl (qm_x_iload rfl) ?_
  refine qm_G.s1 rfl (qm_x_icmp_lt_t ⟨by decide, by decide⟩ ⟨by decide, by decide⟩ (by decide)) ?_
  refine qm_G.sp (lv1 := [(0, qm_I (qm_i (((0 + 1) + 1) + 1)))]) rfl rfl (qm_x_iload rfl) ?_
  refine qm_G.ret rfl rfl ⟨_, rfl, ?_⟩
  refine qm_G.s1 rfl (qm_x_popI) ?_
  refine qm_G.retv rfl ⟨rfl, ?_⟩
  refine qm_G.s1 rfl (qm_x_aload rfl) ?_
  refine qm_G.s1 rfl (qm_x_iload rfl) ?_
  refine qm_G.s1 rfl (qm_x_bald1 (len := 5) (v := 114) rfl rfl (by decide) (by decide) rfl) ?_
  refine qm_G.s1 rfl (qm_x_pushI 255 rfl) ?_
  refine qm_G.s1 rfl (qm_x_iand255 (by omega)) ?_
  refine qm_G.s1 rfl (qm_x_i2c (by omega)) ?_
  refine qm_G.ret rfl rfl ⟨_, rfl, ?_⟩
  refine qm_G.ret rfl rfl ⟨_, rfl, ?_⟩
  refine qm_G.cmv rfl rfl (hS 61 rfl) rfl ?_
  refine qm_m_wr hS hR U3 (by omega) (by rw [show Int.toNat (m + 1 + 1 + 1) = m.toNat + 3 by omega, hF 3 (by decide)]; rfl) (fun J4 U4 => ⟨rfl, ?_⟩)
  refine qm_G.s1 rfl (qm_x_iinc (lv' := [(2, qm_I (qm_i ((((0 + 1) + 1) + 1) + 1))), (0, qm_R (some (0, 61, 0))), (1, qm_R (some (1, 23, 0)))]) 1 rfl rfl rfl) ?_
  refine qm_G.s1 rfl (qm_x_goto) ?_
  refine qm_G.sp (lv1 := [(0, qm_R (some (0, 61, 0))), (1, qm_R (some (1, 23, 0))), (2, qm_I (qm_i ((((0 + 1) + 1) + 1) + 1)))]) rfl rfl (qm_x_iload rfl) ?_
  refine qm_G.s1 rfl (qm_x_aload rfl) ?_
  refine qm_G.call rfl rfl rfl ?_
  refine qm_C.go (cd := qm_P53) (lv := [(0, qm_R (some (1, 23, 0)))]) rfl rfl ?_
  refine qm_G.s1 rfl (qm_x_aload rfl) ?_
  refine qm_G.s1 rfl (qm_x_getgR rfl rfl) ?_
  refine qm_G.s1 rfl (qm_x_alen1 (len := 5) rfl) ?_
  refine qm_G.s1 rfl (qm_x_aload rfl) ?_
  refine qm_G.call rfl rfl rfl ?_
  refine qm_C.go (cd := qm_P0) (lv := [(0, qm_R (some (1, 23, 0)))]) rfl rfl ?_
  refine qm_G.s1 rfl (qm_x_pushI 1 rfl) ?_
  refine qm_G.s1 rfl (qm_x_if_eq_f ⟨by decide, by decide⟩ (by decide)) ?_
  refine qm_G.s1 rfl (qm_x_aload rfl) ?_
  refine qm_G.s1 rfl (qm_x_getgI (v := 0) rfl rfl) ?_
  refine qm_G.s1 rfl (qm_x_goto) ?_
  refine qm_G.ret rfl rfl ⟨_, rfl, ?_⟩
  refine qm_G.s1 rfl (qm_x_ishr0) ?_
  refine qm_G.ret rfl rfl ⟨_, rfl, ?_⟩
  refine qm_G.s1 rfl (qm_x_icmp_ge_f ⟨by decide, by decide⟩ ⟨by decide, by decide⟩ (by decide)) ?_
  refine qm_G.s1 rfl (qm_x_aload rfl) ?_
  refine qm_G.s1 rfl (qm_x_aload rfl) ?_
  refine qm_G.s1 rfl (qm_x_iload rfl) ?_
  refine qm_G.call rfl rfl rfl ?_
  refine qm_C.go (cd := qm_P162) (lv := [(0, qm_R (some (1, 23, 0))), (1, qm_I (qm_i ((((0 + 1) + 1) + 1) + 1)))]) rfl rfl ?_
  refine qm_G.s1 rfl (qm_x_aload rfl) ?_
  refine qm_G.call rfl rfl rfl ?_
  refine qm_C.go (cd := qm_P1) (lv := [(0, qm_R (some (1, 23, 0)))]) rfl rfl ?_
  refine qm_G.s1 rfl (qm_x_pushI 1 rfl) ?_
  refine qm_G.s1 rfl (qm_x_if_eq_f ⟨by decide, by decide⟩ (by decide)) ?_
  refine qm_G.s1 rfl (qm_x_aload rfl) ?_
  refine qm_G.s1 rfl (qm_x_getgI (v := 0) rfl rfl) ?_
  refine qm_G.s1 rfl (qm_x_if_ne_f ⟨by decide, by decide⟩ (by decide)) ?_
  refine qm_G.s1 rfl (qm_x_pushI 1 rfl) ?_
  refine qm_G.s1 rfl (qm_x_goto) ?_
  refine qm_G.ret rfl rfl ⟨_, rfl, ?_⟩
  refine qm_G.s1 rfl (qm_x_if_eq_f ⟨by decide, by decide⟩ (by decide)) ?_
  refine qm_G.s1 rfl (qm_x_aload rfl) ?_
  refine qm_G.s1 rfl (qm_x_getgR rfl rfl) ?_
  refine qm_G.s1 rfl (qm_x_iload rfl) ?_
  refine qm_G.cs rfl rfl rfl ?_
  refine qm_C.go (cd := qm_P134) (lv := [(0, qm_R (some (1, 36, 0))), (1, qm_I (qm_i ((((0 + 1) + 1) + 1) + 1)))]) rfl rfl ?_
  refine qm_G.s1 rfl (qm_x_iload rfl) ?_
  refine qm_G.s1 rfl (qm_x_aload rfl) ?_
  refine qm_G.s1 rfl (qm_x_alen1 (len := 5) rfl) ?_
  refine qm_G.csv rfl rfl rfl ?_
  refine qm_C.go (cd := qm_P69) (lv := [(0, qm_I (qm_i ((((0 + 1) + 1) + 1) + 1))), (1, qm_I (qm_i 5))]) rfl rfl ?_
  refine qm_G.s1 rfl (qm_x_iload rfl) ?_
  refine qm_G.s1 rfl (qm_x_iload rfl) ?_
  refine qm_G.s1 rfl (show qm_St (qm_o_sio 5) _ _ _ _ _ (qm_R (qm_sio X) :: _) _ from rfl) ?_
  refine qm_G.cs rfl rfl rfl ?_
  refine qm_C.go (cd := qm_P3) (lv := [(0, qm_I (qm_i ((((0 + 1) + 1) + 1) + 1))), (1, qm_I (qm_i 5)), (2, qm_R ((qm_sio X)))]) rfl rfl ?_
  refine qm_G.s1 rfl (qm_x_iload rfl) ?_
  refine qm_G.s1 rfl (qm_x_if_lt_f ⟨by decide, by decide⟩ (by decide)) ?_
  refine qm_G.s1 rfl (qm_x_iload rfl) ?_
  refine qm_G.s1 rfl (qm_x_iload rfl) ?_
  refine qm_G.s1 rfl (qm_x_icmp_lt_t ⟨by decide, by decide⟩ ⟨by decide, by decide⟩ (by decide)) ?_
  refine qm_G.sp (lv1 := [(0, qm_I (qm_i ((((0 + 1) + 1) + 1) + 1)))]) rfl rfl (qm_x_iload rfl) ?_
  refine qm_G.ret rfl rfl ⟨_, rfl, ?_⟩
  refine qm_G.s1 rfl (qm_x_popI) ?_
  refine qm_G.retv rfl ⟨rfl, ?_⟩
  refine qm_G.s1 rfl (qm_x_aload rfl) ?_
  refine qm_G.s1 rfl (qm_x_iload rfl) ?_
  refine qm_G.s1 rfl (qm_x_bald1 (len := 5) (v := 116) rfl rfl (by decide) (by decide) rfl) ?_
  refine qm_G.s1 rfl (qm_x_pushI 255 rfl) ?_
  refine qm_G.s1 rfl (qm_x_iand255 (by omega)) ?_
  refine qm_G.s1 rfl (qm_x_i2c (by omega)) ?_
  refine qm_G.ret rfl rfl ⟨_, rfl, ?_⟩
  refine qm_G.ret rfl rfl ⟨_, rfl, ?_⟩
  refine qm_G.cmv rfl rfl (hS 61 rfl) rfl ?_
  refine qm_m_wr hS hR U4 (by omega) (by rw [show Int.toNat (m + 1 + 1 + 1 + 1) = m.toNat + 4 by omega, hF 4 (by decide)]; rfl) (fun J5 U5 => ⟨rfl, ?_⟩)
  refine qm_G.s1 rfl (qm_x_iinc (lv' := [(2, qm_I (qm_i (((((0 + 1) + 1) + 1) + 1) + 1))), (0, qm_R (some (0, 61, 0))), (1, qm_R (some (1, 23, 0)))]) 1 rfl rfl rfl) ?_
  refine qm_G.s1 rfl (qm_x_goto) ?_
  refine qm_G.sp (lv1 := [(0, qm_R (some (0, 61, 0))), (1, qm_R (some (1, 23, 0))), (2, qm_I (qm_i (((((0 + 1) + 1) + 1) + 1) + 1)))]) rfl rfl (qm_x_iload rfl) ?_
  refine qm_G.s1 rfl (qm_x_aload rfl) ?_
  refine qm_G.call rfl rfl rfl ?_
  refine qm_C.go (cd := qm_P53) (lv := [(0, qm_R (some (1, 23, 0)))]) rfl rfl ?_
  refine qm_G.s1 rfl (qm_x_aload rfl) ?_
  refine qm_G.s1 rfl (qm_x_getgR rfl rfl) ?_
  refine qm_G.s1 rfl (qm_x_alen1 (len := 5) rfl) ?_
  refine qm_G.s1 rfl (qm_x_aload rfl) ?_
  refine qm_G.call rfl rfl rfl ?_
  refine qm_C.go (cd := qm_P0) (lv := [(0, qm_R (some (1, 23, 0)))]) rfl rfl ?_
  refine qm_G.s1 rfl (qm_x_pushI 1 rfl) ?_
  refine qm_G.s1 rfl (qm_x_if_eq_f ⟨by decide, by decide⟩ (by decide)) ?_
  refine qm_G.s1 rfl (qm_x_aload rfl) ?_
  refine qm_G.s1 rfl (qm_x_getgI (v := 0) rfl rfl) ?_
  refine qm_G.s1 rfl (qm_x_goto) ?_
  refine qm_G.ret rfl rfl ⟨_, rfl, ?_⟩
  refine qm_G.s1 rfl (qm_x_ishr0) ?_
  refine qm_G.ret rfl rfl ⟨_, rfl, ?_⟩
  refine qm_G.s1 rfl (qm_x_icmp_ge_t ⟨by decide, by decide⟩ ⟨by decide, by decide⟩ (by decide)) ?_
  refine qm_G.retv rfl (k _ ?_)
  rw [show m + 5 = m + 1 + 1 + 1 + 1 + 1 by omega]
  exact U5
theorem qm_m_wal24 {S : List qm_Sh} {K : qm_J} {L : qm_Ct Int64} {D : qm_Ct UInt64} {R : qm_Ct (Option qm_Rf)} {X : Nat × (Nat → Int32)} {Q : Option qm_V → qm_Hp → Prop} {J0 J : qm_J} {m : Int} {F : Nat → Int} (hS : qm_Sd S) (hR : qm_Rd R) (U : qm_Tm J0 J m F) (hm : 0 ≤ m ∧ m + 4 ≤ 40) (hF : ∀ j, j < 4 → F (m.toNat + j) = (qm_SB 37 j).toInt) (k : ∀ J', qm_Tm J0 J' (m + 4) F → Q none (qm_H S J' K L D R X)) : qm_C qm_P 176 [qm_R (some (0, 61, 0)), qm_R (some (1, 24, 0))] (qm_H S J K L D R X) Q := by
  refine qm_C.go (cd := qm_P176) (lv := [(0, qm_R (some (0, 61, 0))), (1, qm_R (some (1, 24, 0)))]) rfl rfl ?_
  refine qm_G.s1 rfl (qm_x_pushI 0 rfl) ?_
  refine qm_G.s1 rfl (qm_x_istore (lv' := [(2, qm_I (qm_i 0)), (0, qm_R (some (0, 61, 0))), (1, qm_R (some (1, 24, 0)))]) rfl) ?_
  refine qm_G.sp (lv1 := [(0, qm_R (some (0, 61, 0))), (1, qm_R (some (1, 24, 0))), (2, qm_I (qm_i 0))]) rfl rfl (qm_x_iload rfl) ?_
  refine qm_G.s1 rfl (qm_x_aload rfl) ?_
  refine qm_G.call rfl rfl rfl ?_
  refine qm_C.go (cd := qm_P53) (lv := [(0, qm_R (some (1, 24, 0)))]) rfl rfl ?_
  refine qm_G.s1 rfl (qm_x_aload rfl) ?_
  refine qm_G.s1 rfl (qm_x_getgR rfl rfl) ?_
  refine qm_G.s1 rfl (qm_x_alen1 (len := 4) rfl) ?_
  refine qm_G.s1 rfl (qm_x_aload rfl) ?_
  refine qm_G.call rfl rfl rfl ?_
  refine qm_C.go (cd := qm_P0) (lv := [(0, qm_R (some (1, 24, 0)))]) rfl rfl ?_
  refine qm_G.s1 rfl (qm_x_pushI 1 rfl) ?_
  refine qm_G.s1 rfl (qm_x_if_eq_f ⟨by decide, by decide⟩ (by decide)) ?_
  refine qm_G.s1 rfl (qm_x_aload rfl) ?_
  refine qm_G.s1 rfl (qm_x_getgI (v := 0) rfl rfl) ?_
  refine qm_G.s1 rfl (qm_x_goto) ?_
  refine qm_G.ret rfl rfl ⟨_, rfl, ?_⟩
  refine qm_G.s1 rfl (qm_x_ishr0) ?_
  refine qm_G.ret rfl rfl ⟨_, rfl, ?_⟩
  refine qm_G.s1 rfl (qm_x_icmp_ge_f ⟨by decide, by decide⟩ ⟨by decide, by decide⟩ (by decide)) ?_
  refine qm_G.s1 rfl (qm_x_aload rfl) ?_
  refine qm_G.s1 rfl (qm_x_aload rfl) ?_
  refine qm_G.s1 rfl (qm_x_iload rfl) ?_
  refine qm_G.call rfl rfl rfl ?_
  refine qm_C.go (cd := qm_P162) (lv := [(0, qm_R (some (1, 24, 0))), (1, qm_I (qm_i 0))]) rfl rfl ?_
  refine qm_G.s1 rfl (qm_x_aload rfl) ?_
  refine qm_G.call rfl rfl rfl ?_
  refine qm_C.go (cd := qm_P1) (lv := [(0, qm_R (some (1, 24, 0)))]) rfl rfl ?_
  refine qm_G.s1 rfl (qm_x_pushI 1 rfl) ?_
  refine qm_G.s1 rfl (qm_x_if_eq_f ⟨by decide, by decide⟩ (by decide)) ?_
  refine qm_G.s1 rfl (qm_x_aload rfl) ?_
  refine qm_G.s1 rfl (qm_x_getgI (v := 0) rfl rfl) ?_
  refine qm_G.s1 rfl (qm_x_if_ne_f ⟨by decide, by decide⟩ (by decide)) ?_
  refine qm_G.s1 rfl (qm_x_pushI 1 rfl) ?_
  refine qm_G.s1 rfl (qm_x_goto) ?_
  refine qm_G.ret rfl rfl ⟨_, rfl, ?_⟩
  refine qm_G.s1 rfl (qm_x_if_eq_f ⟨by decide, by decide⟩ (by decide)) ?_
  refine qm_G.s1 rfl (qm_x_aload rfl) ?_
  refine qm_G.s1 rfl (qm_x_getgR rfl rfl) ?_
  refine qm_G.s1 rfl (qm_x_iload rfl) ?_
  refine qm_G.cs rfl rfl rfl ?_
  refine qm_C.go (cd := qm_P134) (lv := [(0, qm_R (some (1, 37, 0))), (1, qm_I (qm_i 0))]) rfl rfl ?_
  refine qm_G.s1 rfl (qm_x_iload rfl) ?_
  refine qm_G.s1 rfl (qm_x_aload rfl) ?_
  refine qm_G.s1 rfl (qm_x_alen1 (len := 4) rfl) ?_
  refine qm_G.csv rfl rfl rfl ?_
  refine qm_C.go (cd := qm_P69) (lv := [(0, qm_I (qm_i 0)), (1, qm_I (qm_i 4))]) rfl rfl ?_
  refine qm_G.s1 rfl (qm_x_iload rfl) ?_
  refine qm_G.s1 rfl (qm_x_iload rfl) ?_
  refine qm_G.s1 rfl (show qm_St (qm_o_sio 5) _ _ _ _ _ (qm_R (qm_sio X) :: _) _ from rfl) ?_
  refine qm_G.cs rfl rfl rfl ?_
  refine qm_C.go (cd := qm_P3) (lv := [(0, qm_I (qm_i 0)), (1, qm_I (qm_i 4)), (2, qm_R ((qm_sio X)))]) rfl rfl ?_
  refine qm_G.s1 rfl (qm_x_iload rfl) ?_
  refine qm_G.s1 rfl (qm_x_if_lt_f ⟨by decide, by decide⟩ (by decide)) ?_
  refine qm_G.s1 rfl (qm_x_iload rfl) ?_
  refine qm_G.s1 rfl (qm_x_iload rfl) ?_
  refine qm_G.s1 rfl (qm_x_icmp_lt_t ⟨by decide, by decide⟩ ⟨by decide, by decide⟩ (by decide)) ?_
  refine qm_G.sp (lv1 := [(0, qm_I (qm_i 0))]) rfl rfl (qm_x_iload rfl) ?_
  refine qm_G.ret rfl rfl ⟨_, rfl, ?_⟩
  refine qm_G.s1 rfl (qm_x_popI) ?_
  refine qm_G.retv rfl ⟨rfl, ?_⟩
  refine qm_G.s1 rfl (qm_x_aload rfl) ?_
  refine qm_G.s1 rfl (qm_x_iload rfl) ?_
  refine qm_G.s1 rfl (qm_x_bald1 (len := 4) (v := 102) rfl rfl (by decide) (by decide) rfl) ?_
  refine qm_G.s1 rfl (qm_x_pushI 255 rfl) ?_
  refine qm_G.s1 rfl (qm_x_iand255 (by omega)) ?_
  refine qm_G.s1 rfl (qm_x_i2c (by omega)) ?_
  refine qm_G.ret rfl rfl ⟨_, rfl, ?_⟩
  refine qm_G.ret rfl rfl ⟨_, rfl, ?_⟩
  refine qm_G.cmv rfl rfl (hS 61 rfl) rfl ?_
  refine qm_m_wr hS hR U (by omega) (by rw [show Int.toNat m = m.toNat + 0 by omega, hF 0 (by decide)]; rfl) (fun J1 U1 => ⟨rfl, ?_⟩)
  refine qm_G.s1 rfl (qm_x_iinc (lv' := [(2, qm_I (qm_i (0 + 1))), (0, qm_R (some (0, 61, 0))), (1, qm_R (some (1, 24, 0)))]) 1 rfl rfl rfl) ?_
  refine qm_G.s1 rfl (qm_x_goto) ?_
  refine qm_G.sp (lv1 := [(0, qm_R (some (0, 61, 0))), (1, qm_R (some (1, 24, 0))), (2, qm_I (qm_i (0 + 1)))]) rfl rfl (qm_x_iload rfl) ?_
  refine qm_G.s1 rfl (qm_x_aload rfl) ?_
  refine qm_G.call rfl rfl rfl ?_
  refine qm_C.go (cd := qm_P53) (lv := [(0, qm_R (some (1, 24, 0)))]) rfl rfl ?_
  refine qm_G.s1 rfl (qm_x_aload rfl) ?_
  refine qm_G.s1 rfl (qm_x_getgR rfl rfl) ?_
  refine qm_G.s1 rfl (qm_x_alen1 (len := 4) rfl) ?_
  refine qm_G.s1 rfl (qm_x_aload rfl) ?_
  refine qm_G.call rfl rfl rfl ?_
  refine qm_C.go (cd := qm_P0) (lv := [(0, qm_R (some (1, 24, 0)))]) rfl rfl ?_
  refine qm_G.s1 rfl (qm_x_pushI 1 rfl) ?_
  refine qm_G.s1 rfl (qm_x_if_eq_f ⟨by decide, by decide⟩ (by decide)) ?_
  refine qm_G.s1 rfl (qm_x_aload rfl) ?_
  refine qm_G.s1 rfl (qm_x_getgI (v := 0) rfl rfl) ?_
  refine qm_G.s1 rfl (qm_x_goto) ?_
  refine qm_G.ret rfl rfl ⟨_, rfl, ?_⟩
  refine qm_G.s1 rfl (qm_x_ishr0) ?_
  refine qm_G.ret rfl rfl ⟨_, rfl, ?_⟩
  refine qm_G.s1 rfl (qm_x_icmp_ge_f ⟨by decide, by decide⟩ ⟨by decide, by decide⟩ (by decide)) ?_
  refine qm_G.s1 rfl (qm_x_aload rfl) ?_
  refine qm_G.s1 rfl (qm_x_aload rfl) ?_
  refine qm_G.s1 rfl (qm_x_iload rfl) ?_
  refine qm_G.call rfl rfl rfl ?_
  refine qm_C.go (cd := qm_P162) (lv := [(0, qm_R (some (1, 24, 0))), (1, qm_I (qm_i (0 + 1)))]) rfl rfl ?_
  refine qm_G.s1 rfl (qm_x_aload rfl) ?_
  refine qm_G.call rfl rfl rfl ?_
  refine qm_C.go (cd := qm_P1) (lv := [(0, qm_R (some (1, 24, 0)))]) rfl rfl ?_
  refine qm_G.s1 rfl (qm_x_pushI 1 rfl) ?_
  refine qm_G.s1 rfl (qm_x_if_eq_f ⟨by decide, by decide⟩ (by decide)) ?_
  refine qm_G.s1 rfl (qm_x_aload rfl) ?_
  refine qm_G.s1 rfl (qm_x_getgI (v := 0) rfl rfl) ?_
  refine qm_G.s1 rfl (qm_x_if_ne_f ⟨by decide, by decide⟩ (by decide)) ?_
  refine qm_G.s1 rfl (qm_x_pushI 1 rfl) ?_
  refine qm_G.s1 rfl (qm_x_goto) ?_
  refine qm_G.ret rfl rfl ⟨_, rfl, ?_⟩
  refine qm_G.s1 rfl (qm_x_if_eq_f ⟨by decide, by decide⟩ (by decide)) ?_
  refine qm_G.s1 rfl (qm_x_aload rfl) ?_
  refine qm_G.s1 rfl (qm_x_getgR rfl rfl) ?_
  refine qm_G.s1 rfl (qm_x_iload rfl) ?_
  refine qm_G.cs rfl rfl rfl ?_
  refine qm_C.go (cd := qm_P134) (lv := [(0, qm_R (some (1, 37, 0))), (1, qm_I (qm_i (0 + 1)))]) rfl rfl ?_
  refine qm_G.s1 rfl (qm_x_iload rfl) ?_
  refine qm_G.s1 rfl (qm_x_aload rfl) ?_
  refine qm_G.s1 rfl (qm_x_alen1 (len := 4) rfl) ?_
  refine qm_G.csv rfl rfl rfl ?_
  refine qm_C.go (cd := qm_P69) (lv := [(0, qm_I (qm_i (0 + 1))), (1, qm_I (qm_i 4))]) rfl rfl ?_
  refine qm_G.s1 rfl (qm_x_iload rfl) ?_
  refine qm_G.s1 rfl (qm_x_iload rfl) ?_
  refine qm_G.s1 rfl (show qm_St (qm_o_sio 5) _ _ _ _ _ (qm_R (qm_sio X) :: _) _ from rfl) ?_
  refine qm_G.cs rfl rfl rfl ?_
  refine qm_C.go (cd := qm_P3) (lv := [(0, qm_I (qm_i (0 + 1))), (1, qm_I (qm_i 4)), (2, qm_R ((qm_sio X)))]) rfl rfl ?_
  refine qm_G.s1 rfl (qm_x_iload rfl) ?_
  refine qm_G.s1 rfl (qm_x_if_lt_f ⟨by decide, by decide⟩ (by decide)) ?_
  refine qm_G.s1 rfl (qm_x_iload rfl) ?_
  refine qm_G.s1 rfl (qm_x_iload rfl) ?_
  refine qm_G.s1 rfl (qm_x_icmp_lt_t ⟨by decide, by decide⟩ ⟨by decide, by decide⟩ (by decide)) ?_
  refine qm_G.sp (lv1 := [(0, qm_I (qm_i (0 + 1)))]) rfl rfl (qm_x_iload rfl) ?_
  refine qm_G.ret rfl rfl ⟨_, rfl, ?_⟩
  refine qm_G.s1 rfl (qm_x_popI) ?_
  refine qm_G.retv rfl ⟨rfl, ?_⟩
  refine qm_G.s1 rfl (qm_x_aload rfl) ?_
  refine qm_G.s1 rfl (qm_x_iload rfl) ?_
  refine qm_G.s1 rfl (qm_x_bald1 (len := 4) (v := 108) rfl rfl (by decide) (by decide) rfl) ?_
  refine qm_G.s1 rfl (qm_x_pushI 255 rfl) ?_
  refine qm_G.s1 rfl (qm_x_iand255 (by omega)) ?_
  refine qm_G.s1 rfl (qm_x_i2c (by omega)) ?_
  refine qm_G.ret rfl rfl ⟨_, rfl, ?_⟩
  refine qm_G.ret rfl rfl ⟨_, rfl, ?_⟩
  refine qm_G.cmv rfl rfl (hS 61 rfl) rfl ?_
  refine qm_m_wr hS hR U1 (by omega) (by rw [show Int.toNat (m + 1) = m.toNat + 1 by omega, hF 1 (by decide)]; rfl) (fun J2 U2 => ⟨rfl, ?_⟩)
  refine qm_G.s1 rfl (qm_x_iinc (lv' := [(2, qm_I (qm_i ((0 + 1) + 1))), (0, qm_R (some (0, 61, 0))), (1, qm_R (some (1, 24, 0)))]) 1 rfl rfl rfl) ?_
  refine qm_G.s1 rfl (qm_x_goto) ?_
  refine qm_G.sp (lv1 := [(0, qm_R (some (0, 61, 0))), (1, qm_R (some (1, 24, 0))), (2, qm_I (qm_i ((0 + 1) + 1)))]) rfl rfl (qm_x_iload rfl) ?_
  refine qm_G.s1 rfl (qm_x_aload rfl) ?_
  refine qm_G.call rfl rfl rfl ?_
  refine qm_C.go (cd := qm_P53) (lv := [(0, qm_R (some (1, 24, 0)))]) rfl rfl ?_
  refine qm_G.s1 rfl (qm_x_aload rfl) ?_
  refine qm_G.s1 rfl (qm_x_getgR rfl rfl) ?_
  refine qm_G.s1 rfl (qm_x_alen1 (len := 4) rfl) ?_
  refine qm_G.s1 rfl (qm_x_aload rfl) ?_
  refine qm_G.call rfl rfl rfl ?_
  refine qm_C.go (cd := qm_P0) (lv := [(0, qm_R (some (1, 24, 0)))]) rfl rfl ?_
  refine qm_G.s1 rfl (qm_x_pushI 1 rfl) ?_
  refine qm_G.s1 rfl (qm_x_if_eq_f ⟨by decide, by decide⟩ (by decide)) ?_
  refine qm_G.s1 rfl (qm_x_aload rfl) ?_
  refine qm_G.s1 rfl (qm_x_getgI (v := 0) rfl rfl) ?_
  refine qm_G.s1 rfl (qm_x_goto) ?_
  refine qm_G.ret rfl rfl ⟨_, rfl, ?_⟩
  refine qm_G.s1 rfl (qm_x_ishr0) ?_
  refine qm_G.ret rfl rfl ⟨_, rfl, ?_⟩
  refine qm_G.s1 rfl (qm_x_icmp_ge_f ⟨by decide, by decide⟩ ⟨by decide, by decide⟩ (by decide)) ?_
  refine qm_G.s1 rfl (qm_x_aload rfl) ?_
  refine qm_G.s1 rfl (qm_x_aload rfl) ?_
  refine qm_G.s1 rfl (qm_x_iload rfl) ?_
  refine qm_G.call rfl rfl rfl ?_
  refine qm_C.go (cd := qm_P162) (lv := [(0, qm_R (some (1, 24, 0))), (1, qm_I (qm_i ((0 + 1) + 1)))]) rfl rfl ?_
  refine qm_G.s1 rfl (qm_x_aload rfl) ?_
  refine qm_G.call rfl rfl rfl ?_
  refine qm_C.go (cd := qm_P1) (lv := [(0, qm_R (some (1, 24, 0)))]) rfl rfl ?_
  refine qm_G.s1 rfl (qm_x_pushI 1 rfl) ?_
  refine qm_G.s1 rfl (qm_x_if_eq_f ⟨by decide, by decide⟩ (by decide)) ?_
  refine qm_G.s1 rfl (qm_x_aload rfl) ?_
  refine qm_G.s1 rfl (qm_x_getgI (v := 0) rfl rfl) ?_
  refine qm_G.s1 rfl (qm_x_if_ne_f ⟨by decide, by decide⟩ (by decide)) ?_
  refine qm_G.s1 rfl (qm_x_pushI 1 rfl) ?_
  refine qm_G.s1 rfl (qm_x_goto) ?_
  refine qm_G.ret rfl rfl ⟨_, rfl, ?_⟩
  refine qm_G.s1 rfl (qm_x_if_eq_f ⟨by decide, by decide⟩ (by decide)) ?_
  refine qm_G.s1 rfl (qm_x_aload rfl) ?_
  refine qm_G.s1 rfl (qm_x_getgR rfl rfl) ?_
  refine qm_G.s1 rfl (qm_x_iload rfl) ?_
  refine qm_G.cs rfl rfl rfl ?_
  refine qm_C.go (cd := qm_P134) (lv := [(0, qm_R (some (1, 37, 0))), (1, qm_I (qm_i ((0 + 1) + 1)))]) rfl rfl ?_
  refine qm_G.s1 rfl (qm_x_iload rfl) ?_
  refine qm_G.s1 rfl (qm_x_aload rfl) ?_
  refine qm_G.s1 rfl (qm_x_alen1 (len := 4) rfl) ?_
  refine qm_G.csv rfl rfl rfl ?_
  refine qm_C.go (cd := qm_P69) (lv := [(0, qm_I (qm_i ((0 + 1) + 1))), (1, qm_I (qm_i 4))]) rfl rfl ?_
  refine qm_G.s1 rfl (qm_x_iload rfl) ?_
  refine qm_G.s1 rfl (qm_x_iload rfl) ?_
  refine qm_G.s1 rfl (show qm_St (qm_o_sio 5) _ _ _ _ _ (qm_R (qm_sio X) :: _) _ from rfl) ?_
  refine qm_G.cs rfl rfl rfl ?_
  refine qm_C.go (cd := qm_P3) (lv := [(0, qm_I (qm_i ((0 + 1) + 1))), (1, qm_I (qm_i 4)), (2, qm_R ((qm_sio X)))]) rfl rfl ?_
  refine qm_G.s1 rfl (qm_x_iload rfl) ?_
  refine qm_G.s1 rfl (qm_x_if_lt_f ⟨by decide, by decide⟩ (by decide)) ?_
  refine qm_G.s1 rfl (qm_x_iload rfl) ?_
  refine qm_G.s1 rfl (qm_x_iload rfl) ?_
  refine qm_G.s1 rfl (qm_x_icmp_lt_t ⟨by decide, by decide⟩ ⟨by decide, by decide⟩ (by decide)) ?_
  refine qm_G.sp (lv1 := [(0, qm_I (qm_i ((0 + 1) + 1)))]) rfl rfl (qm_x_iload rfl) ?_
  refine qm_G.ret rfl rfl ⟨_, rfl, ?_⟩
  refine qm_G.s1 rfl (qm_x_popI) ?_
  refine qm_G.retv rfl ⟨rfl, ?_⟩
  refine qm_G.s1 rfl (qm_x_aload rfl) ?_
  refine qm_G.s1 rfl (qm_x_iload rfl) ?_
  refine qm_G.s1 rfl (qm_x_bald1 (len := 4) (v := 97) rfl rfl (by decide) (by decide) rfl) ?_
  refine qm_G.s1 rfl (qm_x_pushI 255 rfl) ?_
  refine qm_G.s1 rfl (qm_x_iand255 (by omega)) ?_
  refine qm_G.s1 rfl (qm_x_i2c (by omega)) ?_
  refine qm_G.ret rfl rfl ⟨_, rfl, ?_⟩
  refine qm_G.ret rfl rfl ⟨_, rfl, ?_⟩
  refine qm_G.cmv rfl rfl (hS 61 rfl) rfl ?_
  refine qm_m_wr hS hR U2 (by omega) (by rw [show Int.toNat (m + 1 + 1) = m.toNat + 2 by omega, hF 2 (by decide)]; rfl) (fun J3 U3 => ⟨rfl, ?_⟩)
  refine qm_G.s1 rfl (qm_x_iinc (lv' := [(2, qm_I (qm_i (((0 + 1) + 1) + 1))), (0, qm_R (some (0, 61, 0))), (1, qm_R (some (1, 24, 0)))]) 1 rfl rfl rfl) ?_
  refine qm_G.s1 rfl (qm_x_goto) ?_
  refine qm_G.sp (lv1 := [(0, qm_R (some (0, 61, 0))), (1, qm_R (some (1, 24, 0))), (2, qm_I (qm_i (((0 + 1) + 1) + 1)))]) rfl rfl (qm_x_iload rfl) ?_
  refine qm_G.s1 rfl (qm_x_aload rfl) ?_
  refine qm_G.call rfl rfl rfl ?_
  refine qm_C.go (cd := qm_P53) (lv := [(0, qm_R (some (1, 24, 0)))]) rfl rfl ?_
  refine qm_G.s1 rfl (qm_x_aload rfl) ?_
  refine qm_G.s1 rfl (qm_x_getgR rfl rfl) ?_
  refine qm_G.s1 rfl (qm_x_alen1 (len := 4) rfl) ?_
  refine qm_G.s1 rfl (qm_x_aload rfl) ?_
  refine qm_G.call rfl rfl rfl ?_
  refine qm_C.go (cd := qm_P0) (lv := [(0, qm_R (some (1, 24, 0)))]) rfl rfl ?_
  refine qm_G.s1 rfl (qm_x_pushI 1 rfl) ?_
  refine qm_G.s1 rfl (qm_x_if_eq_f ⟨by decide, by decide⟩ (by decide)) ?_
  refine qm_G.s1 rfl (qm_x_aload rfl) ?_
  refine qm_G.s1 rfl (qm_x_getgI (v := 0) rfl rfl) ?_
  refine qm_G.s1 rfl (qm_x_goto) ?_
  refine qm_G.ret rfl rfl ⟨_, rfl, ?_⟩
  refine qm_G.s1 rfl (qm_x_ishr0) ?_
  refine qm_G.ret rfl rfl ⟨_, rfl, ?_⟩
  refine qm_G.s1 rfl (qm_x_icmp_ge_f ⟨by decide, by decide⟩ ⟨by decide, by decide⟩ (by decide)) ?_
  refine qm_G.s1 rfl (qm_x_aload rfl) ?_
  refine qm_G.s1 rfl (qm_x_aload rfl) ?_
  refine qm_G.s1 rfl (qm_x_iload rfl) ?_
  refine qm_G.call rfl rfl rfl ?_
  refine qm_C.go (cd := qm_P162) (lv := [(0, qm_R (some (1, 24, 0))), (1, qm_I (qm_i (((0 + 1) + 1) + 1)))]) rfl rfl ?_
  refine qm_G.s1 rfl (qm_x_aload rfl) ?_
  refine qm_G.call rfl rfl rfl ?_
  refine qm_C.go (cd := qm_P1) (lv := [(0, qm_R (some (1, 24, 0)))]) rfl rfl ?_
  refine qm_G.s1 rfl (qm_x_pushI 1 rfl) ?_
  refine qm_G.s1 rfl (qm_x_if_eq_f ⟨by decide, by decide⟩ (by decide)) ?_
  refine qm_G.s1 rfl (qm_x_aload rfl) ?_
  refine qm_G.s1 rfl (qm_x_getgI (v := 0) rfl rfl) ?_
  refine qm_G.s1 rfl (qm_x_if_ne_f ⟨by decide, by decide⟩ (by decide)) ?_
  refine qm_G.s1 rfl (qm_x_pushI 1 rfl) ?_
  refine qm_G.s1 rfl (qm_x_goto) ?_
  refine qm_G.ret rfl rfl ⟨_, rfl, ?_⟩
  refine qm_G.s1 rfl (qm_x_if_eq_f ⟨by decide, by decide⟩ (by decide)) ?_
  refine qm_G.s1 rfl (qm_x_aload rfl) ?_
  refine qm_G.s1 rfl (qm_x_getgR rfl rfl) ?_
  refine qm_G.s1 rfl (qm_x_iload rfl) ?_
  refine qm_G.cs rfl rfl rfl ?_
  refine qm_C.go (cd := qm_P134) (lv := [(0, qm_R (some (1, 37, 0))), (1, qm_I (qm_i (((0 + 1) + 1) + 1)))]) rfl rfl ?_
  refine qm_G.s1 rfl (qm_x_iload rfl) ?_
  refine qm_G.s1 rfl (qm_x_aload rfl) ?_
  refine qm_G.s1 rfl (qm_x_alen1 (len := 4) rfl) ?_
  refine qm_G.csv rfl rfl rfl ?_
  refine qm_C.go (cd := qm_P69) (lv := [(0, qm_I (qm_i (((0 + 1) + 1) + 1))), (1, qm_I (qm_i 4))]) rfl rfl ?_
  refine qm_G.s1 rfl (qm_x_iload rfl) ?_
  refine qm_G.s1 rfl (qm_x_iload rfl) ?_
  refine qm_G.s1 rfl (show qm_St (qm_o_sio 5) _ _ _ _ _ (qm_R (qm_sio X) :: _) _ from rfl) ?_
  refine qm_G.cs rfl rfl rfl ?_
  refine qm_C.go (cd := qm_P3) (lv := [(0, qm_I (qm_i (((0 + 1) + 1) + 1))), (1, qm_I (qm_i 4)), (2, qm_R ((qm_sio X)))]) rfl rfl ?_
  refine qm_G.s1 rfl (qm_x_iload rfl) ?_
  refine qm_G.s1 rfl (qm_x_if_lt_f ⟨by decide, by decide⟩ (by decide)) ?_
  refine qm_G.s1 rfl (qm_x_iload rfl) ?_
  refine qm_G.s1 rfl (qm_x_iload rfl) ?_
  refine qm_G.s1 rfl (qm_x_icmp_lt_t ⟨by decide, by decide⟩ ⟨by decide, by decide⟩ (by decide)) ?_
  refine qm_G.sp (lv1 := [(0, qm_I (qm_i (((0 + 1) + 1) + 1)))]) rfl rfl (qm_x_iload rfl) ?_
  refine qm_G.ret rfl rfl ⟨_, rfl, ?_⟩
  refine qm_G.s1 rfl (qm_x_popI) ?_
  refine qm_G.retv rfl ⟨rfl, ?_⟩
  refine qm_G.s1 rfl (qm_x_aload rfl) ?_
  refine qm_G.s1 rfl (qm_x_iload rfl) ?_
  refine qm_G.s1 rfl (qm_x_bald1 (len := 4) (v := 116) rfl rfl (by decide) (by decide) rfl) ?_
  refine qm_G.s1 rfl (qm_x_pushI 255 rfl) ?_
  refine qm_G.s1 rfl (qm_x_iand255 (by omega)) ?_
  refine qm_G.s1 rfl (qm_x_i2c (by omega)) ?_
  refine qm_G.ret rfl rfl ⟨_, rfl, ?_⟩
  refine qm_G.ret rfl rfl ⟨_, rfl, ?_⟩
  refine qm_G.cmv rfl rfl (hS 61 rfl) rfl ?_
  refine qm_m_wr hS hR U3 (by omega) (by rw [show Int.toNat (m + 1 + 1 + 1) = m.toNat + 3 by omega, hF 3 (by decide)]; rfl) (fun J4 U4 => ⟨rfl, ?_⟩)
  refine qm_G.s1 rfl (qm_x_iinc (lv' := [(2, qm_I (qm_i ((((0 + 1) + 1) + 1) + 1))), (0, qm_R (some (0, 61, 0))), (1, qm_R (some (1, 24, 0)))]) 1 rfl rfl rfl) ?_
  refine qm_G.s1 rfl (qm_x_goto) ?_
  refine qm_G.sp (lv1 := [(0, qm_R (some (0, 61, 0))), (1, qm_R (some (1, 24, 0))), (2, qm_I (qm_i ((((0 + 1) + 1) + 1) + 1)))]) rfl rfl (qm_x_iload rfl) ?_
  refine qm_G.s1 rfl (qm_x_aload rfl) ?_
  refine qm_G.call rfl rfl rfl ?_
  refine qm_C.go (cd := qm_P53) (lv := [(0, qm_R (some (1, 24, 0)))]) rfl rfl ?_
  refine qm_G.s1 rfl (qm_x_aload rfl) ?_
  refine qm_G.s1 rfl (qm_x_getgR rfl rfl) ?_
  refine qm_G.s1 rfl (qm_x_alen1 (len := 4) rfl) ?_
  refine qm_G.s1 rfl (qm_x_aload rfl) ?_
  refine qm_G.call rfl rfl rfl ?_
  refine qm_C.go (cd := qm_P0) (lv := [(0, qm_R (some (1, 24, 0)))]) rfl rfl ?_
  refine qm_G.s1 rfl (qm_x_pushI 1 rfl) ?_
  refine qm_G.s1 rfl (qm_x_if_eq_f ⟨by decide, by decide⟩ (by decide)) ?_
  refine qm_G.s1 rfl (qm_x_aload rfl) ?_
  refine qm_G.s1 rfl (qm_x_getgI (v := 0) rfl rfl) ?_
  refine qm_G.s1 rfl (qm_x_goto) ?_
  refine qm_G.ret rfl rfl ⟨_, rfl, ?_⟩
  refine qm_G.s1 rfl (qm_x_ishr0) ?_
  refine qm_G.ret rfl rfl ⟨_, rfl, ?_⟩
  refine qm_G.s1 rfl (qm_x_icmp_ge_t ⟨by decide, by decide⟩ ⟨by decide, by decide⟩ (by decide)) ?_
  refine qm_G.retv rfl (k _ ?_)
  rw [show m + 4 = m + 1 + 1 + 1 + 1 by omega]
  exact U4
theorem qm_tn_pos {s : Int} : 0 < qm_tn s := by
  unfold qm_tn
  split
  · decide
  · split <;> decide
theorem qm_tb_0 {s : Int} : (qm_SB (qm_tb s) 0).toInt = 32 := by
  unfold qm_tb
  split
  · rfl
  · split <;> rfl
theorem qm_sb_22 : ∀ j, j < 4 → (qm_SB 32 (j + 1)).toInt = (qm_SB 35 j).toInt := by decide +kernel
theorem qm_sb_23 : ∀ j, j < 5 → (qm_SB 33 (j + 1)).toInt = (qm_SB 36 j).toInt := by decide +kernel
theorem qm_sb_24 : ∀ j, j < 4 → (qm_SB 34 (j + 1)).toInt = (qm_SB 37 j).toInt := by decide +kernel
theorem qm_m_tks {S : List qm_Sh} {K : qm_J} {L : qm_Ct Int64} {D : qm_Ct UInt64} {R : qm_Ct (Option qm_Rf)} {X : Nat × (Nat → Int32)} {Q : Option qm_V → qm_Hp → Prop} {J0 J : qm_J} {d1 d2 : Nat} {F : Nat → Int} (hS : qm_Sd S) (hR : qm_Rd R) (e62 : ∀ i, J 62 0 i = J0 62 0 i) (r8 : 0 ≤ J0 62 0 8 ∧ J0 62 0 8 ≤ 6) (r9 : 0 ≤ J0 62 0 9 ∧ J0 62 0 9 ≤ 6) (r10 : -8 ≤ J0 62 0 10 ∧ J0 62 0 10 ≤ 8) (r11 : qm_sm (J0 62 0 11)) (hd1 : qm_dn (J0 62 0 10).natAbs d1) (hd2 : qm_dn (J0 62 0 11).natAbs d2) (b1 : qm_sgn (J0 62 0 10) d1 ≤ 2) (b2 : qm_sgn (J0 62 0 11) d2 ≤ 11) (hF : qm_tkp F (J0 62 0 10) (J0 62 0 11) (J0 62 0 8) (J0 62 0 9) (qm_sgn (J0 62 0 10) d1) (qm_sgn (J0 62 0 11) d2)) (kc : ∀ J' m', m' = ((qm_sgn (J0 62 0 10) d1 + qm_sgn (J0 62 0 11) d2 + 5 + qm_tn (J0 62 0 10) : Nat) : Int) → qm_Tm J J' m' F → Q none (qm_H S J' K L D R X)) : qm_C qm_P 196 [qm_R (some (0, 61, 0))] (qm_H S J K L D R X) Q := by
  obtain ⟨f1, f2, f3, f4, f5, f6, f7, f8⟩ := hF
  refine qm_C.go (cd := qm_P196) (lv := [(0, qm_R (some (0, 61, 0)))]) rfl rfl ?_
  refine qm_G.s1 rfl (qm_x_aload rfl) ?_
  refine qm_G.s1 rfl (qm_x_pushI 0 rfl) ?_
  refine qm_G.s1 rfl (qm_x_putfI (hS 61 rfl)) ?_
  have U1 : qm_Tm J (qm_set J 61 0 18 0) 0 F := ⟨fun r s i a b => qm_st_ne (by omega), qm_st_eq, fun i hi => absurd hi (by omega)⟩
  generalize qm_set J 61 0 18 0 = J' at U1 ⊢
  refine qm_G.s1 rfl (qm_x_aload rfl) ?_
  refine qm_G.s1 rfl (qm_x_aload rfl) ?_
  refine qm_G.s1 rfl (qm_x_getfR (q := (some (0, 62, 0))) (hS 61 rfl) (hR 61 0 62 rfl rfl)) ?_
  refine qm_G.s1 rfl (qm_x_pushI 10 rfl) ?_
  refine qm_G.s1 rfl (qm_x_iald (v := (J0 62 0 10)) (qm_arS hS rfl rfl) rfl (by decide) (by decide) (by decide) ((U1.1 62 0 10 (by decide) (by decide)).trans (e62 10))) ?_
  refine qm_G.s1 rfl (qm_x_i2l ⟨by omega, by omega⟩) ?_
  refine qm_G.cmv rfl rfl (hS 61 rfl) rfl ?_
  refine qm_m_wn (d := d1) hS hR (by omega) hd1 U1 (by omega) (fun j hj => ?_) (fun J2 U2 => ⟨rfl, ?_⟩)
  · rw [show Int.toNat 0 + j = j by omega]; exact f1 j hj
  refine qm_G.s1 rfl (qm_x_aload rfl) ?_
  refine qm_G.s1 rfl (qm_x_pushI 32 rfl) ?_
  refine qm_G.cmv rfl rfl (hS 61 rfl) rfl ?_
  refine qm_m_wr hS hR U2 (by omega) (by rw [show Int.toNat (0 + (qm_sgn (J0 62 0 10) d1 : Int)) = qm_sgn (J0 62 0 10) d1 by omega]; exact f2) (fun J3 U3 => ⟨rfl, ?_⟩)
  refine qm_G.s1 rfl (qm_x_aload rfl) ?_
  refine qm_G.s1 rfl (qm_x_aload rfl) ?_
  refine qm_G.s1 rfl (qm_x_getfR (q := (some (0, 62, 0))) (hS 61 rfl) (hR 61 0 62 rfl rfl)) ?_
  refine qm_G.s1 rfl (qm_x_pushI 11 rfl) ?_
  refine qm_G.s1 rfl (qm_x_iald (v := (J0 62 0 11)) (qm_arS hS rfl rfl) rfl (by decide) (by decide) (by decide) ((U3.1 62 0 11 (by decide) (by decide)).trans (e62 11))) ?_
  refine qm_G.s1 rfl (qm_x_i2l ⟨by omega, by omega⟩) ?_
  refine qm_G.cmv rfl rfl (hS 61 rfl) rfl ?_
  refine qm_m_wn (d := d2) hS hR (by omega) hd2 U3 (by omega) (fun j hj => ?_) (fun J4 U4 => ⟨rfl, ?_⟩)
  · rw [show Int.toNat (0 + (qm_sgn (J0 62 0 10) d1 : Int) + 1) + j = qm_sgn (J0 62 0 10) d1 + 1 + j by omega]; exact f3 j hj
  refine qm_G.s1 rfl (qm_x_aload rfl) ?_
  refine qm_G.s1 rfl (qm_x_pushI 32 rfl) ?_
  refine qm_G.cmv rfl rfl (hS 61 rfl) rfl ?_
  refine qm_m_wr hS hR U4 (by omega) (by rw [show Int.toNat (0 + (qm_sgn (J0 62 0 10) d1 : Int) + 1 + (qm_sgn (J0 62 0 11) d2 : Int)) = qm_sgn (J0 62 0 10) d1 + qm_sgn (J0 62 0 11) d2 + 1 by omega]; exact f4) (fun J5 U5 => ⟨rfl, ?_⟩)
  refine qm_G.s1 rfl (qm_x_aload rfl) ?_
  refine qm_G.s1 rfl (qm_x_aload rfl) ?_
  refine qm_G.s1 rfl (qm_x_getfR (q := (some (0, 62, 0))) (hS 61 rfl) (hR 61 0 62 rfl rfl)) ?_
  refine qm_G.s1 rfl (qm_x_pushI 8 rfl) ?_
  refine qm_G.s1 rfl (qm_x_iald (v := (J0 62 0 8)) (qm_arS hS rfl rfl) rfl (by decide) (by decide) (by decide) ((U5.1 62 0 8 (by decide) (by decide)).trans (e62 8))) ?_
  refine qm_G.s1 rfl (qm_x_pushI 6 rfl) ?_
  refine qm_y_icmp_ne rfl ⟨by omega, by omega⟩ ⟨by decide, by decide⟩ (fun c6 => ?_) (fun c6 => ?_)
  · refine qm_G.sp (lv1 := [(0, qm_R (some (0, 61, 0)))]) rfl rfl (qm_x_pushI 48 rfl) ?_
    refine qm_G.s1 rfl (qm_x_aload rfl) ?_
    refine qm_G.s1 rfl (qm_x_getfR (q := (some (0, 62, 0))) (hS 61 rfl) (hR 61 0 62 rfl rfl)) ?_
    refine qm_G.s1 rfl (qm_x_pushI 8 rfl) ?_
    refine qm_G.s1 rfl (qm_x_iald (v := (J0 62 0 8)) (qm_arS hS rfl rfl) rfl (by decide) (by decide) (by decide) ((U5.1 62 0 8 (by decide) (by decide)).trans (e62 8))) ?_
    refine qm_G.s1 rfl (qm_x_iadd) ?_
    refine qm_G.cmv rfl rfl (hS 61 rfl) rfl ?_
    refine qm_m_wr hS hR U5 (by omega) (by rw [show Int.toNat (0 + (qm_sgn (J0 62 0 10) d1 : Int) + 1 + (qm_sgn (J0 62 0 11) d2 : Int) + 1) = qm_sgn (J0 62 0 10) d1 + qm_sgn (J0 62 0 11) d2 + 2 by omega]; exact f5.trans (if_neg (by omega))) (fun J7 U7 => ⟨rfl, ?_⟩)
    refine qm_G.s1 rfl (qm_x_aload rfl) ?_
    refine qm_G.s1 rfl (qm_x_pushI 47 rfl) ?_
    refine qm_G.cmv rfl rfl (hS 61 rfl) rfl ?_
    refine qm_m_wr hS hR U7 (by omega) (by rw [show Int.toNat (0 + (qm_sgn (J0 62 0 10) d1 : Int) + 1 + (qm_sgn (J0 62 0 11) d2 : Int) + 1 + 1) = qm_sgn (J0 62 0 10) d1 + qm_sgn (J0 62 0 11) d2 + 3 by omega]; exact f6) (fun J8 U8 => ⟨rfl, ?_⟩)
    refine qm_G.s1 rfl (qm_x_aload rfl) ?_
    refine qm_G.s1 rfl (qm_x_aload rfl) ?_
    refine qm_G.s1 rfl (qm_x_getfR (q := (some (0, 62, 0))) (hS 61 rfl) (hR 61 0 62 rfl rfl)) ?_
    refine qm_G.s1 rfl (qm_x_pushI 9 rfl) ?_
    refine qm_G.s1 rfl (qm_x_iald (v := (J0 62 0 9)) (qm_arS hS rfl rfl) rfl (by decide) (by decide) (by decide) ((U8.1 62 0 9 (by decide) (by decide)).trans (e62 9))) ?_
    refine qm_G.s1 rfl (qm_x_pushI 6 rfl) ?_
    refine qm_y_icmp_ne rfl ⟨by omega, by omega⟩ ⟨by decide, by decide⟩ (fun c9 => ?_) (fun c9 => ?_)
    · refine qm_G.sp (lv1 := [(0, qm_R (some (0, 61, 0)))]) rfl rfl (qm_x_pushI 48 rfl) ?_
      refine qm_G.s1 rfl (qm_x_aload rfl) ?_
      refine qm_G.s1 rfl (qm_x_getfR (q := (some (0, 62, 0))) (hS 61 rfl) (hR 61 0 62 rfl rfl)) ?_
      refine qm_G.s1 rfl (qm_x_pushI 9 rfl) ?_
      refine qm_G.s1 rfl (qm_x_iald (v := (J0 62 0 9)) (qm_arS hS rfl rfl) rfl (by decide) (by decide) (by decide) ((U8.1 62 0 9 (by decide) (by decide)).trans (e62 9))) ?_
      refine qm_G.s1 rfl (qm_x_iadd) ?_
      refine qm_G.cmv rfl rfl (hS 61 rfl) rfl ?_
      refine qm_m_wr hS hR U8 (by omega) (by rw [show Int.toNat (0 + (qm_sgn (J0 62 0 10) d1 : Int) + 1 + (qm_sgn (J0 62 0 11) d2 : Int) + 1 + 1 + 1) = qm_sgn (J0 62 0 10) d1 + qm_sgn (J0 62 0 11) d2 + 4 by omega]; exact f7.trans (if_neg (by omega))) (fun J10 U10 => ⟨rfl, ?_⟩)
      have hbl : F (qm_sgn (J0 62 0 10) d1 + qm_sgn (J0 62 0 11) d2 + 5 + 0) = 32 := (f8 0 qm_tn_pos).trans qm_tb_0
      refine qm_G.s1 rfl (qm_x_aload rfl) ?_
      refine qm_G.s1 rfl (qm_x_pushI 32 rfl) ?_
      refine qm_G.cmv rfl rfl (hS 61 rfl) rfl ?_
      refine qm_m_wr hS hR U10 (by omega) (by rw [show Int.toNat (0 + (qm_sgn (J0 62 0 10) d1 : Int) + 1 + (qm_sgn (J0 62 0 11) d2 : Int) + 1 + 1 + 1 + 1) = qm_sgn (J0 62 0 10) d1 + qm_sgn (J0 62 0 11) d2 + 5 + 0 by omega]; exact hbl) (fun J11 U11 => ⟨rfl, ?_⟩)
      refine qm_G.s1 rfl (qm_x_aload rfl) ?_
      refine qm_G.s1 rfl (qm_x_aload rfl) ?_
      refine qm_G.s1 rfl (qm_x_getfR (q := (some (0, 62, 0))) (hS 61 rfl) (hR 61 0 62 rfl rfl)) ?_
      refine qm_G.s1 rfl (qm_x_pushI 10 rfl) ?_
      refine qm_G.s1 rfl (qm_x_iald (v := (J0 62 0 10)) (qm_arS hS rfl rfl) rfl (by decide) (by decide) (by decide) ((U11.1 62 0 10 (by decide) (by decide)).trans (e62 10))) ?_
      refine qm_y_if_le rfl ⟨by omega, by omega⟩ (fun c12 => ?_) (fun c12 => ?_)
      · refine qm_G.sp (lv1 := [(0, qm_R (some (0, 61, 0)))]) rfl rfl (qm_x_aload rfl) ?_
        refine qm_G.s1 rfl (qm_x_getfR (q := (some (0, 62, 0))) (hS 61 rfl) (hR 61 0 62 rfl rfl)) ?_
        refine qm_G.s1 rfl (qm_x_pushI 10 rfl) ?_
        refine qm_G.s1 rfl (qm_x_iald (v := (J0 62 0 10)) (qm_arS hS rfl rfl) rfl (by decide) (by decide) (by decide) ((U11.1 62 0 10 (by decide) (by decide)).trans (e62 10))) ?_
        refine qm_y_if_ge rfl ⟨by omega, by omega⟩ (fun c13 => ?_) (fun c13 => ?_)
        · refine qm_G.sp (lv1 := []) rfl rfl (qm_x_push) ?_
          refine qm_G.cmv rfl rfl (hS 61 rfl) rfl ?_
          have etn : qm_tn (J0 62 0 10) = 5 := (if_neg (by omega)).trans (if_neg (by omega))
          have etb : qm_tb (J0 62 0 10) = 34 := (if_neg (by omega)).trans (if_neg (by omega))
          rw [etn, etb] at f8
          refine qm_m_wal24 hS hR U11 (by omega) (fun j hj => ?_) (fun J14 U14 => ⟨rfl, ?_⟩)
          · rw [show Int.toNat (0 + (qm_sgn (J0 62 0 10) d1 : Int) + 1 + (qm_sgn (J0 62 0 11) d2 : Int) + 1 + 1 + 1 + 1 + 1) + j = qm_sgn (J0 62 0 10) d1 + qm_sgn (J0 62 0 11) d2 + 5 + (j + 1) by omega, f8 (j + 1) (by omega)]; exact qm_sb_24 j hj
          exact qm_G.retv rfl (kc _ _ (by rw [etn]; omega) U14)
        · refine qm_G.s1 rfl (qm_x_push) ?_
          refine qm_G.s1 rfl (qm_x_goto) ?_
          refine qm_G.cmv rfl rfl (hS 61 rfl) rfl ?_
          have etn : qm_tn (J0 62 0 10) = 6 := (if_neg (by omega)).trans (if_pos (by omega))
          have etb : qm_tb (J0 62 0 10) = 33 := (if_neg (by omega)).trans (if_pos (by omega))
          rw [etn, etb] at f8
          refine qm_m_wal23 hS hR U11 (by omega) (fun j hj => ?_) (fun J15 U15 => ⟨rfl, ?_⟩)
          · rw [show Int.toNat (0 + (qm_sgn (J0 62 0 10) d1 : Int) + 1 + (qm_sgn (J0 62 0 11) d2 : Int) + 1 + 1 + 1 + 1 + 1) + j = qm_sgn (J0 62 0 10) d1 + qm_sgn (J0 62 0 11) d2 + 5 + (j + 1) by omega, f8 (j + 1) (by omega)]; exact qm_sb_23 j hj
          exact qm_G.retv rfl (kc _ _ (by rw [etn]; omega) U15)
      · refine qm_G.s1 rfl (qm_x_push) ?_
        refine qm_G.s1 rfl (qm_x_goto) ?_
        refine qm_G.cmv rfl rfl (hS 61 rfl) rfl ?_
        have etn : qm_tn (J0 62 0 10) = 5 := if_pos (by omega)
        have etb : qm_tb (J0 62 0 10) = 32 := if_pos (by omega)
        rw [etn, etb] at f8
        refine qm_m_wal22 hS hR U11 (by omega) (fun j hj => ?_) (fun J16 U16 => ⟨rfl, ?_⟩)
        · rw [show Int.toNat (0 + (qm_sgn (J0 62 0 10) d1 : Int) + 1 + (qm_sgn (J0 62 0 11) d2 : Int) + 1 + 1 + 1 + 1 + 1) + j = qm_sgn (J0 62 0 10) d1 + qm_sgn (J0 62 0 11) d2 + 5 + (j + 1) by omega, f8 (j + 1) (by omega)]; exact qm_sb_22 j hj
        exact qm_G.retv rfl (kc _ _ (by rw [etn]; omega) U16)
    · refine qm_G.s1 rfl (qm_x_pushI 45 rfl) ?_
      refine qm_G.s1 rfl (qm_x_goto) ?_
      refine qm_G.cmv rfl rfl (hS 61 rfl) rfl ?_
      refine qm_m_wr hS hR U8 (by omega) (by rw [show Int.toNat (0 + (qm_sgn (J0 62 0 10) d1 : Int) + 1 + (qm_sgn (J0 62 0 11) d2 : Int) + 1 + 1 + 1) = qm_sgn (J0 62 0 10) d1 + qm_sgn (J0 62 0 11) d2 + 4 by omega]; exact f7.trans (if_pos (by omega))) (fun J17 U17 => ⟨rfl, ?_⟩)
      have hbl : F (qm_sgn (J0 62 0 10) d1 + qm_sgn (J0 62 0 11) d2 + 5 + 0) = 32 := (f8 0 qm_tn_pos).trans qm_tb_0
      refine qm_G.s1 rfl (qm_x_aload rfl) ?_
      refine qm_G.s1 rfl (qm_x_pushI 32 rfl) ?_
      refine qm_G.cmv rfl rfl (hS 61 rfl) rfl ?_
      refine qm_m_wr hS hR U17 (by omega) (by rw [show Int.toNat (0 + (qm_sgn (J0 62 0 10) d1 : Int) + 1 + (qm_sgn (J0 62 0 11) d2 : Int) + 1 + 1 + 1 + 1) = qm_sgn (J0 62 0 10) d1 + qm_sgn (J0 62 0 11) d2 + 5 + 0 by omega]; exact hbl) (fun J18 U18 => ⟨rfl, ?_⟩)
      refine qm_G.s1 rfl (qm_x_aload rfl) ?_
      refine qm_G.s1 rfl (qm_x_aload rfl) ?_
      refine qm_G.s1 rfl (qm_x_getfR (q := (some (0, 62, 0))) (hS 61 rfl) (hR 61 0 62 rfl rfl)) ?_
      refine qm_G.s1 rfl (qm_x_pushI 10 rfl) ?_
      refine qm_G.s1 rfl (qm_x_iald (v := (J0 62 0 10)) (qm_arS hS rfl rfl) rfl (by decide) (by decide) (by decide) ((U18.1 62 0 10 (by decide) (by decide)).trans (e62 10))) ?_
      refine qm_y_if_le rfl ⟨by omega, by omega⟩ (fun c19 => ?_) (fun c19 => ?_)
      · refine qm_G.sp (lv1 := [(0, qm_R (some (0, 61, 0)))]) rfl rfl (qm_x_aload rfl) ?_
        refine qm_G.s1 rfl (qm_x_getfR (q := (some (0, 62, 0))) (hS 61 rfl) (hR 61 0 62 rfl rfl)) ?_
        refine qm_G.s1 rfl (qm_x_pushI 10 rfl) ?_
        refine qm_G.s1 rfl (qm_x_iald (v := (J0 62 0 10)) (qm_arS hS rfl rfl) rfl (by decide) (by decide) (by decide) ((U18.1 62 0 10 (by decide) (by decide)).trans (e62 10))) ?_
        refine qm_y_if_ge rfl ⟨by omega, by omega⟩ (fun c20 => ?_) (fun c20 => ?_)
        · refine qm_G.sp (lv1 := []) rfl rfl (qm_x_push) ?_
          refine qm_G.cmv rfl rfl (hS 61 rfl) rfl ?_
          have etn : qm_tn (J0 62 0 10) = 5 := (if_neg (by omega)).trans (if_neg (by omega))
          have etb : qm_tb (J0 62 0 10) = 34 := (if_neg (by omega)).trans (if_neg (by omega))
          rw [etn, etb] at f8
          refine qm_m_wal24 hS hR U18 (by omega) (fun j hj => ?_) (fun J21 U21 => ⟨rfl, ?_⟩)
          · rw [show Int.toNat (0 + (qm_sgn (J0 62 0 10) d1 : Int) + 1 + (qm_sgn (J0 62 0 11) d2 : Int) + 1 + 1 + 1 + 1 + 1) + j = qm_sgn (J0 62 0 10) d1 + qm_sgn (J0 62 0 11) d2 + 5 + (j + 1) by omega, f8 (j + 1) (by omega)]; exact qm_sb_24 j hj
          exact qm_G.retv rfl (kc _ _ (by rw [etn]; omega) U21)
        · refine qm_G.s1 rfl (qm_x_push) ?_
          refine qm_G.s1 rfl (qm_x_goto) ?_
          refine qm_G.cmv rfl rfl (hS 61 rfl) rfl ?_
          have etn : qm_tn (J0 62 0 10) = 6 := (if_neg (by omega)).trans (if_pos (by omega))
          have etb : qm_tb (J0 62 0 10) = 33 := (if_neg (by omega)).trans (if_pos (by omega))
          rw [etn, etb] at f8
          refine qm_m_wal23 hS hR U18 (by omega) (fun j hj => ?_) (fun J22 U22 => ⟨rfl, ?_⟩)
          · rw [show Int.toNat (0 + (qm_sgn (J0 62 0 10) d1 : Int) + 1 + (qm_sgn (J0 62 0 11) d2 : Int) + 1 + 1 + 1 + 1 + 1) + j = qm_sgn (J0 62 0 10) d1 + qm_sgn (J0 62 0 11) d2 + 5 + (j + 1) by omega, f8 (j + 1) (by omega)]; exact qm_sb_23 j hj
          exact qm_G.retv rfl (kc _ _ (by rw [etn]; omega) U22)
      · refine qm_G.s1 rfl (qm_x_push) ?_
        refine qm_G.s1 rfl (qm_x_goto) ?_
        refine qm_G.cmv rfl rfl (hS 61 rfl) rfl ?_
        have etn : qm_tn (J0 62 0 10) = 5 := if_pos (by omega)
        have etb : qm_tb (J0 62 0 10) = 32 := if_pos (by omega)
        rw [etn, etb] at f8
        refine qm_m_wal22 hS hR U18 (by omega) (fun j hj => ?_) (fun J23 U23 => ⟨rfl, ?_⟩)
        · rw [show Int.toNat (0 + (qm_sgn (J0 62 0 10) d1 : Int) + 1 + (qm_sgn (J0 62 0 11) d2 : Int) + 1 + 1 + 1 + 1 + 1) + j = qm_sgn (J0 62 0 10) d1 + qm_sgn (J0 62 0 11) d2 + 5 + (j + 1) by omega, f8 (j + 1) (by omega)]; exact qm_sb_22 j hj
        exact qm_G.retv rfl (kc _ _ (by rw [etn]; omega) U23)
  · refine qm_G.s1 rfl (qm_x_pushI 45 rfl) ?_
    refine qm_G.s1 rfl (qm_x_goto) ?_
    refine qm_G.cmv rfl rfl (hS 61 rfl) rfl ?_
    refine qm_m_wr hS hR U5 (by omega) (by rw [show Int.toNat (0 + (qm_sgn (J0 62 0 10) d1 : Int) + 1 + (qm_sgn (J0 62 0 11) d2 : Int) + 1) = qm_sgn (J0 62 0 10) d1 + qm_sgn (J0 62 0 11) d2 + 2 by omega]; exact f5.trans (if_pos (by omega))) (fun J24 U24 => ⟨rfl, ?_⟩)
    refine qm_G.s1 rfl (qm_x_aload rfl) ?_
    refine qm_G.s1 rfl (qm_x_pushI 47 rfl) ?_
    refine qm_G.cmv rfl rfl (hS 61 rfl) rfl ?_
    refine qm_m_wr hS hR U24 (by omega) (by rw [show Int.toNat (0 + (qm_sgn (J0 62 0 10) d1 : Int) + 1 + (qm_sgn (J0 62 0 11) d2 : Int) + 1 + 1) = qm_sgn (J0 62 0 10) d1 + qm_sgn (J0 62 0 11) d2 + 3 by omega]; exact f6) (fun J25 U25 => ⟨rfl, ?_⟩)
    refine qm_G.s1 rfl (qm_x_aload rfl) ?_
    refine qm_G.s1 rfl (qm_x_aload rfl) ?_
    refine qm_G.s1 rfl (qm_x_getfR (q := (some (0, 62, 0))) (hS 61 rfl) (hR 61 0 62 rfl rfl)) ?_
    refine qm_G.s1 rfl (qm_x_pushI 9 rfl) ?_
    refine qm_G.s1 rfl (qm_x_iald (v := (J0 62 0 9)) (qm_arS hS rfl rfl) rfl (by decide) (by decide) (by decide) ((U25.1 62 0 9 (by decide) (by decide)).trans (e62 9))) ?_
    refine qm_G.s1 rfl (qm_x_pushI 6 rfl) ?_
    refine qm_y_icmp_ne rfl ⟨by omega, by omega⟩ ⟨by decide, by decide⟩ (fun c26 => ?_) (fun c26 => ?_)
    · refine qm_G.sp (lv1 := [(0, qm_R (some (0, 61, 0)))]) rfl rfl (qm_x_pushI 48 rfl) ?_
      refine qm_G.s1 rfl (qm_x_aload rfl) ?_
      refine qm_G.s1 rfl (qm_x_getfR (q := (some (0, 62, 0))) (hS 61 rfl) (hR 61 0 62 rfl rfl)) ?_
      refine qm_G.s1 rfl (qm_x_pushI 9 rfl) ?_
      refine qm_G.s1 rfl (qm_x_iald (v := (J0 62 0 9)) (qm_arS hS rfl rfl) rfl (by decide) (by decide) (by decide) ((U25.1 62 0 9 (by decide) (by decide)).trans (e62 9))) ?_
      refine qm_G.s1 rfl (qm_x_iadd) ?_
      refine qm_G.cmv rfl rfl (hS 61 rfl) rfl ?_
      refine qm_m_wr hS hR U25 (by omega) (by rw [show Int.toNat (0 + (qm_sgn (J0 62 0 10) d1 : Int) + 1 + (qm_sgn (J0 62 0 11) d2 : Int) + 1 + 1 + 1) = qm_sgn (J0 62 0 10) d1 + qm_sgn (J0 62 0 11) d2 + 4 by omega]; exact f7.trans (if_neg (by omega))) (fun J27 U27 => ⟨rfl, ?_⟩)
      have hbl : F (qm_sgn (J0 62 0 10) d1 + qm_sgn (J0 62 0 11) d2 + 5 + 0) = 32 := (f8 0 qm_tn_pos).trans qm_tb_0
      refine qm_G.s1 rfl (qm_x_aload rfl) ?_
      refine qm_G.s1 rfl (qm_x_pushI 32 rfl) ?_
      refine qm_G.cmv rfl rfl (hS 61 rfl) rfl ?_
      refine qm_m_wr hS hR U27 (by omega) (by rw [show Int.toNat (0 + (qm_sgn (J0 62 0 10) d1 : Int) + 1 + (qm_sgn (J0 62 0 11) d2 : Int) + 1 + 1 + 1 + 1) = qm_sgn (J0 62 0 10) d1 + qm_sgn (J0 62 0 11) d2 + 5 + 0 by omega]; exact hbl) (fun J28 U28 => ⟨rfl, ?_⟩)
      refine qm_G.s1 rfl (qm_x_aload rfl) ?_
      refine qm_G.s1 rfl (qm_x_aload rfl) ?_
      refine qm_G.s1 rfl (qm_x_getfR (q := (some (0, 62, 0))) (hS 61 rfl) (hR 61 0 62 rfl rfl)) ?_
      refine qm_G.s1 rfl (qm_x_pushI 10 rfl) ?_
      refine qm_G.s1 rfl (qm_x_iald (v := (J0 62 0 10)) (qm_arS hS rfl rfl) rfl (by decide) (by decide) (by decide) ((U28.1 62 0 10 (by decide) (by decide)).trans (e62 10))) ?_
      refine qm_y_if_le rfl ⟨by omega, by omega⟩ (fun c29 => ?_) (fun c29 => ?_)
      · refine qm_G.sp (lv1 := [(0, qm_R (some (0, 61, 0)))]) rfl rfl (qm_x_aload rfl) ?_
        refine qm_G.s1 rfl (qm_x_getfR (q := (some (0, 62, 0))) (hS 61 rfl) (hR 61 0 62 rfl rfl)) ?_
        refine qm_G.s1 rfl (qm_x_pushI 10 rfl) ?_
        refine qm_G.s1 rfl (qm_x_iald (v := (J0 62 0 10)) (qm_arS hS rfl rfl) rfl (by decide) (by decide) (by decide) ((U28.1 62 0 10 (by decide) (by decide)).trans (e62 10))) ?_
        refine qm_y_if_ge rfl ⟨by omega, by omega⟩ (fun c30 => ?_) (fun c30 => ?_)
        · refine qm_G.sp (lv1 := []) rfl rfl (qm_x_push) ?_
          refine qm_G.cmv rfl rfl (hS 61 rfl) rfl ?_
          have etn : qm_tn (J0 62 0 10) = 5 := (if_neg (by omega)).trans (if_neg (by omega))
          have etb : qm_tb (J0 62 0 10) = 34 := (if_neg (by omega)).trans (if_neg (by omega))
          rw [etn, etb] at f8
          refine qm_m_wal24 hS hR U28 (by omega) (fun j hj => ?_) (fun J31 U31 => ⟨rfl, ?_⟩)
          · rw [show Int.toNat (0 + (qm_sgn (J0 62 0 10) d1 : Int) + 1 + (qm_sgn (J0 62 0 11) d2 : Int) + 1 + 1 + 1 + 1 + 1) + j = qm_sgn (J0 62 0 10) d1 + qm_sgn (J0 62 0 11) d2 + 5 + (j + 1) by omega, f8 (j + 1) (by omega)]; exact qm_sb_24 j hj
          exact qm_G.retv rfl (kc _ _ (by rw [etn]; omega) U31)
        · refine qm_G.s1 rfl (qm_x_push) ?_
          refine qm_G.s1 rfl (qm_x_goto) ?_
          refine qm_G.cmv rfl rfl (hS 61 rfl) rfl ?_
          have etn : qm_tn (J0 62 0 10) = 6 := (if_neg (by omega)).trans (if_pos (by omega))
          have etb : qm_tb (J0 62 0 10) = 33 := (if_neg (by omega)).trans (if_pos (by omega))
          rw [etn, etb] at f8
          refine qm_m_wal23 hS hR U28 (by omega) (fun j hj => ?_) (fun J32 U32 => ⟨rfl, ?_⟩)
          · rw [show Int.toNat (0 + (qm_sgn (J0 62 0 10) d1 : Int) + 1 + (qm_sgn (J0 62 0 11) d2 : Int) + 1 + 1 + 1 + 1 + 1) + j = qm_sgn (J0 62 0 10) d1 + qm_sgn (J0 62 0 11) d2 + 5 + (j + 1) by omega, f8 (j + 1) (by omega)]; exact qm_sb_23 j hj
          exact qm_G.retv rfl (kc _ _ (by rw [etn]; omega) U32)
      · refine qm_G.s1 rfl (qm_x_push) ?_
        refine qm_G.s1 rfl (qm_x_goto) ?_
        refine qm_G.cmv rfl rfl (hS 61 rfl) rfl ?_
        have etn : qm_tn (J0 62 0 10) = 5 := if_pos (by omega)
        have etb : qm_tb (J0 62 0 10) = 32 := if_pos (by omega)
        rw [etn, etb] at f8
        refine qm_m_wal22 hS hR U28 (by omega) (fun j hj => ?_) (fun J33 U33 => ⟨rfl, ?_⟩)
        · rw [show Int.toNat (0 + (qm_sgn (J0 62 0 10) d1 : Int) + 1 + (qm_sgn (J0 62 0 11) d2 : Int) + 1 + 1 + 1 + 1 + 1) + j = qm_sgn (J0 62 0 10) d1 + qm_sgn (J0 62 0 11) d2 + 5 + (j + 1) by omega, f8 (j + 1) (by omega)]; exact qm_sb_22 j hj
        exact qm_G.retv rfl (kc _ _ (by rw [etn]; omega) U33)
    · refine qm_G.s1 rfl (qm_x_pushI 45 rfl) ?_
      refine qm_G.s1 rfl (qm_x_goto) ?_
      refine qm_G.cmv rfl rfl (hS 61 rfl) rfl ?_
      refine qm_m_wr hS hR U25 (by omega) (by rw [show Int.toNat (0 + (qm_sgn (J0 62 0 10) d1 : Int) + 1 + (qm_sgn (J0 62 0 11) d2 : Int) + 1 + 1 + 1) = qm_sgn (J0 62 0 10) d1 + qm_sgn (J0 62 0 11) d2 + 4 by omega]; exact f7.trans (if_pos (by omega))) (fun J34 U34 => ⟨rfl, ?_⟩)
      have hbl : F (qm_sgn (J0 62 0 10) d1 + qm_sgn (J0 62 0 11) d2 + 5 + 0) = 32 := (f8 0 qm_tn_pos).trans qm_tb_0
      refine qm_G.s1 rfl (qm_x_aload rfl) ?_
      refine qm_G.s1 rfl (qm_x_pushI 32 rfl) ?_
      refine qm_G.cmv rfl rfl (hS 61 rfl) rfl ?_
      refine qm_m_wr hS hR U34 (by omega) (by rw [show Int.toNat (0 + (qm_sgn (J0 62 0 10) d1 : Int) + 1 + (qm_sgn (J0 62 0 11) d2 : Int) + 1 + 1 + 1 + 1) = qm_sgn (J0 62 0 10) d1 + qm_sgn (J0 62 0 11) d2 + 5 + 0 by omega]; exact hbl) (fun J35 U35 => ⟨rfl, ?_⟩)
      refine qm_G.s1 rfl (qm_x_aload rfl) ?_
      refine qm_G.s1 rfl (qm_x_aload rfl) ?_
      refine qm_G.s1 rfl (qm_x_getfR (q := (some (0, 62, 0))) (hS 61 rfl) (hR 61 0 62 rfl rfl)) ?_
      refine qm_G.s1 rfl (qm_x_pushI 10 rfl) ?_
      refine qm_G.s1 rfl (qm_x_iald (v := (J0 62 0 10)) (qm_arS hS rfl rfl) rfl (by decide) (by decide) (by decide) ((U35.1 62 0 10 (by decide) (by decide)).trans (e62 10))) ?_
      refine qm_y_if_le rfl ⟨by omega, by omega⟩ (fun c36 => ?_) (fun c36 => ?_)
      · refine qm_G.sp (lv1 := [(0, qm_R (some (0, 61, 0)))]) rfl rfl (qm_x_aload rfl) ?_
        refine qm_G.s1 rfl (qm_x_getfR (q := (some (0, 62, 0))) (hS 61 rfl) (hR 61 0 62 rfl rfl)) ?_
        refine qm_G.s1 rfl (qm_x_pushI 10 rfl) ?_
        refine qm_G.s1 rfl (qm_x_iald (v := (J0 62 0 10)) (qm_arS hS rfl rfl) rfl (by decide) (by decide) (by decide) ((U35.1 62 0 10 (by decide) (by decide)).trans (e62 10))) ?_
        refine qm_y_if_ge rfl ⟨by omega, by omega⟩ (fun c37 => ?_) (fun c37 => ?_)
        · refine qm_G.sp (lv1 := []) rfl rfl (qm_x_push) ?_
          refine qm_G.cmv rfl rfl (hS 61 rfl) rfl ?_
          have etn : qm_tn (J0 62 0 10) = 5 := (if_neg (by omega)).trans (if_neg (by omega))
          have etb : qm_tb (J0 62 0 10) = 34 := (if_neg (by omega)).trans (if_neg (by omega))
          rw [etn, etb] at f8
          refine qm_m_wal24 hS hR U35 (by omega) (fun j hj => ?_) (fun J38 U38 => ⟨rfl, ?_⟩)
          · rw [show Int.toNat (0 + (qm_sgn (J0 62 0 10) d1 : Int) + 1 + (qm_sgn (J0 62 0 11) d2 : Int) + 1 + 1 + 1 + 1 + 1) + j = qm_sgn (J0 62 0 10) d1 + qm_sgn (J0 62 0 11) d2 + 5 + (j + 1) by omega, f8 (j + 1) (by omega)]; exact qm_sb_24 j hj
          exact qm_G.retv rfl (kc _ _ (by rw [etn]; omega) U38)
        · refine qm_G.s1 rfl (qm_x_push) ?_
          refine qm_G.s1 rfl (qm_x_goto) ?_
          refine qm_G.cmv rfl rfl (hS 61 rfl) rfl ?_
          have etn : qm_tn (J0 62 0 10) = 6 := (if_neg (by omega)).trans (if_pos (by omega))
          have etb : qm_tb (J0 62 0 10) = 33 := (if_neg (by omega)).trans (if_pos (by omega))
          rw [etn, etb] at f8
          refine qm_m_wal23 hS hR U35 (by omega) (fun j hj => ?_) (fun J39 U39 => ⟨rfl, ?_⟩)
          · rw [show Int.toNat (0 + (qm_sgn (J0 62 0 10) d1 : Int) + 1 + (qm_sgn (J0 62 0 11) d2 : Int) + 1 + 1 + 1 + 1 + 1) + j = qm_sgn (J0 62 0 10) d1 + qm_sgn (J0 62 0 11) d2 + 5 + (j + 1) by omega, f8 (j + 1) (by omega)]; exact qm_sb_23 j hj
          exact qm_G.retv rfl (kc _ _ (by rw [etn]; omega) U39)
      · refine qm_G.s1 rfl (qm_x_push) ?_
        refine qm_G.s1 rfl (qm_x_goto) ?_
        refine qm_G.cmv rfl rfl (hS 61 rfl) rfl ?_
        have etn : qm_tn (J0 62 0 10) = 5 := if_pos (by omega)
        have etb : qm_tb (J0 62 0 10) = 32 := if_pos (by omega)
        rw [etn, etb] at f8
        refine qm_m_wal22 hS hR U35 (by omega) (fun j hj => ?_) (fun J40 U40 => ⟨rfl, ?_⟩)
        · rw [show Int.toNat (0 + (qm_sgn (J0 62 0 10) d1 : Int) + 1 + (qm_sgn (J0 62 0 11) d2 : Int) + 1 + 1 + 1 + 1 + 1) + j = qm_sgn (J0 62 0 10) d1 + qm_sgn (J0 62 0 11) d2 + 5 + (j + 1) by omega, f8 (j + 1) (by omega)]; exact qm_sb_22 j hj
        exact qm_G.retv rfl (kc _ _ (by rw [etn]; omega) U40)
