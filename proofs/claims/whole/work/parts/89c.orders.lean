/-! READING: the class -/
/-- what the class has read: n orders -/
def qm_Fr (J0 J : qm_J) (R0 R : qm_Ct (Option qm_Rf)) : Prop := (∀ r s i, ¬ (r = 42 ∧ (i = 2 ∨ i = 5)) → r ≠ 45 → J r s i = J0 r s i) ∧ (∀ r s i, r ≠ 44 → R r s i = R0 r s i)
def qm_Fa (T : Nat → Int) (ln : Int) (J0 J : qm_J) (R0 R : qm_Ct (Option qm_Rf)) (n : Nat) : Prop := qm_Fr J0 J R0 R ∧ J 42 0 5 = (n : Int) ∧ ∀ i, i < n → R 44 0 i = some (1, 5 + qm_ok T ln (qm_oa T ln i), 0) ∧ J 45 0 i = qm_ov T ln (qm_oa T ln i)
theorem qm_Fa.push {T : Nat → Int} {ln : Int} {J0 J J1 : qm_J} {R0 R R1 : qm_Ct (Option qm_Rf)} {n : Nat} {x : Int} (h : qm_Fa T ln J0 J R0 R n) (e1 : J1 = qm_set (qm_set (qm_set J 45 0 (Int.toNat (n : Int)) (qm_ov T ln (qm_oa T ln n))) 42 0 5 ((n : Int) + 1)) 42 0 2 x) (e2 : R1 = qm_set R 44 0 (Int.toNat (n : Int)) (some (1, 5 + qm_ok T ln (qm_oa T ln n), 0))) : qm_Fa T ln J0 J1 R0 R1 (n + 1) := by
  obtain ⟨⟨h1, h2⟩, h3, h4⟩ := h
  subst e1 e2
  have h9 : Int.toNat (n : Int) = n := by omega
  rw [h9]
  refine ⟨⟨fun r s i a b => ?_, fun r s i a => ?_⟩, ?_, fun i hi => ?_⟩
  · rw [qm_st_ne (by omega), qm_st_ne (by omega), qm_st_ne (by omega)]; exact h1 r s i a b
  · rw [qm_st_ne (by omega)]; exact h2 r s i a
  · rw [qm_st_ne (by omega)]; exact qm_st_eq.trans (by omega)
  · by_cases c : i = n
    · subst c
      rw [qm_st_ne (r' := 45) (by omega), qm_st_ne (r' := 45) (by omega)]
      exact ⟨qm_st_eq, qm_st_eq⟩
    · rw [qm_st_ne (r' := 45) (by omega), qm_st_ne (r' := 45) (by omega), qm_st_ne (r' := 45) (by omega), qm_st_ne (r' := 44) (by omega)]
      exact h4 i (by omega)
theorem qm_Fa.cur {T : Nat → Int} {ln : Int} {J0 J : qm_J} {R0 R : qm_Ct (Option qm_Rf)} {n : Nat} {x : Int} (h : qm_Fa T ln J0 J R0 R n) : qm_Fa T ln J0 (qm_set J 42 0 2 x) R0 R n := by
  obtain ⟨⟨h1, h2⟩, h3, h4⟩ := h
  refine ⟨⟨fun r s i a b => ?_, h2⟩, ?_, fun i hi => ?_⟩
  · rw [qm_st_ne (by omega)]; exact h1 r s i a b
  · rw [qm_st_ne (by omega)]; exact h3
  · rw [qm_st_ne (r' := 45) (by omega)]; exact h4 i hi
theorem qm_Rd44 {R : qm_Ct (Option qm_Rf)} {i : Nat} {v : Option qm_Rf} (h : qm_Rd R) : qm_Rd (qm_set R 44 0 i v) := by
  intro r j x h1 h2
  have c7 : r ≠ 44 := by
    intro c7
    subst c7
    exact absurd h1 (by intro h; cases h)
  rw [qm_st_ne (by omega)]
  exact h r j x h1 h2
theorem qm_d_foo {S : List qm_Sh} {K : qm_J} {L : qm_Ct Int64} {D : qm_Ct UInt64} {R : qm_Ct (Option qm_Rf)} {X : Nat × (Nat → Int32)} {Q : Option qm_V → qm_Hp → Prop} {T : Nat → Int} {ln : Int} {J : qm_J} {a : Nat} {c : Int} (hS : qm_Sd S) (hR : qm_Rd R) (hK : ∀ i, i < 100 → K 43 0 i = T i ∧ 0 ≤ T i ∧ T i ≤ 127) (rl : 0 ≤ ln ∧ ln ≤ 100) (hl : J 42 0 1 = ln) (hc : J 42 0 2 = (a : Int)) (ha : (a : Int) ≤ ln) (hn : J 42 0 5 = c) (rc : 0 ≤ c ∧ c ≤ 11) (k1 : qm_ok T ln a = 7 → Q (some (qm_I (qm_i (a : Int)))) (qm_H S J K L D R X)) (k2 : qm_ok T ln a ≠ 7 → ¬ qm_hdg (qm_ok T ln a) (qm_og T ln a - qm_oe T ln a) → Q (some (qm_I (qm_i (qm_oe T ln a : Int)))) (qm_H S J K L D R X)) (k3 : ∀ J1 R1, J1 = qm_set (qm_set (qm_set J 45 0 (Int.toNat c) (qm_ov T ln a)) 42 0 5 (c + 1)) 42 0 2 (qm_og T ln a : Int) → R1 = qm_set R 44 0 (Int.toNat c) (some (1, 5 + qm_ok T ln a, 0)) → qm_ow T ln a → Q (some (qm_I (qm_i (-1)))) (qm_H S J1 K L D R1 X)) : qm_C qm_P 208 [qm_R (some (0, 42, 0))] (qm_H S J K L D R X) Q := by
  have r9 := qm_o_rng (T := T) ha
  have v9 := qm_ov_rng (T := T) ha
  have k9 : qm_ok T ln a ≤ 7 := qm_wk_le.1
  refine qm_C.go (cd := qm_P208) (lv := [(0, qm_R (some (0, 42, 0)))]) rfl rfl ?_
  refine qm_G.s1 rfl (qm_x_aload rfl) ?_
  refine qm_G.s1 rfl (qm_x_getfI (v := (a : Int)) (hS 42 rfl) hc) ?_
  refine qm_G.s1 rfl (qm_x_istore (lv' := [(1, qm_I (qm_i (a : Int))), (0, qm_R (some (0, 42, 0)))]) rfl) ?_
  refine qm_G.s1 rfl (qm_x_aload rfl) ?_
  refine qm_G.s1 rfl (qm_x_iload rfl) ?_
  refine qm_G.s1 rfl (qm_x_pushI 97 rfl) ?_
  refine qm_G.s1 rfl (qm_x_pushI 122 rfl) ?_
  refine qm_G.s1 rfl (qm_x_pushI 100 rfl) ?_
  refine qm_G.cm rfl rfl (hS 42 rfl) rfl ?_
  refine qm_d_eor (e := a) hS hR hK rl hl rfl ⟨by omega, by omega⟩ ⟨by decide, by decide⟩ ⟨by decide, by decide⟩ ⟨by decide, by decide⟩ ⟨_, rfl, ?_⟩
  rw [show qm_re T ln 97 122 (Int.toNat 100) (a) = qm_oe T ln a from rfl]
  refine qm_G.s1 rfl (qm_x_istore (lv' := [(2, qm_I (qm_i (qm_oe T ln a : Int))), (1, qm_I (qm_i (a : Int))), (0, qm_R (some (0, 42, 0)))]) rfl) ?_
  refine qm_G.s1 rfl (qm_x_aload rfl) ?_
  refine qm_G.s1 rfl (qm_x_getfR (q := (some (0, 43, 0))) (hS 42 rfl) (hR 42 0 43 rfl rfl)) ?_
  refine qm_G.s1 rfl (qm_x_iload rfl) ?_
  refine qm_G.s1 rfl (qm_x_iload rfl) ?_
  refine qm_G.cs rfl rfl rfl ?_
  refine qm_d_of (J := J) (a := a) (e := qm_oe T ln a) hS hR hK rl rfl rfl ⟨r9.1, by omega⟩ ⟨_, rfl, ?_⟩
  rw [show qm_wk T a (qm_oe T ln a) = qm_ok T ln a from rfl]
  rcases (show qm_ok T ln a = 0 ∨ qm_ok T ln a = 1 ∨ qm_ok T ln a = 2 ∨ qm_ok T ln a = 3 ∨ qm_ok T ln a = 4 ∨ qm_ok T ln a = 5 ∨ qm_ok T ln a = 6 ∨ qm_ok T ln a = 7 by omega) with c9 | c9 | c9 | c9 | c9 | c9 | c9 | c9
  · rw [c9, show qm_wrf 0 = some (1, 5, 0) from rfl]
    refine qm_G.s1 rfl (qm_x_astore (lv' := [(3, qm_R (some (1, 5, 0))), (2, qm_I (qm_i (qm_oe T ln a : Int))), (1, qm_I (qm_i (a : Int))), (0, qm_R (some (0, 42, 0)))]) rfl) ?_
    refine qm_G.s1 rfl (qm_x_aload rfl) ?_
    refine qm_G.s1 rfl (qm_x_ifnonnull1) ?_
    refine qm_G.sp (lv1 := [(0, qm_R (some (0, 42, 0))), (2, qm_I (qm_i (qm_oe T ln a : Int))), (3, qm_R (some (1, 5, 0)))]) rfl rfl (qm_x_aload rfl) ?_
    refine qm_G.s1 rfl (qm_x_iload rfl) ?_
    refine qm_G.s1 rfl (qm_x_pushI 48 rfl) ?_
    refine qm_G.s1 rfl (qm_x_pushI 57 rfl) ?_
    refine qm_G.s1 rfl (qm_x_pushI 4 rfl) ?_
    refine qm_G.cm rfl rfl (hS 42 rfl) rfl ?_
    refine qm_d_eor (e := qm_oe T ln a) hS hR hK rl hl rfl ⟨by omega, by omega⟩ ⟨by decide, by decide⟩ ⟨by decide, by decide⟩ ⟨by decide, by decide⟩ ⟨_, rfl, ?_⟩
    rw [show qm_re T ln 48 57 (Int.toNat 4) (qm_oe T ln a) = qm_og T ln a from rfl]
    refine qm_G.s1 rfl (qm_x_istore (lv' := [(4, qm_I (qm_i (qm_og T ln a : Int))), (0, qm_R (some (0, 42, 0))), (2, qm_I (qm_i (qm_oe T ln a : Int))), (3, qm_R (some (1, 5, 0)))]) rfl) ?_
    refine qm_G.s1 rfl (qm_x_aload rfl) ?_
    refine qm_G.s1 rfl (qm_x_iload rfl) ?_
    refine qm_G.s1 rfl (qm_x_iload rfl) ?_
    refine qm_G.s1 rfl (qm_x_isub) ?_
    refine qm_G.call rfl rfl rfl ?_
    refine qm_C.go (cd := qm_P97) (lv := [(0, qm_R (some (1, 5, 0))), (1, qm_I (qm_i ((qm_og T ln a : Int) - (qm_oe T ln a : Int))))]) rfl rfl ?_
    refine qm_G.s1 rfl (qm_x_iload rfl) ?_
    refine qm_G.s1 rfl (qm_x_aload rfl) ?_
    refine qm_G.s1 rfl (qm_x_getgI (v := 1) rfl rfl) ?_
    refine qm_G.s1 rfl (qm_x_aload rfl) ?_
    refine qm_G.s1 rfl (qm_x_getgI (v := 1) rfl rfl) ?_
    refine qm_G.cs rfl rfl rfl ?_
    refine qm_v_within10 ⟨by omega, by omega⟩ ⟨by decide, by decide⟩ ⟨by decide, by decide⟩ (fun c1 => ⟨_, rfl, ?_⟩) (fun c1 => ⟨_, rfl, ?_⟩)
    · refine qm_G.ret rfl rfl ⟨_, rfl, ?_⟩
      refine qm_G.s1 rfl (qm_x_if_ne_t ⟨by decide, by decide⟩ (by decide)) ?_
      refine qm_G.sp (lv1 := [(0, qm_R (some (0, 42, 0))), (2, qm_I (qm_i (qm_oe T ln a : Int))), (3, qm_R (some (1, 5, 0))), (4, qm_I (qm_i (qm_og T ln a : Int)))]) rfl rfl (qm_x_aload rfl) ?_
      refine qm_G.s1 rfl (qm_x_getfI (v := c) (hS 42 rfl) hn) ?_
      refine qm_G.s1 rfl (qm_x_pushI 12 rfl) ?_
      refine qm_G.s1 rfl (qm_x_icmp_ge_f ⟨by omega, by omega⟩ ⟨by decide, by decide⟩ (by omega)) ?_
      refine qm_G.s1 rfl (qm_x_aload rfl) ?_
      refine qm_G.s1 rfl (qm_x_getfR (q := (some (0, 44, 0))) (hS 42 rfl) (hR 42 3 44 rfl rfl)) ?_
      refine qm_G.s1 rfl (qm_x_aload rfl) ?_
      refine qm_G.s1 rfl (qm_x_getfI (v := c) (hS 42 rfl) hn) ?_
      refine qm_G.s1 rfl (qm_x_aload rfl) ?_
      refine qm_G.s1 rfl (qm_x_aastw (hS 44 rfl) rfl rfl (by omega) (by omega)) ?_
      refine qm_G.s1 rfl (qm_x_aload rfl) ?_
      refine qm_G.s1 rfl (qm_x_getfR (q := (some (0, 45, 0))) (hS 42 rfl) (hR 42 4 45 rfl rfl)) ?_
      refine qm_G.s1 rfl (qm_x_aload rfl) ?_
      refine qm_G.s1 rfl (qm_x_getfI (v := c) (hS 42 rfl) hn) ?_
      refine qm_G.s1 rfl (qm_x_aload rfl) ?_
      refine qm_G.s1 rfl (qm_x_iload rfl) ?_
      refine qm_G.s1 rfl (qm_x_iload rfl) ?_
      refine qm_G.cm rfl rfl (hS 42 rfl) rfl ?_
      refine qm_d_num (a := qm_oe T ln a) hS (qm_Rd44 hR) hK rl hl ⟨by omega, by omega, by omega⟩ (fun j h1 h2 => qm_re_in 4 (qm_oe T ln a) j h1 (by show j < qm_og T ln a; omega)) ⟨_, rfl, ?_⟩ rfl
      rw [show qm_nu T (qm_oe T ln a) (Int.toNat (qm_og T ln a : Int) - qm_oe T ln a) = qm_ov T ln a from rfl]
      refine qm_G.s1 rfl (qm_x_iast (qm_arS hS rfl rfl) rfl (by omega) (by omega) (by decide)) ?_
      refine qm_G.s1 rfl (qm_x_aload rfl) ?_
      refine qm_G.s1 rfl (qm_x_dupR) ?_
      refine qm_G.s1 rfl (qm_x_getfI (v := c) (hS 42 rfl) hn) ?_
      refine qm_G.s1 rfl (qm_x_pushI 1 rfl) ?_
      refine qm_G.s1 rfl (qm_x_iadd) ?_
      refine qm_G.s1 rfl (qm_x_putfI (hS 42 rfl)) ?_
      refine qm_G.sp (lv1 := [(0, qm_R (some (0, 42, 0))), (4, qm_I (qm_i (qm_og T ln a : Int)))]) rfl rfl (qm_x_aload rfl) ?_
      refine qm_G.s1 rfl (qm_x_iload rfl) ?_
      refine qm_G.s1 rfl (qm_x_putfI (hS 42 rfl)) ?_
      refine qm_G.s1 rfl (qm_x_pushI (-1) rfl) ?_
      exact qm_G.ret rfl rfl (k3 _ _ rfl (by rw [c9]) ⟨by omega, by rw [c9]; unfold qm_hdg; omega⟩)
    · refine qm_G.ret rfl rfl ⟨_, rfl, ?_⟩
      refine qm_G.s1 rfl (qm_x_if_ne_f ⟨by decide, by decide⟩ (by decide)) ?_
      refine qm_G.s1 rfl (qm_x_iload rfl) ?_
      exact qm_G.ret rfl rfl (k2 (by omega) (fun h => by rw [c9] at h; unfold qm_hdg at h; omega))
  · rw [c9, show qm_wrf 1 = some (1, 6, 0) from rfl]
    refine qm_G.s1 rfl (qm_x_astore (lv' := [(3, qm_R (some (1, 6, 0))), (2, qm_I (qm_i (qm_oe T ln a : Int))), (1, qm_I (qm_i (a : Int))), (0, qm_R (some (0, 42, 0)))]) rfl) ?_
    refine qm_G.s1 rfl (qm_x_aload rfl) ?_
    refine qm_G.s1 rfl (qm_x_ifnonnull1) ?_
    refine qm_G.sp (lv1 := [(0, qm_R (some (0, 42, 0))), (2, qm_I (qm_i (qm_oe T ln a : Int))), (3, qm_R (some (1, 6, 0)))]) rfl rfl (qm_x_aload rfl) ?_
    refine qm_G.s1 rfl (qm_x_iload rfl) ?_
    refine qm_G.s1 rfl (qm_x_pushI 48 rfl) ?_
    refine qm_G.s1 rfl (qm_x_pushI 57 rfl) ?_
    refine qm_G.s1 rfl (qm_x_pushI 4 rfl) ?_
    refine qm_G.cm rfl rfl (hS 42 rfl) rfl ?_
    refine qm_d_eor (e := qm_oe T ln a) hS hR hK rl hl rfl ⟨by omega, by omega⟩ ⟨by decide, by decide⟩ ⟨by decide, by decide⟩ ⟨by decide, by decide⟩ ⟨_, rfl, ?_⟩
    rw [show qm_re T ln 48 57 (Int.toNat 4) (qm_oe T ln a) = qm_og T ln a from rfl]
    refine qm_G.s1 rfl (qm_x_istore (lv' := [(4, qm_I (qm_i (qm_og T ln a : Int))), (0, qm_R (some (0, 42, 0))), (2, qm_I (qm_i (qm_oe T ln a : Int))), (3, qm_R (some (1, 6, 0)))]) rfl) ?_
    refine qm_G.s1 rfl (qm_x_aload rfl) ?_
    refine qm_G.s1 rfl (qm_x_iload rfl) ?_
    refine qm_G.s1 rfl (qm_x_iload rfl) ?_
    refine qm_G.s1 rfl (qm_x_isub) ?_
    refine qm_G.call rfl rfl rfl ?_
    refine qm_C.go (cd := qm_P97) (lv := [(0, qm_R (some (1, 6, 0))), (1, qm_I (qm_i ((qm_og T ln a : Int) - (qm_oe T ln a : Int))))]) rfl rfl ?_
    refine qm_G.s1 rfl (qm_x_iload rfl) ?_
    refine qm_G.s1 rfl (qm_x_aload rfl) ?_
    refine qm_G.s1 rfl (qm_x_getgI (v := 1) rfl rfl) ?_
    refine qm_G.s1 rfl (qm_x_aload rfl) ?_
    refine qm_G.s1 rfl (qm_x_getgI (v := 1) rfl rfl) ?_
    refine qm_G.cs rfl rfl rfl ?_
    refine qm_v_within10 ⟨by omega, by omega⟩ ⟨by decide, by decide⟩ ⟨by decide, by decide⟩ (fun c2 => ⟨_, rfl, ?_⟩) (fun c2 => ⟨_, rfl, ?_⟩)
    · refine qm_G.ret rfl rfl ⟨_, rfl, ?_⟩
      refine qm_G.s1 rfl (qm_x_if_ne_t ⟨by decide, by decide⟩ (by decide)) ?_
      refine qm_G.sp (lv1 := [(0, qm_R (some (0, 42, 0))), (2, qm_I (qm_i (qm_oe T ln a : Int))), (3, qm_R (some (1, 6, 0))), (4, qm_I (qm_i (qm_og T ln a : Int)))]) rfl rfl (qm_x_aload rfl) ?_
      refine qm_G.s1 rfl (qm_x_getfI (v := c) (hS 42 rfl) hn) ?_
      refine qm_G.s1 rfl (qm_x_pushI 12 rfl) ?_
      refine qm_G.s1 rfl (qm_x_icmp_ge_f ⟨by omega, by omega⟩ ⟨by decide, by decide⟩ (by omega)) ?_
      refine qm_G.s1 rfl (qm_x_aload rfl) ?_
      refine qm_G.s1 rfl (qm_x_getfR (q := (some (0, 44, 0))) (hS 42 rfl) (hR 42 3 44 rfl rfl)) ?_
      refine qm_G.s1 rfl (qm_x_aload rfl) ?_
      refine qm_G.s1 rfl (qm_x_getfI (v := c) (hS 42 rfl) hn) ?_
      refine qm_G.s1 rfl (qm_x_aload rfl) ?_
      refine qm_G.s1 rfl (qm_x_aastw (hS 44 rfl) rfl rfl (by omega) (by omega)) ?_
      refine qm_G.s1 rfl (qm_x_aload rfl) ?_
      refine qm_G.s1 rfl (qm_x_getfR (q := (some (0, 45, 0))) (hS 42 rfl) (hR 42 4 45 rfl rfl)) ?_
      refine qm_G.s1 rfl (qm_x_aload rfl) ?_
      refine qm_G.s1 rfl (qm_x_getfI (v := c) (hS 42 rfl) hn) ?_
      refine qm_G.s1 rfl (qm_x_aload rfl) ?_
      refine qm_G.s1 rfl (qm_x_iload rfl) ?_
      refine qm_G.s1 rfl (qm_x_iload rfl) ?_
      refine qm_G.cm rfl rfl (hS 42 rfl) rfl ?_
      refine qm_d_num (a := qm_oe T ln a) hS (qm_Rd44 hR) hK rl hl ⟨by omega, by omega, by omega⟩ (fun j h1 h2 => qm_re_in 4 (qm_oe T ln a) j h1 (by show j < qm_og T ln a; omega)) ⟨_, rfl, ?_⟩ rfl
      rw [show qm_nu T (qm_oe T ln a) (Int.toNat (qm_og T ln a : Int) - qm_oe T ln a) = qm_ov T ln a from rfl]
      refine qm_G.s1 rfl (qm_x_iast (qm_arS hS rfl rfl) rfl (by omega) (by omega) (by decide)) ?_
      refine qm_G.s1 rfl (qm_x_aload rfl) ?_
      refine qm_G.s1 rfl (qm_x_dupR) ?_
      refine qm_G.s1 rfl (qm_x_getfI (v := c) (hS 42 rfl) hn) ?_
      refine qm_G.s1 rfl (qm_x_pushI 1 rfl) ?_
      refine qm_G.s1 rfl (qm_x_iadd) ?_
      refine qm_G.s1 rfl (qm_x_putfI (hS 42 rfl)) ?_
      refine qm_G.sp (lv1 := [(0, qm_R (some (0, 42, 0))), (4, qm_I (qm_i (qm_og T ln a : Int)))]) rfl rfl (qm_x_aload rfl) ?_
      refine qm_G.s1 rfl (qm_x_iload rfl) ?_
      refine qm_G.s1 rfl (qm_x_putfI (hS 42 rfl)) ?_
      refine qm_G.s1 rfl (qm_x_pushI (-1) rfl) ?_
      exact qm_G.ret rfl rfl (k3 _ _ rfl (by rw [c9]) ⟨by omega, by rw [c9]; unfold qm_hdg; omega⟩)
    · refine qm_G.ret rfl rfl ⟨_, rfl, ?_⟩
      refine qm_G.s1 rfl (qm_x_if_ne_f ⟨by decide, by decide⟩ (by decide)) ?_
      refine qm_G.s1 rfl (qm_x_iload rfl) ?_
      exact qm_G.ret rfl rfl (k2 (by omega) (fun h => by rw [c9] at h; unfold qm_hdg at h; omega))
  · rw [c9, show qm_wrf 2 = some (1, 7, 0) from rfl]
    refine qm_G.s1 rfl (qm_x_astore (lv' := [(3, qm_R (some (1, 7, 0))), (2, qm_I (qm_i (qm_oe T ln a : Int))), (1, qm_I (qm_i (a : Int))), (0, qm_R (some (0, 42, 0)))]) rfl) ?_
    refine qm_G.s1 rfl (qm_x_aload rfl) ?_
    refine qm_G.s1 rfl (qm_x_ifnonnull1) ?_
    refine qm_G.sp (lv1 := [(0, qm_R (some (0, 42, 0))), (2, qm_I (qm_i (qm_oe T ln a : Int))), (3, qm_R (some (1, 7, 0)))]) rfl rfl (qm_x_aload rfl) ?_
    refine qm_G.s1 rfl (qm_x_iload rfl) ?_
    refine qm_G.s1 rfl (qm_x_pushI 48 rfl) ?_
    refine qm_G.s1 rfl (qm_x_pushI 57 rfl) ?_
    refine qm_G.s1 rfl (qm_x_pushI 4 rfl) ?_
    refine qm_G.cm rfl rfl (hS 42 rfl) rfl ?_
    refine qm_d_eor (e := qm_oe T ln a) hS hR hK rl hl rfl ⟨by omega, by omega⟩ ⟨by decide, by decide⟩ ⟨by decide, by decide⟩ ⟨by decide, by decide⟩ ⟨_, rfl, ?_⟩
    rw [show qm_re T ln 48 57 (Int.toNat 4) (qm_oe T ln a) = qm_og T ln a from rfl]
    refine qm_G.s1 rfl (qm_x_istore (lv' := [(4, qm_I (qm_i (qm_og T ln a : Int))), (0, qm_R (some (0, 42, 0))), (2, qm_I (qm_i (qm_oe T ln a : Int))), (3, qm_R (some (1, 7, 0)))]) rfl) ?_
    refine qm_G.s1 rfl (qm_x_aload rfl) ?_
    refine qm_G.s1 rfl (qm_x_iload rfl) ?_
    refine qm_G.s1 rfl (qm_x_iload rfl) ?_
    refine qm_G.s1 rfl (qm_x_isub) ?_
    refine qm_G.call rfl rfl rfl ?_
    refine qm_C.go (cd := qm_P97) (lv := [(0, qm_R (some (1, 7, 0))), (1, qm_I (qm_i ((qm_og T ln a : Int) - (qm_oe T ln a : Int))))]) rfl rfl ?_
    refine qm_G.s1 rfl (qm_x_iload rfl) ?_
    refine qm_G.s1 rfl (qm_x_aload rfl) ?_
    refine qm_G.s1 rfl (qm_x_getgI (v := 0) rfl rfl) ?_
    refine qm_G.s1 rfl (qm_x_aload rfl) ?_
    refine qm_G.s1 rfl (qm_x_getgI (v := 0) rfl rfl) ?_
    refine qm_G.cs rfl rfl rfl ?_
    refine qm_v_within10 ⟨by omega, by omega⟩ ⟨by decide, by decide⟩ ⟨by decide, by decide⟩ (fun c3 => ⟨_, rfl, ?_⟩) (fun c3 => ⟨_, rfl, ?_⟩)
    · refine qm_G.ret rfl rfl ⟨_, rfl, ?_⟩
      refine qm_G.s1 rfl (qm_x_if_ne_t ⟨by decide, by decide⟩ (by decide)) ?_
      refine qm_G.sp (lv1 := [(0, qm_R (some (0, 42, 0))), (2, qm_I (qm_i (qm_oe T ln a : Int))), (3, qm_R (some (1, 7, 0))), (4, qm_I (qm_i (qm_og T ln a : Int)))]) rfl rfl (qm_x_aload rfl) ?_
      refine qm_G.s1 rfl (qm_x_getfI (v := c) (hS 42 rfl) hn) ?_
      refine qm_G.s1 rfl (qm_x_pushI 12 rfl) ?_
      refine qm_G.s1 rfl (qm_x_icmp_ge_f ⟨by omega, by omega⟩ ⟨by decide, by decide⟩ (by omega)) ?_
      refine qm_G.s1 rfl (qm_x_aload rfl) ?_
      refine qm_G.s1 rfl (qm_x_getfR (q := (some (0, 44, 0))) (hS 42 rfl) (hR 42 3 44 rfl rfl)) ?_
      refine qm_G.s1 rfl (qm_x_aload rfl) ?_
      refine qm_G.s1 rfl (qm_x_getfI (v := c) (hS 42 rfl) hn) ?_
      refine qm_G.s1 rfl (qm_x_aload rfl) ?_
      refine qm_G.s1 rfl (qm_x_aastw (hS 44 rfl) rfl rfl (by omega) (by omega)) ?_
      refine qm_G.s1 rfl (qm_x_aload rfl) ?_
      refine qm_G.s1 rfl (qm_x_getfR (q := (some (0, 45, 0))) (hS 42 rfl) (hR 42 4 45 rfl rfl)) ?_
      refine qm_G.s1 rfl (qm_x_aload rfl) ?_
      refine qm_G.s1 rfl (qm_x_getfI (v := c) (hS 42 rfl) hn) ?_
      refine qm_G.s1 rfl (qm_x_aload rfl) ?_
      refine qm_G.s1 rfl (qm_x_iload rfl) ?_
      refine qm_G.s1 rfl (qm_x_iload rfl) ?_
      refine qm_G.cm rfl rfl (hS 42 rfl) rfl ?_
      refine qm_d_num (a := qm_oe T ln a) hS (qm_Rd44 hR) hK rl hl ⟨by omega, by omega, by omega⟩ (fun j h1 h2 => qm_re_in 4 (qm_oe T ln a) j h1 (by show j < qm_og T ln a; omega)) ⟨_, rfl, ?_⟩ rfl
      rw [show qm_nu T (qm_oe T ln a) (Int.toNat (qm_og T ln a : Int) - qm_oe T ln a) = qm_ov T ln a from rfl]
      refine qm_G.s1 rfl (qm_x_iast (qm_arS hS rfl rfl) rfl (by omega) (by omega) (by decide)) ?_
      refine qm_G.s1 rfl (qm_x_aload rfl) ?_
      refine qm_G.s1 rfl (qm_x_dupR) ?_
      refine qm_G.s1 rfl (qm_x_getfI (v := c) (hS 42 rfl) hn) ?_
      refine qm_G.s1 rfl (qm_x_pushI 1 rfl) ?_
      refine qm_G.s1 rfl (qm_x_iadd) ?_
      refine qm_G.s1 rfl (qm_x_putfI (hS 42 rfl)) ?_
      refine qm_G.sp (lv1 := [(0, qm_R (some (0, 42, 0))), (4, qm_I (qm_i (qm_og T ln a : Int)))]) rfl rfl (qm_x_aload rfl) ?_
      refine qm_G.s1 rfl (qm_x_iload rfl) ?_
      refine qm_G.s1 rfl (qm_x_putfI (hS 42 rfl)) ?_
      refine qm_G.s1 rfl (qm_x_pushI (-1) rfl) ?_
      exact qm_G.ret rfl rfl (k3 _ _ rfl (by rw [c9]) ⟨by omega, by rw [c9]; unfold qm_hdg; omega⟩)
    · refine qm_G.ret rfl rfl ⟨_, rfl, ?_⟩
      refine qm_G.s1 rfl (qm_x_if_ne_f ⟨by decide, by decide⟩ (by decide)) ?_
      refine qm_G.s1 rfl (qm_x_iload rfl) ?_
      exact qm_G.ret rfl rfl (k2 (by omega) (fun h => by rw [c9] at h; unfold qm_hdg at h; omega))
  · rw [c9, show qm_wrf 3 = some (1, 8, 0) from rfl]
    refine qm_G.s1 rfl (qm_x_astore (lv' := [(3, qm_R (some (1, 8, 0))), (2, qm_I (qm_i (qm_oe T ln a : Int))), (1, qm_I (qm_i (a : Int))), (0, qm_R (some (0, 42, 0)))]) rfl) ?_
    refine qm_G.s1 rfl (qm_x_aload rfl) ?_
    refine qm_G.s1 rfl (qm_x_ifnonnull1) ?_
    refine qm_G.sp (lv1 := [(0, qm_R (some (0, 42, 0))), (2, qm_I (qm_i (qm_oe T ln a : Int))), (3, qm_R (some (1, 8, 0)))]) rfl rfl (qm_x_aload rfl) ?_
    refine qm_G.s1 rfl (qm_x_iload rfl) ?_
    refine qm_G.s1 rfl (qm_x_pushI 48 rfl) ?_
    refine qm_G.s1 rfl (qm_x_pushI 57 rfl) ?_
    refine qm_G.s1 rfl (qm_x_pushI 4 rfl) ?_
    refine qm_G.cm rfl rfl (hS 42 rfl) rfl ?_
    refine qm_d_eor (e := qm_oe T ln a) hS hR hK rl hl rfl ⟨by omega, by omega⟩ ⟨by decide, by decide⟩ ⟨by decide, by decide⟩ ⟨by decide, by decide⟩ ⟨_, rfl, ?_⟩
    rw [show qm_re T ln 48 57 (Int.toNat 4) (qm_oe T ln a) = qm_og T ln a from rfl]
    refine qm_G.s1 rfl (qm_x_istore (lv' := [(4, qm_I (qm_i (qm_og T ln a : Int))), (0, qm_R (some (0, 42, 0))), (2, qm_I (qm_i (qm_oe T ln a : Int))), (3, qm_R (some (1, 8, 0)))]) rfl) ?_
    refine qm_G.s1 rfl (qm_x_aload rfl) ?_
    refine qm_G.s1 rfl (qm_x_iload rfl) ?_
    refine qm_G.s1 rfl (qm_x_iload rfl) ?_
    refine qm_G.s1 rfl (qm_x_isub) ?_
    refine qm_G.call rfl rfl rfl ?_
    refine qm_C.go (cd := qm_P97) (lv := [(0, qm_R (some (1, 8, 0))), (1, qm_I (qm_i ((qm_og T ln a : Int) - (qm_oe T ln a : Int))))]) rfl rfl ?_
    refine qm_G.s1 rfl (qm_x_iload rfl) ?_
    refine qm_G.s1 rfl (qm_x_aload rfl) ?_
    refine qm_G.s1 rfl (qm_x_getgI (v := 0) rfl rfl) ?_
    refine qm_G.s1 rfl (qm_x_aload rfl) ?_
    refine qm_G.s1 rfl (qm_x_getgI (v := 0) rfl rfl) ?_
    refine qm_G.cs rfl rfl rfl ?_
    refine qm_v_within10 ⟨by omega, by omega⟩ ⟨by decide, by decide⟩ ⟨by decide, by decide⟩ (fun c4 => ⟨_, rfl, ?_⟩) (fun c4 => ⟨_, rfl, ?_⟩)
    · refine qm_G.ret rfl rfl ⟨_, rfl, ?_⟩
      refine qm_G.s1 rfl (qm_x_if_ne_t ⟨by decide, by decide⟩ (by decide)) ?_
      refine qm_G.sp (lv1 := [(0, qm_R (some (0, 42, 0))), (2, qm_I (qm_i (qm_oe T ln a : Int))), (3, qm_R (some (1, 8, 0))), (4, qm_I (qm_i (qm_og T ln a : Int)))]) rfl rfl (qm_x_aload rfl) ?_
      refine qm_G.s1 rfl (qm_x_getfI (v := c) (hS 42 rfl) hn) ?_
      refine qm_G.s1 rfl (qm_x_pushI 12 rfl) ?_
      refine qm_G.s1 rfl (qm_x_icmp_ge_f ⟨by omega, by omega⟩ ⟨by decide, by decide⟩ (by omega)) ?_
      refine qm_G.s1 rfl (qm_x_aload rfl) ?_
      refine qm_G.s1 rfl (qm_x_getfR (q := (some (0, 44, 0))) (hS 42 rfl) (hR 42 3 44 rfl rfl)) ?_
      refine qm_G.s1 rfl (qm_x_aload rfl) ?_
      refine qm_G.s1 rfl (qm_x_getfI (v := c) (hS 42 rfl) hn) ?_
      refine qm_G.s1 rfl (qm_x_aload rfl) ?_
      refine qm_G.s1 rfl (qm_x_aastw (hS 44 rfl) rfl rfl (by omega) (by omega)) ?_
      refine qm_G.s1 rfl (qm_x_aload rfl) ?_
      refine qm_G.s1 rfl (qm_x_getfR (q := (some (0, 45, 0))) (hS 42 rfl) (hR 42 4 45 rfl rfl)) ?_
      refine qm_G.s1 rfl (qm_x_aload rfl) ?_
      refine qm_G.s1 rfl (qm_x_getfI (v := c) (hS 42 rfl) hn) ?_
      refine qm_G.s1 rfl (qm_x_aload rfl) ?_
      refine qm_G.s1 rfl (qm_x_iload rfl) ?_
      refine qm_G.s1 rfl (qm_x_iload rfl) ?_
      refine qm_G.cm rfl rfl (hS 42 rfl) rfl ?_
      refine qm_d_num (a := qm_oe T ln a) hS (qm_Rd44 hR) hK rl hl ⟨by omega, by omega, by omega⟩ (fun j h1 h2 => qm_re_in 4 (qm_oe T ln a) j h1 (by show j < qm_og T ln a; omega)) ⟨_, rfl, ?_⟩ rfl
      rw [show qm_nu T (qm_oe T ln a) (Int.toNat (qm_og T ln a : Int) - qm_oe T ln a) = qm_ov T ln a from rfl]
      refine qm_G.s1 rfl (qm_x_iast (qm_arS hS rfl rfl) rfl (by omega) (by omega) (by decide)) ?_
      refine qm_G.s1 rfl (qm_x_aload rfl) ?_
      refine qm_G.s1 rfl (qm_x_dupR) ?_
      refine qm_G.s1 rfl (qm_x_getfI (v := c) (hS 42 rfl) hn) ?_
      refine qm_G.s1 rfl (qm_x_pushI 1 rfl) ?_
      refine qm_G.s1 rfl (qm_x_iadd) ?_
      refine qm_G.s1 rfl (qm_x_putfI (hS 42 rfl)) ?_
      refine qm_G.sp (lv1 := [(0, qm_R (some (0, 42, 0))), (4, qm_I (qm_i (qm_og T ln a : Int)))]) rfl rfl (qm_x_aload rfl) ?_
      refine qm_G.s1 rfl (qm_x_iload rfl) ?_
      refine qm_G.s1 rfl (qm_x_putfI (hS 42 rfl)) ?_
      refine qm_G.s1 rfl (qm_x_pushI (-1) rfl) ?_
      exact qm_G.ret rfl rfl (k3 _ _ rfl (by rw [c9]) ⟨by omega, by rw [c9]; unfold qm_hdg; omega⟩)
    · refine qm_G.ret rfl rfl ⟨_, rfl, ?_⟩
      refine qm_G.s1 rfl (qm_x_if_ne_f ⟨by decide, by decide⟩ (by decide)) ?_
      refine qm_G.s1 rfl (qm_x_iload rfl) ?_
      exact qm_G.ret rfl rfl (k2 (by omega) (fun h => by rw [c9] at h; unfold qm_hdg at h; omega))
  · rw [c9, show qm_wrf 4 = some (1, 9, 0) from rfl]
    refine qm_G.s1 rfl (qm_x_astore (lv' := [(3, qm_R (some (1, 9, 0))), (2, qm_I (qm_i (qm_oe T ln a : Int))), (1, qm_I (qm_i (a : Int))), (0, qm_R (some (0, 42, 0)))]) rfl) ?_
    refine qm_G.s1 rfl (qm_x_aload rfl) ?_
    refine qm_G.s1 rfl (qm_x_ifnonnull1) ?_
    refine qm_G.sp (lv1 := [(0, qm_R (some (0, 42, 0))), (2, qm_I (qm_i (qm_oe T ln a : Int))), (3, qm_R (some (1, 9, 0)))]) rfl rfl (qm_x_aload rfl) ?_
    refine qm_G.s1 rfl (qm_x_iload rfl) ?_
    refine qm_G.s1 rfl (qm_x_pushI 48 rfl) ?_
    refine qm_G.s1 rfl (qm_x_pushI 57 rfl) ?_
    refine qm_G.s1 rfl (qm_x_pushI 4 rfl) ?_
    refine qm_G.cm rfl rfl (hS 42 rfl) rfl ?_
    refine qm_d_eor (e := qm_oe T ln a) hS hR hK rl hl rfl ⟨by omega, by omega⟩ ⟨by decide, by decide⟩ ⟨by decide, by decide⟩ ⟨by decide, by decide⟩ ⟨_, rfl, ?_⟩
    rw [show qm_re T ln 48 57 (Int.toNat 4) (qm_oe T ln a) = qm_og T ln a from rfl]
    refine qm_G.s1 rfl (qm_x_istore (lv' := [(4, qm_I (qm_i (qm_og T ln a : Int))), (0, qm_R (some (0, 42, 0))), (2, qm_I (qm_i (qm_oe T ln a : Int))), (3, qm_R (some (1, 9, 0)))]) rfl) ?_
    refine qm_G.s1 rfl (qm_x_aload rfl) ?_
    refine qm_G.s1 rfl (qm_x_iload rfl) ?_
    refine qm_G.s1 rfl (qm_x_iload rfl) ?_
    refine qm_G.s1 rfl (qm_x_isub) ?_
    refine qm_G.call rfl rfl rfl ?_
    refine qm_C.go (cd := qm_P97) (lv := [(0, qm_R (some (1, 9, 0))), (1, qm_I (qm_i ((qm_og T ln a : Int) - (qm_oe T ln a : Int))))]) rfl rfl ?_
    refine qm_G.s1 rfl (qm_x_iload rfl) ?_
    refine qm_G.s1 rfl (qm_x_aload rfl) ?_
    refine qm_G.s1 rfl (qm_x_getgI (v := 0) rfl rfl) ?_
    refine qm_G.s1 rfl (qm_x_aload rfl) ?_
    refine qm_G.s1 rfl (qm_x_getgI (v := 0) rfl rfl) ?_
    refine qm_G.cs rfl rfl rfl ?_
    refine qm_v_within10 ⟨by omega, by omega⟩ ⟨by decide, by decide⟩ ⟨by decide, by decide⟩ (fun c5 => ⟨_, rfl, ?_⟩) (fun c5 => ⟨_, rfl, ?_⟩)
    · refine qm_G.ret rfl rfl ⟨_, rfl, ?_⟩
      refine qm_G.s1 rfl (qm_x_if_ne_t ⟨by decide, by decide⟩ (by decide)) ?_
      refine qm_G.sp (lv1 := [(0, qm_R (some (0, 42, 0))), (2, qm_I (qm_i (qm_oe T ln a : Int))), (3, qm_R (some (1, 9, 0))), (4, qm_I (qm_i (qm_og T ln a : Int)))]) rfl rfl (qm_x_aload rfl) ?_
      refine qm_G.s1 rfl (qm_x_getfI (v := c) (hS 42 rfl) hn) ?_
      refine qm_G.s1 rfl (qm_x_pushI 12 rfl) ?_
      refine qm_G.s1 rfl (qm_x_icmp_ge_f ⟨by omega, by omega⟩ ⟨by decide, by decide⟩ (by omega)) ?_
      refine qm_G.s1 rfl (qm_x_aload rfl) ?_
      refine qm_G.s1 rfl (qm_x_getfR (q := (some (0, 44, 0))) (hS 42 rfl) (hR 42 3 44 rfl rfl)) ?_
      refine qm_G.s1 rfl (qm_x_aload rfl) ?_
      refine qm_G.s1 rfl (qm_x_getfI (v := c) (hS 42 rfl) hn) ?_
      refine qm_G.s1 rfl (qm_x_aload rfl) ?_
      refine qm_G.s1 rfl (qm_x_aastw (hS 44 rfl) rfl rfl (by omega) (by omega)) ?_
      refine qm_G.s1 rfl (qm_x_aload rfl) ?_
      refine qm_G.s1 rfl (qm_x_getfR (q := (some (0, 45, 0))) (hS 42 rfl) (hR 42 4 45 rfl rfl)) ?_
      refine qm_G.s1 rfl (qm_x_aload rfl) ?_
      refine qm_G.s1 rfl (qm_x_getfI (v := c) (hS 42 rfl) hn) ?_
      refine qm_G.s1 rfl (qm_x_aload rfl) ?_
      refine qm_G.s1 rfl (qm_x_iload rfl) ?_
      refine qm_G.s1 rfl (qm_x_iload rfl) ?_
      refine qm_G.cm rfl rfl (hS 42 rfl) rfl ?_
      refine qm_d_num (a := qm_oe T ln a) hS (qm_Rd44 hR) hK rl hl ⟨by omega, by omega, by omega⟩ (fun j h1 h2 => qm_re_in 4 (qm_oe T ln a) j h1 (by show j < qm_og T ln a; omega)) ⟨_, rfl, ?_⟩ rfl
      rw [show qm_nu T (qm_oe T ln a) (Int.toNat (qm_og T ln a : Int) - qm_oe T ln a) = qm_ov T ln a from rfl]
      refine qm_G.s1 rfl (qm_x_iast (qm_arS hS rfl rfl) rfl (by omega) (by omega) (by decide)) ?_
      refine qm_G.s1 rfl (qm_x_aload rfl) ?_
      refine qm_G.s1 rfl (qm_x_dupR) ?_
      refine qm_G.s1 rfl (qm_x_getfI (v := c) (hS 42 rfl) hn) ?_
      refine qm_G.s1 rfl (qm_x_pushI 1 rfl) ?_
      refine qm_G.s1 rfl (qm_x_iadd) ?_
      refine qm_G.s1 rfl (qm_x_putfI (hS 42 rfl)) ?_
      refine qm_G.sp (lv1 := [(0, qm_R (some (0, 42, 0))), (4, qm_I (qm_i (qm_og T ln a : Int)))]) rfl rfl (qm_x_aload rfl) ?_
      refine qm_G.s1 rfl (qm_x_iload rfl) ?_
      refine qm_G.s1 rfl (qm_x_putfI (hS 42 rfl)) ?_
      refine qm_G.s1 rfl (qm_x_pushI (-1) rfl) ?_
      exact qm_G.ret rfl rfl (k3 _ _ rfl (by rw [c9]) ⟨by omega, by rw [c9]; unfold qm_hdg; omega⟩)
    · refine qm_G.ret rfl rfl ⟨_, rfl, ?_⟩
      refine qm_G.s1 rfl (qm_x_if_ne_f ⟨by decide, by decide⟩ (by decide)) ?_
      refine qm_G.s1 rfl (qm_x_iload rfl) ?_
      exact qm_G.ret rfl rfl (k2 (by omega) (fun h => by rw [c9] at h; unfold qm_hdg at h; omega))
  · rw [c9, show qm_wrf 5 = some (1, 10, 0) from rfl]
    refine qm_G.s1 rfl (qm_x_astore (lv' := [(3, qm_R (some (1, 10, 0))), (2, qm_I (qm_i (qm_oe T ln a : Int))), (1, qm_I (qm_i (a : Int))), (0, qm_R (some (0, 42, 0)))]) rfl) ?_
    refine qm_G.s1 rfl (qm_x_aload rfl) ?_
    refine qm_G.s1 rfl (qm_x_ifnonnull1) ?_
    refine qm_G.sp (lv1 := [(0, qm_R (some (0, 42, 0))), (2, qm_I (qm_i (qm_oe T ln a : Int))), (3, qm_R (some (1, 10, 0)))]) rfl rfl (qm_x_aload rfl) ?_
    refine qm_G.s1 rfl (qm_x_iload rfl) ?_
    refine qm_G.s1 rfl (qm_x_pushI 48 rfl) ?_
    refine qm_G.s1 rfl (qm_x_pushI 57 rfl) ?_
    refine qm_G.s1 rfl (qm_x_pushI 4 rfl) ?_
    refine qm_G.cm rfl rfl (hS 42 rfl) rfl ?_
    refine qm_d_eor (e := qm_oe T ln a) hS hR hK rl hl rfl ⟨by omega, by omega⟩ ⟨by decide, by decide⟩ ⟨by decide, by decide⟩ ⟨by decide, by decide⟩ ⟨_, rfl, ?_⟩
    rw [show qm_re T ln 48 57 (Int.toNat 4) (qm_oe T ln a) = qm_og T ln a from rfl]
    refine qm_G.s1 rfl (qm_x_istore (lv' := [(4, qm_I (qm_i (qm_og T ln a : Int))), (0, qm_R (some (0, 42, 0))), (2, qm_I (qm_i (qm_oe T ln a : Int))), (3, qm_R (some (1, 10, 0)))]) rfl) ?_
    refine qm_G.s1 rfl (qm_x_aload rfl) ?_
    refine qm_G.s1 rfl (qm_x_iload rfl) ?_
    refine qm_G.s1 rfl (qm_x_iload rfl) ?_
    refine qm_G.s1 rfl (qm_x_isub) ?_
    refine qm_G.call rfl rfl rfl ?_
    refine qm_C.go (cd := qm_P97) (lv := [(0, qm_R (some (1, 10, 0))), (1, qm_I (qm_i ((qm_og T ln a : Int) - (qm_oe T ln a : Int))))]) rfl rfl ?_
    refine qm_G.s1 rfl (qm_x_iload rfl) ?_
    refine qm_G.s1 rfl (qm_x_aload rfl) ?_
    refine qm_G.s1 rfl (qm_x_getgI (v := 3) rfl rfl) ?_
    refine qm_G.s1 rfl (qm_x_aload rfl) ?_
    refine qm_G.s1 rfl (qm_x_getgI (v := 4) rfl rfl) ?_
    refine qm_G.cs rfl rfl rfl ?_
    refine qm_v_within10 ⟨by omega, by omega⟩ ⟨by decide, by decide⟩ ⟨by decide, by decide⟩ (fun c6 => ⟨_, rfl, ?_⟩) (fun c6 => ⟨_, rfl, ?_⟩)
    · refine qm_G.ret rfl rfl ⟨_, rfl, ?_⟩
      refine qm_G.s1 rfl (qm_x_if_ne_t ⟨by decide, by decide⟩ (by decide)) ?_
      refine qm_G.sp (lv1 := [(0, qm_R (some (0, 42, 0))), (2, qm_I (qm_i (qm_oe T ln a : Int))), (3, qm_R (some (1, 10, 0))), (4, qm_I (qm_i (qm_og T ln a : Int)))]) rfl rfl (qm_x_aload rfl) ?_
      refine qm_G.s1 rfl (qm_x_getfI (v := c) (hS 42 rfl) hn) ?_
      refine qm_G.s1 rfl (qm_x_pushI 12 rfl) ?_
      refine qm_G.s1 rfl (qm_x_icmp_ge_f ⟨by omega, by omega⟩ ⟨by decide, by decide⟩ (by omega)) ?_
      refine qm_G.s1 rfl (qm_x_aload rfl) ?_
      refine qm_G.s1 rfl (qm_x_getfR (q := (some (0, 44, 0))) (hS 42 rfl) (hR 42 3 44 rfl rfl)) ?_
      refine qm_G.s1 rfl (qm_x_aload rfl) ?_
      refine qm_G.s1 rfl (qm_x_getfI (v := c) (hS 42 rfl) hn) ?_
      refine qm_G.s1 rfl (qm_x_aload rfl) ?_
      refine qm_G.s1 rfl (qm_x_aastw (hS 44 rfl) rfl rfl (by omega) (by omega)) ?_
      refine qm_G.s1 rfl (qm_x_aload rfl) ?_
      refine qm_G.s1 rfl (qm_x_getfR (q := (some (0, 45, 0))) (hS 42 rfl) (hR 42 4 45 rfl rfl)) ?_
      refine qm_G.s1 rfl (qm_x_aload rfl) ?_
      refine qm_G.s1 rfl (qm_x_getfI (v := c) (hS 42 rfl) hn) ?_
      refine qm_G.s1 rfl (qm_x_aload rfl) ?_
      refine qm_G.s1 rfl (qm_x_iload rfl) ?_
      refine qm_G.s1 rfl (qm_x_iload rfl) ?_
      refine qm_G.cm rfl rfl (hS 42 rfl) rfl ?_
      refine qm_d_num (a := qm_oe T ln a) hS (qm_Rd44 hR) hK rl hl ⟨by omega, by omega, by omega⟩ (fun j h1 h2 => qm_re_in 4 (qm_oe T ln a) j h1 (by show j < qm_og T ln a; omega)) ⟨_, rfl, ?_⟩ rfl
      rw [show qm_nu T (qm_oe T ln a) (Int.toNat (qm_og T ln a : Int) - qm_oe T ln a) = qm_ov T ln a from rfl]
      refine qm_G.s1 rfl (qm_x_iast (qm_arS hS rfl rfl) rfl (by omega) (by omega) (by decide)) ?_
      refine qm_G.s1 rfl (qm_x_aload rfl) ?_
      refine qm_G.s1 rfl (qm_x_dupR) ?_
      refine qm_G.s1 rfl (qm_x_getfI (v := c) (hS 42 rfl) hn) ?_
      refine qm_G.s1 rfl (qm_x_pushI 1 rfl) ?_
      refine qm_G.s1 rfl (qm_x_iadd) ?_
      refine qm_G.s1 rfl (qm_x_putfI (hS 42 rfl)) ?_
      refine qm_G.sp (lv1 := [(0, qm_R (some (0, 42, 0))), (4, qm_I (qm_i (qm_og T ln a : Int)))]) rfl rfl (qm_x_aload rfl) ?_
      refine qm_G.s1 rfl (qm_x_iload rfl) ?_
      refine qm_G.s1 rfl (qm_x_putfI (hS 42 rfl)) ?_
      refine qm_G.s1 rfl (qm_x_pushI (-1) rfl) ?_
      exact qm_G.ret rfl rfl (k3 _ _ rfl (by rw [c9]) ⟨by omega, by rw [c9]; unfold qm_hdg; omega⟩)
    · refine qm_G.ret rfl rfl ⟨_, rfl, ?_⟩
      refine qm_G.s1 rfl (qm_x_if_ne_f ⟨by decide, by decide⟩ (by decide)) ?_
      refine qm_G.s1 rfl (qm_x_iload rfl) ?_
      exact qm_G.ret rfl rfl (k2 (by omega) (fun h => by rw [c9] at h; unfold qm_hdg at h; omega))
  · rw [c9, show qm_wrf 6 = some (1, 11, 0) from rfl]
    refine qm_G.s1 rfl (qm_x_astore (lv' := [(3, qm_R (some (1, 11, 0))), (2, qm_I (qm_i (qm_oe T ln a : Int))), (1, qm_I (qm_i (a : Int))), (0, qm_R (some (0, 42, 0)))]) rfl) ?_
    refine qm_G.s1 rfl (qm_x_aload rfl) ?_
    refine qm_G.s1 rfl (qm_x_ifnonnull1) ?_
    refine qm_G.sp (lv1 := [(0, qm_R (some (0, 42, 0))), (2, qm_I (qm_i (qm_oe T ln a : Int))), (3, qm_R (some (1, 11, 0)))]) rfl rfl (qm_x_aload rfl) ?_
    refine qm_G.s1 rfl (qm_x_iload rfl) ?_
    refine qm_G.s1 rfl (qm_x_pushI 48 rfl) ?_
    refine qm_G.s1 rfl (qm_x_pushI 57 rfl) ?_
    refine qm_G.s1 rfl (qm_x_pushI 4 rfl) ?_
    refine qm_G.cm rfl rfl (hS 42 rfl) rfl ?_
    refine qm_d_eor (e := qm_oe T ln a) hS hR hK rl hl rfl ⟨by omega, by omega⟩ ⟨by decide, by decide⟩ ⟨by decide, by decide⟩ ⟨by decide, by decide⟩ ⟨_, rfl, ?_⟩
    rw [show qm_re T ln 48 57 (Int.toNat 4) (qm_oe T ln a) = qm_og T ln a from rfl]
    refine qm_G.s1 rfl (qm_x_istore (lv' := [(4, qm_I (qm_i (qm_og T ln a : Int))), (0, qm_R (some (0, 42, 0))), (2, qm_I (qm_i (qm_oe T ln a : Int))), (3, qm_R (some (1, 11, 0)))]) rfl) ?_
    refine qm_G.s1 rfl (qm_x_aload rfl) ?_
    refine qm_G.s1 rfl (qm_x_iload rfl) ?_
    refine qm_G.s1 rfl (qm_x_iload rfl) ?_
    refine qm_G.s1 rfl (qm_x_isub) ?_
    refine qm_G.call rfl rfl rfl ?_
    refine qm_C.go (cd := qm_P97) (lv := [(0, qm_R (some (1, 11, 0))), (1, qm_I (qm_i ((qm_og T ln a : Int) - (qm_oe T ln a : Int))))]) rfl rfl ?_
    refine qm_G.s1 rfl (qm_x_iload rfl) ?_
    refine qm_G.s1 rfl (qm_x_aload rfl) ?_
    refine qm_G.s1 rfl (qm_x_getgI (v := 1) rfl rfl) ?_
    refine qm_G.s1 rfl (qm_x_aload rfl) ?_
    refine qm_G.s1 rfl (qm_x_getgI (v := 1) rfl rfl) ?_
    refine qm_G.cs rfl rfl rfl ?_
    refine qm_v_within10 ⟨by omega, by omega⟩ ⟨by decide, by decide⟩ ⟨by decide, by decide⟩ (fun c7 => ⟨_, rfl, ?_⟩) (fun c7 => ⟨_, rfl, ?_⟩)
    · refine qm_G.ret rfl rfl ⟨_, rfl, ?_⟩
      refine qm_G.s1 rfl (qm_x_if_ne_t ⟨by decide, by decide⟩ (by decide)) ?_
      refine qm_G.sp (lv1 := [(0, qm_R (some (0, 42, 0))), (2, qm_I (qm_i (qm_oe T ln a : Int))), (3, qm_R (some (1, 11, 0))), (4, qm_I (qm_i (qm_og T ln a : Int)))]) rfl rfl (qm_x_aload rfl) ?_
      refine qm_G.s1 rfl (qm_x_getfI (v := c) (hS 42 rfl) hn) ?_
      refine qm_G.s1 rfl (qm_x_pushI 12 rfl) ?_
      refine qm_G.s1 rfl (qm_x_icmp_ge_f ⟨by omega, by omega⟩ ⟨by decide, by decide⟩ (by omega)) ?_
      refine qm_G.s1 rfl (qm_x_aload rfl) ?_
      refine qm_G.s1 rfl (qm_x_getfR (q := (some (0, 44, 0))) (hS 42 rfl) (hR 42 3 44 rfl rfl)) ?_
      refine qm_G.s1 rfl (qm_x_aload rfl) ?_
      refine qm_G.s1 rfl (qm_x_getfI (v := c) (hS 42 rfl) hn) ?_
      refine qm_G.s1 rfl (qm_x_aload rfl) ?_
      refine qm_G.s1 rfl (qm_x_aastw (hS 44 rfl) rfl rfl (by omega) (by omega)) ?_
      refine qm_G.s1 rfl (qm_x_aload rfl) ?_
      refine qm_G.s1 rfl (qm_x_getfR (q := (some (0, 45, 0))) (hS 42 rfl) (hR 42 4 45 rfl rfl)) ?_
      refine qm_G.s1 rfl (qm_x_aload rfl) ?_
      refine qm_G.s1 rfl (qm_x_getfI (v := c) (hS 42 rfl) hn) ?_
      refine qm_G.s1 rfl (qm_x_aload rfl) ?_
      refine qm_G.s1 rfl (qm_x_iload rfl) ?_
      refine qm_G.s1 rfl (qm_x_iload rfl) ?_
      refine qm_G.cm rfl rfl (hS 42 rfl) rfl ?_
      refine qm_d_num (a := qm_oe T ln a) hS (qm_Rd44 hR) hK rl hl ⟨by omega, by omega, by omega⟩ (fun j h1 h2 => qm_re_in 4 (qm_oe T ln a) j h1 (by show j < qm_og T ln a; omega)) ⟨_, rfl, ?_⟩ rfl
      rw [show qm_nu T (qm_oe T ln a) (Int.toNat (qm_og T ln a : Int) - qm_oe T ln a) = qm_ov T ln a from rfl]
      refine qm_G.s1 rfl (qm_x_iast (qm_arS hS rfl rfl) rfl (by omega) (by omega) (by decide)) ?_
      refine qm_G.s1 rfl (qm_x_aload rfl) ?_
      refine qm_G.s1 rfl (qm_x_dupR) ?_
      refine qm_G.s1 rfl (qm_x_getfI (v := c) (hS 42 rfl) hn) ?_
      refine qm_G.s1 rfl (qm_x_pushI 1 rfl) ?_
      refine qm_G.s1 rfl (qm_x_iadd) ?_
      refine qm_G.s1 rfl (qm_x_putfI (hS 42 rfl)) ?_
      refine qm_G.sp (lv1 := [(0, qm_R (some (0, 42, 0))), (4, qm_I (qm_i (qm_og T ln a : Int)))]) rfl rfl (qm_x_aload rfl) ?_
      refine qm_G.s1 rfl (qm_x_iload rfl) ?_
      refine qm_G.s1 rfl (qm_x_putfI (hS 42 rfl)) ?_
      refine qm_G.s1 rfl (qm_x_pushI (-1) rfl) ?_
      exact qm_G.ret rfl rfl (k3 _ _ rfl (by rw [c9]) ⟨by omega, by rw [c9]; unfold qm_hdg; omega⟩)
    · refine qm_G.ret rfl rfl ⟨_, rfl, ?_⟩
      refine qm_G.s1 rfl (qm_x_if_ne_f ⟨by decide, by decide⟩ (by decide)) ?_
      refine qm_G.s1 rfl (qm_x_iload rfl) ?_
      exact qm_G.ret rfl rfl (k2 (by omega) (fun h => by rw [c9] at h; unfold qm_hdg at h; omega))
  · rw [c9, show qm_wrf 7 = none from rfl]
    refine qm_G.s1 rfl (qm_x_astore (lv' := [(3, qm_R (none)), (2, qm_I (qm_i (qm_oe T ln a : Int))), (1, qm_I (qm_i (a : Int))), (0, qm_R (some (0, 42, 0)))]) rfl) ?_
    refine qm_G.s1 rfl (qm_x_aload rfl) ?_
    refine qm_G.s1 rfl (qm_x_ifnonnull0) ?_
    refine qm_G.s1 rfl (qm_x_iload rfl) ?_
    exact qm_G.ret rfl rfl (k1 c9)
theorem qm_d_fol {S : List qm_Sh} {K : qm_J} {L : qm_Ct Int64} {D : qm_Ct UInt64} {X : Nat × (Nat → Int32)} {Q : Option qm_V → qm_Hp → Prop} {T : Nat → Int} {ln : Int} {J0 : qm_J} {R0 : qm_Ct (Option qm_Rf)} (hS : qm_Sd S) (hK : ∀ i, i < 100 → K 43 0 i = T i ∧ 0 ≤ T i ∧ T i ≤ 127) (rl : 0 ≤ ln ∧ ln ≤ 100) (hl0 : J0 42 0 1 = ln) (k : ∀ (n : Nat) (F : Int) (J' : qm_J) (R' : qm_Ct (Option qm_Rf)), qm_oF T ln n F → qm_Fr J0 J' R0 R' → qm_Rd R' → (F = -1 → qm_Fa T ln J0 J' R0 R' (n + 1)) → Q (some (qm_I (qm_i F))) (qm_H S J' K L D R' X)) : ∀ (m n : Nat) (i : Int) (J : qm_J) (R : qm_Ct (Option qm_Rf)), i = (n : Int) → n + m = 12 → qm_Fa T ln J0 J R0 R n → J 42 0 2 = (qm_oa T ln n : Int) → (∀ i, i < n → qm_oc T ln i) → qm_Rd R → qm_G qm_P qm_P218 12 [(0, qm_R (some (0, 42, 0))), (1, qm_I (qm_i i))] [] (qm_H S J K L D R X) Q := by
  intro m
  induction m with
  | zero =>
    intro n i J R hi hm hF hc ho hR
    have ha := (qm_oa_ln rl.1 n ho).1
    refine qm_G.pk (lv1 := [(0, qm_R (some (0, 42, 0))), (1, qm_I (qm_i i))]) rfl rfl rfl ?_
    refine qm_G.sp (lv1 := [(0, qm_R (some (0, 42, 0))), (1, qm_I (qm_i i))]) rfl rfl (qm_x_iload rfl) ?_
    refine qm_G.s1 rfl (qm_x_pushI 12 rfl) ?_
    refine qm_G.s1 rfl (qm_x_icmp_ge_t ⟨by omega, by omega⟩ ⟨by decide, by decide⟩ (by omega)) ?_
    refine qm_G.sp (lv1 := [(0, qm_R (some (0, 42, 0)))]) rfl rfl (qm_x_aload rfl) ?_
    refine qm_G.s1 rfl (qm_x_getfI (v := (qm_oa T ln n : Int)) (hS 42 rfl) hc) ?_
    refine qm_G.s1 rfl (qm_x_pushI 1 rfl) ?_
    refine qm_G.s1 rfl (qm_x_isub) ?_
    have n12 : n = 12 := by omega
    subst n12
    refine qm_G.ret rfl rfl (k 11 _ J R ⟨fun i h => ho i (by omega), by decide, Or.inr (Or.inr (Or.inr (Or.inl ⟨ho 11 (by decide), rfl, ?_⟩)))⟩ hF.1 hR (fun h => ?_))
    · show ((qm_og T ln (qm_oa T ln 11) + 1 : Nat) : Int) - 1 = _
      omega
    · have h8 : ((qm_og T ln (qm_oa T ln 11) + 1 : Nat) : Int) - 1 = -1 := h
      omega
  | succ m ih =>
    intro n i J R hi hm hF hc ho hR
    have ha := (qm_oa_ln rl.1 n ho).1
    have r9 := qm_o_rng (T := T) ha
    have hl1 : J 42 0 1 = ln := (hF.1.1 42 0 1 (by omega) (by omega)).trans hl0
    refine qm_G.pk (lv1 := [(0, qm_R (some (0, 42, 0))), (1, qm_I (qm_i i))]) rfl rfl rfl ?_
    refine qm_G.sp (lv1 := [(0, qm_R (some (0, 42, 0))), (1, qm_I (qm_i i))]) rfl rfl (qm_x_iload rfl) ?_
    refine qm_G.s1 rfl (qm_x_pushI 12 rfl) ?_
    refine qm_G.s1 rfl (qm_x_icmp_ge_f ⟨by omega, by omega⟩ ⟨by decide, by decide⟩ (by omega)) ?_
    refine qm_G.s1 rfl (qm_x_aload rfl) ?_
    refine qm_G.cm rfl rfl (hS 42 rfl) rfl ?_
    refine qm_d_foo (a := qm_oa T ln n) (c := (n : Int)) hS hR hK rl hl1 hc ha hF.2.1 ⟨by omega, by omega⟩ (fun k1 => ⟨_, rfl, ?_⟩) (fun k1 k2 => ⟨_, rfl, ?_⟩) (fun J1 R1 e1 e2 k1 => ⟨_, rfl, ?_⟩)
    · refine qm_G.s1 rfl (qm_x_istore (lv' := [(2, qm_I (qm_i (qm_oa T ln n : Int))), (0, qm_R (some (0, 42, 0))), (1, qm_I (qm_i i))]) rfl) ?_
      refine qm_G.s1 rfl (qm_x_iload rfl) ?_
      refine qm_G.s1 rfl (qm_x_pushI (-1) rfl) ?_
      refine qm_G.s1 rfl (qm_x_icmp_eq_f ⟨by omega, by omega⟩ ⟨by decide, by decide⟩ (by omega)) ?_
      refine qm_G.s1 rfl (qm_x_iload rfl) ?_
      exact qm_G.ret rfl rfl (k n _ J R ⟨ho, by omega, Or.inl ⟨k1, rfl⟩⟩ hF.1 hR (fun h => by omega))
    · refine qm_G.s1 rfl (qm_x_istore (lv' := [(2, qm_I (qm_i (qm_oe T ln (qm_oa T ln n) : Int))), (0, qm_R (some (0, 42, 0))), (1, qm_I (qm_i i))]) rfl) ?_
      refine qm_G.s1 rfl (qm_x_iload rfl) ?_
      refine qm_G.s1 rfl (qm_x_pushI (-1) rfl) ?_
      refine qm_G.s1 rfl (qm_x_icmp_eq_f ⟨by omega, by omega⟩ ⟨by decide, by decide⟩ (by omega)) ?_
      refine qm_G.s1 rfl (qm_x_iload rfl) ?_
      exact qm_G.ret rfl rfl (k n _ J R ⟨ho, by omega, Or.inr (Or.inl ⟨k1, k2, rfl⟩)⟩ hF.1 hR (fun h => by omega))
    · have hR1 : qm_Rd R1 := e2 ▸ qm_Rd44 hR
      have F1 := hF.push e1 e2
      have hl2 : J1 42 0 1 = ln := (F1.1.1 42 0 1 (by omega) (by omega)).trans hl0
      have hc2 : J1 42 0 2 = (qm_og T ln (qm_oa T ln n) : Int) := by rw [e1]; exact qm_st_eq
      refine qm_G.s1 rfl (qm_x_istore (lv' := [(2, qm_I (qm_i (-1))), (0, qm_R (some (0, 42, 0))), (1, qm_I (qm_i i))]) rfl) ?_
      refine qm_G.s1 rfl (qm_x_iload rfl) ?_
      refine qm_G.s1 rfl (qm_x_pushI (-1) rfl) ?_
      refine qm_G.s1 rfl (qm_x_icmp_eq_t ⟨by decide, by decide⟩ ⟨by decide, by decide⟩ (by decide)) ?_
      refine qm_G.sp (lv1 := [(0, qm_R (some (0, 42, 0))), (1, qm_I (qm_i i))]) rfl rfl (qm_x_aload rfl) ?_
      refine qm_G.s1 rfl (qm_x_getfI (v := (qm_og T ln (qm_oa T ln n) : Int)) (hS 42 rfl) hc2) ?_
      refine qm_G.s1 rfl (qm_x_aload rfl) ?_
      refine qm_G.s1 rfl (qm_x_getfI (v := ln) (hS 42 rfl) hl2) ?_
      refine qm_y_icmp_lt rfl ⟨by omega, by omega⟩ ⟨by omega, by omega⟩ (fun c1 => ?_) (fun c1 => ?_)
      · refine qm_G.sp (lv1 := [(0, qm_R (some (0, 42, 0))), (1, qm_I (qm_i i))]) rfl rfl (qm_x_aload rfl) ?_
        refine qm_G.s1 rfl (qm_x_getfR (q := (some (0, 43, 0))) (hS 42 rfl) (hR1 42 0 43 rfl rfl)) ?_
        refine qm_G.s1 rfl (qm_x_aload rfl) ?_
        refine qm_G.s1 rfl (qm_x_getfI (v := (qm_og T ln (qm_oa T ln n) : Int)) (hS 42 rfl) hc2) ?_
        have gT2 := (hK (qm_og T ln (qm_oa T ln n)) (by omega)).2
        refine qm_G.s1 rfl (qm_x_bald (v := T (qm_og T ln (qm_oa T ln n))) (qm_arS hS rfl rfl) rfl (by omega) (by omega) (by decide) (by rw [show Int.toNat (qm_og T ln (qm_oa T ln n) : Int) = qm_og T ln (qm_oa T ln n) by omega]; exact (hK (qm_og T ln (qm_oa T ln n)) (by omega)).1) (by omega)) ?_
        refine qm_G.s1 rfl (qm_x_pushI 59 rfl) ?_
        refine qm_y_icmp_eq rfl ⟨by omega, by omega⟩ ⟨by decide, by decide⟩ (fun c3 => ?_) (fun c3 => ?_)
        · refine qm_G.sp (lv1 := [(0, qm_R (some (0, 42, 0))), (1, qm_I (qm_i i))]) rfl rfl (qm_x_aload rfl) ?_
          refine qm_G.s1 rfl (qm_x_dupR) ?_
          refine qm_G.s1 rfl (qm_x_getfI (v := (qm_og T ln (qm_oa T ln n) : Int)) (hS 42 rfl) hc2) ?_
          refine qm_G.s1 rfl (qm_x_pushI 1 rfl) ?_
          refine qm_G.s1 rfl (qm_x_iadd) ?_
          refine qm_G.s1 rfl (qm_x_putfI (hS 42 rfl)) ?_
          refine qm_G.s1 rfl (qm_x_iinc (lv' := [(1, qm_I (qm_i (i + 1))), (0, qm_R (some (0, 42, 0)))]) 1 rfl rfl rfl) ?_
          refine qm_G.s1 rfl (qm_x_goto) ?_
          refine qm_G.pk (lv1 := [(0, qm_R (some (0, 42, 0))), (1, qm_I (qm_i (i + 1)))]) rfl rfl rfl ?_
          exact ih (n + 1) _ _ _ (by omega) (by omega) F1.cur (qm_st_eq.trans (by show _ = ((qm_og T ln (qm_oa T ln n) + 1 : Nat) : Int); omega)) (fun i h => if c9 : i = n then (by rw [c9]; exact ⟨k1, by omega, by omega⟩) else ho i (by omega)) hR1
        · refine qm_G.s1 rfl (qm_x_aload rfl) ?_
          refine qm_G.s1 rfl (qm_x_getfI (v := (qm_og T ln (qm_oa T ln n) : Int)) (hS 42 rfl) hc2) ?_
          exact qm_G.ret rfl rfl (k n _ J1 R1 ⟨ho, by omega, Or.inr (Or.inr (Or.inl ⟨k1, by omega, by omega, rfl⟩))⟩ F1.1 hR1 (fun h => by omega))
      · refine qm_G.s1 rfl (qm_x_pushI (-1) rfl) ?_
        exact qm_G.ret rfl rfl (k n _ J1 R1 ⟨ho, by omega, Or.inr (Or.inr (Or.inr (Or.inr ⟨k1, by omega, rfl⟩)))⟩ F1.1 hR1 (fun _ => F1))
theorem qm_d_foa {S : List qm_Sh} {K : qm_J} {L : qm_Ct Int64} {D : qm_Ct UInt64} {R : qm_Ct (Option qm_Rf)} {X : Nat × (Nat → Int32)} {Q : Option qm_V → qm_Hp → Prop} {T : Nat → Int} {ln : Int} {J : qm_J} (hS : qm_Sd S) (hR : qm_Rd R) (hK : ∀ i, i < 100 → K 43 0 i = T i ∧ 0 ≤ T i ∧ T i ≤ 127) (rl : 0 ≤ ln ∧ ln ≤ 100) (hl : J 42 0 1 = ln) (k : ∀ (n : Nat) (F : Int) (J' : qm_J) (R' : qm_Ct (Option qm_Rf)), qm_oF T ln n F → qm_Fr J J' R R' → qm_Rd R' → (F = -1 → qm_Fa T ln J J' R R' (n + 1)) → Q (some (qm_I (qm_i F))) (qm_H S J' K L D R' X)) : qm_C qm_P 218 [qm_R (some (0, 42, 0))] (qm_H S J K L D R X) Q := by
  refine qm_C.go (cd := qm_P218) (lv := [(0, qm_R (some (0, 42, 0)))]) rfl rfl ?_
  refine qm_G.s1 rfl (qm_x_aload rfl) ?_
  refine qm_G.s1 rfl (qm_x_pushI 0 rfl) ?_
  refine qm_G.s1 rfl (qm_x_putfI (hS 42 rfl)) ?_
  refine qm_G.s1 rfl (qm_x_aload rfl) ?_
  refine qm_G.s1 rfl (qm_x_pushI 0 rfl) ?_
  refine qm_G.s1 rfl (qm_x_putfI (hS 42 rfl)) ?_
  refine qm_G.s1 rfl (qm_x_pushI 0 rfl) ?_
  refine qm_G.s1 rfl (qm_x_istore (lv' := [(1, qm_I (qm_i 0)), (0, qm_R (some (0, 42, 0)))]) rfl) ?_
  refine qm_G.pk (lv1 := [(0, qm_R (some (0, 42, 0))), (1, qm_I (qm_i 0))]) rfl rfl rfl ?_
  refine qm_d_fol (J0 := J) (R0 := R) hS hK rl hl k 12 0 0 _ R rfl rfl ⟨⟨fun r s i a b => ?_, fun _ _ _ _ => rfl⟩, qm_st_eq, fun i h => absurd h (Nat.not_lt_zero i)⟩ ?_ (fun i h => absurd h (Nat.not_lt_zero i)) hR
  · rw [qm_st_ne (by omega), qm_st_ne (by omega)]
  · rw [qm_st_ne (by omega)]; exact qm_st_eq
