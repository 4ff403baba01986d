/-! READING: the model -/
theorem qm_m_let {S : List qm_Sh} {K : qm_J} {L : qm_Ct Int64} {D : qm_Ct UInt64} {R : qm_Ct (Option qm_Rf)} {X : Nat × (Nat → Int32)} {Q : Option qm_V → qm_Hp → Prop} {T : Nat → Int} {ln : Int} {J : qm_J} {n a : Int} {t : Nat} (hS : qm_Sd S) (hR : qm_Rd R) (hT : ∀ i, i < 100 → J 69 0 i = T i ∧ 0 ≤ T i ∧ T i ≤ 127) (rl : 0 ≤ ln ∧ ln ≤ 100) (hl : J 61 0 12 = ln) (k : ∀ J1 : qm_J, (∀ r s i, ¬ (r = 61 ∧ i = 16) → J1 r s i = J r s i) → J1 61 0 16 = (t : Int) → qm_G qm_P qm_P197 29 [(0, qm_R (some (0, 61, 0))), (1, qm_I (qm_i n)), (2, qm_I (qm_i a))] [] (qm_H S J1 K L D R X) Q) : ∀ (m e : Nat) (x : Int) (J1 : qm_J), x = (e : Int) → e ≤ 100 → 100 ≤ e + m → qm_re T ln 97 122 m e = t → (∀ r s i, ¬ (r = 61 ∧ i = 16) → J1 r s i = J r s i) → J1 61 0 16 = x → qm_G qm_P qm_P197 5 [(0, qm_R (some (0, 61, 0))), (1, qm_I (qm_i n)), (2, qm_I (qm_i a))] [] (qm_H S J1 K L D R X) Q := by
  intro m
  induction m with
  | zero =>
    intro e x J1 hx h1 h2 ht hf h16
    refine qm_G.pk (lv1 := [(0, qm_R (some (0, 61, 0))), (1, qm_I (qm_i n)), (2, qm_I (qm_i a))]) rfl rfl rfl ?_
    refine qm_G.sp (lv1 := [(0, qm_R (some (0, 61, 0))), (1, qm_I (qm_i n)), (2, qm_I (qm_i a))]) rfl rfl (qm_x_aload rfl) ?_
    refine qm_G.s1 rfl (qm_x_pushI 97 rfl) ?_
    refine qm_G.s1 rfl (qm_x_pushI 122 rfl) ?_
    refine qm_G.cm rfl rfl (hS 61 rfl) rfl ?_
    refine qm_C.go (cd := qm_P81) (lv := [(0, qm_R (some (0, 61, 0))), (1, qm_I (qm_i 97)), (2, qm_I (qm_i 122))]) rfl rfl ?_
    refine qm_G.s1 rfl (qm_x_aload rfl) ?_
    refine qm_G.s1 rfl (qm_x_getfI (v := x) (hS 61 rfl) h16) ?_
    refine qm_G.s1 rfl (qm_x_aload rfl) ?_
    refine qm_G.s1 rfl (qm_x_getfI (v := ln) (hS 61 rfl) ((hf 61 0 12 (by omega)).trans hl)) ?_
    refine qm_G.s1 rfl (qm_x_icmp_ge_t ⟨by omega, by omega⟩ ⟨by omega, by omega⟩ (by omega)) ?_
    refine qm_G.sp (lv1 := []) rfl rfl (qm_x_pushI 0 rfl) ?_
    refine qm_G.ret rfl rfl ⟨_, rfl, ?_⟩
    refine qm_G.s1 rfl (qm_x_if_eq_t ⟨by decide, by decide⟩ (by decide)) ?_
    refine qm_G.pk (lv1 := [(0, qm_R (some (0, 61, 0))), (1, qm_I (qm_i n)), (2, qm_I (qm_i a))]) rfl rfl rfl ?_
    exact k J1 hf (by rw [h16, ← ht, qm_re_n (by omega), hx])
  | succ m ih =>
    intro e x J1 hx h1 h2 ht hf h16
    refine qm_G.pk (lv1 := [(0, qm_R (some (0, 61, 0))), (1, qm_I (qm_i n)), (2, qm_I (qm_i a))]) rfl rfl rfl ?_
    refine qm_G.sp (lv1 := [(0, qm_R (some (0, 61, 0))), (1, qm_I (qm_i n)), (2, qm_I (qm_i a))]) rfl rfl (qm_x_aload rfl) ?_
    refine qm_G.s1 rfl (qm_x_pushI 97 rfl) ?_
    refine qm_G.s1 rfl (qm_x_pushI 122 rfl) ?_
    refine qm_G.cm rfl rfl (hS 61 rfl) rfl ?_
    refine qm_C.go (cd := qm_P81) (lv := [(0, qm_R (some (0, 61, 0))), (1, qm_I (qm_i 97)), (2, qm_I (qm_i 122))]) rfl rfl ?_
    refine qm_G.s1 rfl (qm_x_aload rfl) ?_
    refine qm_G.s1 rfl (qm_x_getfI (v := x) (hS 61 rfl) h16) ?_
    refine qm_G.s1 rfl (qm_x_aload rfl) ?_
    refine qm_G.s1 rfl (qm_x_getfI (v := ln) (hS 61 rfl) ((hf 61 0 12 (by omega)).trans hl)) ?_
    refine qm_y_icmp_ge rfl ⟨by omega, by omega⟩ ⟨by omega, by omega⟩ (fun c1 => ?_) (fun c1 => ?_)
    · refine qm_G.sp (lv1 := []) rfl rfl (qm_x_pushI 0 rfl) ?_
      refine qm_G.ret rfl rfl ⟨_, rfl, ?_⟩
      refine qm_G.s1 rfl (qm_x_if_eq_t ⟨by decide, by decide⟩ (by decide)) ?_
      refine qm_G.pk (lv1 := [(0, qm_R (some (0, 61, 0))), (1, qm_I (qm_i n)), (2, qm_I (qm_i a))]) rfl rfl rfl ?_
      exact k J1 hf (by rw [h16, ← ht, qm_re_n (by omega), hx])
    · refine qm_G.s1 rfl (qm_x_aload rfl) ?_
      refine qm_G.s1 rfl (qm_x_getfR (q := (some (0, 69, 0))) (hS 61 rfl) (hR 61 13 69 rfl rfl)) ?_
      refine qm_G.s1 rfl (qm_x_aload rfl) ?_
      refine qm_G.s1 rfl (qm_x_getfI (v := x) (hS 61 rfl) h16) ?_
      have gT2 := (hT e (by omega)).2
      refine qm_G.s1 rfl (qm_x_iald (v := (T e)) (qm_arS hS rfl rfl) rfl (by omega) (by omega) (by decide) (Eq.trans (congrArg (J1 69 0) (by omega)) ((hf 69 0 e (by omega)).trans (hT e (by omega)).1))) ?_
      refine qm_G.s1 rfl (qm_x_iload rfl) ?_
      refine qm_G.s1 rfl (qm_x_iload rfl) ?_
      refine qm_G.cs rfl rfl rfl ?_
      refine qm_v_within11 ⟨by omega, by omega⟩ ⟨by decide, by decide⟩ ⟨by decide, by decide⟩ (fun c3 => ⟨_, rfl, ?_⟩) (fun c3 => ⟨_, rfl, ?_⟩)
      · refine qm_G.s1 rfl (qm_x_if_eq_f ⟨by decide, by decide⟩ (by decide)) ?_
        refine qm_G.s1 rfl (qm_x_pushI 1 rfl) ?_
        refine qm_G.s1 rfl (qm_x_goto) ?_
        refine qm_G.ret rfl rfl ⟨_, rfl, ?_⟩
        refine qm_G.s1 rfl (qm_x_if_eq_f ⟨by decide, by decide⟩ (by decide)) ?_
        refine qm_G.s1 rfl (qm_x_aload rfl) ?_
        refine qm_G.s1 rfl (qm_x_dupR) ?_
        refine qm_G.s1 rfl (qm_x_getfI (v := x) (hS 61 rfl) h16) ?_
        refine qm_G.s1 rfl (qm_x_pushI 1 rfl) ?_
        refine qm_G.s1 rfl (qm_x_iadd) ?_
        refine qm_G.s1 rfl (qm_x_putfI (hS 61 rfl)) ?_
        refine qm_G.s1 rfl (qm_x_goto) ?_
        refine qm_G.pk (lv1 := [(0, qm_R (some (0, 61, 0))), (1, qm_I (qm_i n)), (2, qm_I (qm_i a))]) rfl rfl rfl ?_
        exact ih (e + 1) _ _ (by omega) (by omega) (by omega) (by rw [← qm_re_y (by omega)]; exact ht) (fun r s i h => (qm_st_ne (by omega)).trans (hf r s i h)) qm_st_eq
      · refine qm_G.s1 rfl (qm_x_if_eq_t ⟨by decide, by decide⟩ (by decide)) ?_
        refine qm_G.sp (lv1 := []) rfl rfl (qm_x_pushI 0 rfl) ?_
        refine qm_G.ret rfl rfl ⟨_, rfl, ?_⟩
        refine qm_G.s1 rfl (qm_x_if_eq_t ⟨by decide, by decide⟩ (by decide)) ?_
        refine qm_G.pk (lv1 := [(0, qm_R (some (0, 61, 0))), (1, qm_I (qm_i n)), (2, qm_I (qm_i a))]) rfl rfl rfl ?_
        exact k J1 hf (by rw [h16, ← ht, qm_re_n (by omega), hx])
theorem qm_m_isw0 {S : List qm_Sh} {K : qm_J} {L : qm_Ct Int64} {D : qm_Ct UInt64} {R : qm_Ct (Option qm_Rf)} {X : Nat × (Nat → Int32)} {Q : Option qm_V → qm_Hp → Prop} {T : Nat → Int} {ln : Int} {J : qm_J} {x : Int} {a e : Nat} (hS : qm_Sd S) (hR : qm_Rd R) (hT : ∀ i, i < 100 → J 69 0 i = T i ∧ 0 ≤ T i ∧ T i ≤ 127) (rl : 0 ≤ ln ∧ ln ≤ 100) (hl : J 61 0 12 = ln) (hx : x = (a : Int)) (h16 : J 61 0 16 = (e : Int)) (h1 : a ≤ e ∧ e ≤ 100) (k1 : qm_isw T a e 0 → Q (some (qm_I (qm_i 1))) (qm_H S J K L D R X)) (k0 : ¬ qm_isw T a e 0 → Q (some (qm_I (qm_i 0))) (qm_H S J K L D R X)) : qm_C qm_P 175 [qm_R (some (0, 61, 0)), qm_I (qm_i x), qm_R (some (1, 12, 0))] (qm_H S J K L D R X) Q := by
  refine qm_C.go (cd := qm_P175) (lv := [(0, qm_R (some (0, 61, 0))), (1, qm_I (qm_i x)), (2, qm_R (some (1, 12, 0)))]) rfl rfl ?_
  refine qm_G.s1 rfl (qm_x_aload rfl) ?_
  refine qm_G.s1 rfl (qm_x_getfI (v := (e : Int)) (hS 61 rfl) h16) ?_
  refine qm_G.s1 rfl (qm_x_iload rfl) ?_
  refine qm_G.s1 rfl (qm_x_isub) ?_
  refine qm_G.s1 rfl (qm_x_aload rfl) ?_
  refine qm_G.call rfl rfl rfl ?_
  refine qm_C.go (cd := qm_P53) (lv := [(0, qm_R (some (1, 12, 0)))]) rfl rfl ?_
  refine qm_G.s1 rfl (qm_x_aload rfl) ?_
  refine qm_G.s1 rfl (qm_x_getgR rfl rfl) ?_
  refine qm_G.s1 rfl (qm_x_alen1 (len := 3) rfl) ?_
  refine qm_G.s1 rfl (qm_x_aload rfl) ?_
  refine qm_G.call rfl rfl rfl ?_
  refine qm_C.go (cd := qm_P0) (lv := [(0, qm_R (some (1, 12, 0)))]) rfl rfl ?_
  refine qm_G.s1 rfl (qm_x_pushI 1 rfl) ?_
  refine qm_G.s1 rfl (qm_x_if_eq_f ⟨by decide, by decide⟩ (by decide)) ?_
  refine qm_G.s1 rfl (qm_x_aload rfl) ?_
  refine qm_G.s1 rfl (qm_x_getgI (v := 0) rfl rfl) ?_
  refine qm_G.s1 rfl (qm_x_goto) ?_
  refine qm_G.ret rfl rfl ⟨_, rfl, ?_⟩
  refine qm_G.s1 rfl (qm_x_ishr0) ?_
  refine qm_G.ret rfl rfl ⟨_, rfl, ?_⟩
  refine qm_y_icmp_eq rfl ⟨by omega, by omega⟩ ⟨by decide, by decide⟩ (fun c1 => ?_) (fun c1 => ?_)
  · refine qm_G.sp (lv1 := [(0, qm_R (some (0, 61, 0))), (1, qm_I (qm_i x)), (2, qm_R (some (1, 12, 0)))]) rfl rfl (qm_x_pushI 0 rfl) ?_
    refine qm_G.s1 rfl (qm_x_istore (lv' := [(3, qm_I (qm_i 0)), (0, qm_R (some (0, 61, 0))), (1, qm_I (qm_i x)), (2, qm_R (some (1, 12, 0)))]) rfl) ?_
    refine qm_G.sp (lv1 := [(0, qm_R (some (0, 61, 0))), (1, qm_I (qm_i x)), (2, qm_R (some (1, 12, 0))), (3, qm_I (qm_i 0))]) rfl rfl (qm_x_iload rfl) ?_
    refine qm_G.s1 rfl (qm_x_aload rfl) ?_
    refine qm_G.call rfl rfl rfl ?_
    refine qm_C.go (cd := qm_P53) (lv := [(0, qm_R (some (1, 12, 0)))]) rfl rfl ?_
    refine qm_G.s1 rfl (qm_x_aload rfl) ?_
    refine qm_G.s1 rfl (qm_x_getgR rfl rfl) ?_
    refine qm_G.s1 rfl (qm_x_alen1 (len := 3) rfl) ?_
    refine qm_G.s1 rfl (qm_x_aload rfl) ?_
    refine qm_G.call rfl rfl rfl ?_
    refine qm_C.go (cd := qm_P0) (lv := [(0, qm_R (some (1, 12, 0)))]) rfl rfl ?_
    refine qm_G.s1 rfl (qm_x_pushI 1 rfl) ?_
    refine qm_G.s1 rfl (qm_x_if_eq_f ⟨by decide, by decide⟩ (by decide)) ?_
    refine qm_G.s1 rfl (qm_x_aload rfl) ?_
    refine qm_G.s1 rfl (qm_x_getgI (v := 0) rfl rfl) ?_
    refine qm_G.s1 rfl (qm_x_goto) ?_
    refine qm_G.ret rfl rfl ⟨_, rfl, ?_⟩
    refine qm_G.s1 rfl (qm_x_ishr0) ?_
    refine qm_G.ret rfl rfl ⟨_, rfl, ?_⟩
    refine qm_G.s1 rfl (qm_x_icmp_ge_f ⟨by decide, by decide⟩ ⟨by decide, by decide⟩ (by decide)) ?_
    refine qm_G.s1 rfl (qm_x_aload rfl) ?_
    refine qm_G.s1 rfl (qm_x_getfR (q := (some (0, 69, 0))) (hS 61 rfl) (hR 61 13 69 rfl rfl)) ?_
    refine qm_G.s1 rfl (qm_x_iload rfl) ?_
    refine qm_G.s1 rfl (qm_x_iload rfl) ?_
    refine qm_G.s1 rfl (qm_x_iadd) ?_
    have gT2 := (hT (a + 0) (by omega)).2
    refine qm_G.s1 rfl (qm_x_iald (v := (T (a + 0))) (qm_arS hS rfl rfl) rfl (by omega) (by omega) (by decide) (Eq.trans (congrArg (J 69 0) (by omega)) (hT (a + 0) (by omega)).1)) ?_
    refine qm_G.s1 rfl (qm_x_aload rfl) ?_
    refine qm_G.s1 rfl (qm_x_iload rfl) ?_
    refine qm_G.call rfl rfl rfl ?_
    refine qm_C.go (cd := qm_P162) (lv := [(0, qm_R (some (1, 12, 0))), (1, qm_I (qm_i 0))]) rfl rfl ?_
    refine qm_G.s1 rfl (qm_x_aload rfl) ?_
    refine qm_G.call rfl rfl rfl ?_
    refine qm_C.go (cd := qm_P1) (lv := [(0, qm_R (some (1, 12, 0)))]) rfl rfl ?_
    refine qm_G.s1 rfl (qm_x_pushI 1 rfl) ?_
    refine qm_G.s1 rfl (qm_x_if_eq_f ⟨by decide, by decide⟩ (by decide)) ?_
    refine qm_G.s1 rfl (qm_x_aload rfl) ?_
    refine qm_G.s1 rfl (qm_x_getgI (v := 0) rfl rfl) ?_
    refine qm_G.s1 rfl (qm_x_if_ne_f ⟨by decide, by decide⟩ (by decide)) ?_
    refine qm_G.s1 rfl (qm_x_pushI 1 rfl) ?_
    refine qm_G.s1 rfl (qm_x_goto) ?_
    refine qm_G.ret rfl rfl ⟨_, rfl, ?_⟩
    refine qm_G.s1 rfl (qm_x_if_eq_f ⟨by decide, by decide⟩ (by decide)) ?_
    refine qm_G.s1 rfl (qm_x_aload rfl) ?_
    refine qm_G.s1 rfl (qm_x_getgR rfl rfl) ?_
    refine qm_G.s1 rfl (qm_x_iload rfl) ?_
    refine qm_G.cs rfl rfl rfl ?_
    refine qm_C.go (cd := qm_P134) (lv := [(0, qm_R (some (1, 25, 0))), (1, qm_I (qm_i 0))]) rfl rfl ?_
    refine qm_G.s1 rfl (qm_x_iload rfl) ?_
    refine qm_G.s1 rfl (qm_x_aload rfl) ?_
    refine qm_G.s1 rfl (qm_x_alen1 (len := 3) rfl) ?_
    refine qm_G.csv rfl rfl rfl ?_
    refine qm_C.go (cd := qm_P69) (lv := [(0, qm_I (qm_i 0)), (1, qm_I (qm_i 3))]) rfl rfl ?_
    refine qm_G.s1 rfl (qm_x_iload rfl) ?_
    refine qm_G.s1 rfl (qm_x_iload rfl) ?_
    refine qm_G.s1 rfl (show qm_St (qm_o_sio 5) _ _ _ _ _ (qm_R (qm_sio X) :: _) _ from rfl) ?_
    refine qm_G.cs rfl rfl rfl ?_
    refine qm_C.go (cd := qm_P3) (lv := [(0, qm_I (qm_i 0)), (1, qm_I (qm_i 3)), (2, qm_R ((qm_sio X)))]) rfl rfl ?_
    refine qm_G.s1 rfl (qm_x_iload rfl) ?_
    refine qm_G.s1 rfl (qm_x_if_lt_f ⟨by decide, by decide⟩ (by decide)) ?_
    refine qm_G.s1 rfl (qm_x_iload rfl) ?_
    refine qm_G.s1 rfl (qm_x_iload rfl) ?_
    refine qm_G.s1 rfl (qm_x_icmp_lt_t ⟨by decide, by decide⟩ ⟨by decide, by decide⟩ (by decide)) ?_
    refine qm_G.sp (lv1 := [(0, qm_I (qm_i 0))]) rfl rfl (qm_x_iload rfl) ?_
    refine qm_G.ret rfl rfl ⟨_, rfl, ?_⟩
    refine qm_G.s1 rfl (qm_x_popI) ?_
    refine qm_G.retv rfl ⟨rfl, ?_⟩
    refine qm_G.s1 rfl (qm_x_aload rfl) ?_
    refine qm_G.s1 rfl (qm_x_iload rfl) ?_
    refine qm_G.s1 rfl (qm_x_bald1 (len := 3) (v := 98) rfl rfl (by omega) (by omega) (by rw [show Int.toNat 0 = 0 by omega]; rfl)) ?_
    refine qm_G.s1 rfl (qm_x_pushI 255 rfl) ?_
    refine qm_G.s1 rfl (qm_x_iand255 (by omega)) ?_
    refine qm_G.s1 rfl (qm_x_i2c (by omega)) ?_
    refine qm_G.ret rfl rfl ⟨_, rfl, ?_⟩
    refine qm_G.ret rfl rfl ⟨_, rfl, ?_⟩
    refine qm_y_icmp_eq rfl ⟨by omega, by omega⟩ ⟨by decide, by decide⟩ (fun c3 => ?_) (fun c3 => ?_)
    · refine qm_G.sp (lv1 := [(0, qm_R (some (0, 61, 0))), (1, qm_I (qm_i x)), (2, qm_R (some (1, 12, 0))), (3, qm_I (qm_i 0))]) rfl rfl (qm_x_iinc (lv' := [(3, qm_I (qm_i (0 + 1))), (0, qm_R (some (0, 61, 0))), (1, qm_I (qm_i x)), (2, qm_R (some (1, 12, 0)))]) 1 rfl rfl rfl) ?_
      refine qm_G.s1 rfl (qm_x_goto) ?_
      refine qm_G.sp (lv1 := [(0, qm_R (some (0, 61, 0))), (1, qm_I (qm_i x)), (2, qm_R (some (1, 12, 0))), (3, qm_I (qm_i (0 + 1)))]) rfl rfl (qm_x_iload rfl) ?_
      refine qm_G.s1 rfl (qm_x_aload rfl) ?_
      refine qm_G.call rfl rfl rfl ?_
      refine qm_C.go (cd := qm_P53) (lv := [(0, qm_R (some (1, 12, 0)))]) rfl rfl ?_
      refine qm_G.s1 rfl (qm_x_aload rfl) ?_
      refine qm_G.s1 rfl (qm_x_getgR rfl rfl) ?_
      refine qm_G.s1 rfl (qm_x_alen1 (len := 3) rfl) ?_
      refine qm_G.s1 rfl (qm_x_aload rfl) ?_
      refine qm_G.call rfl rfl rfl ?_
      refine qm_C.go (cd := qm_P0) (lv := [(0, qm_R (some (1, 12, 0)))]) rfl rfl ?_
      refine qm_G.s1 rfl (qm_x_pushI 1 rfl) ?_
      refine qm_G.s1 rfl (qm_x_if_eq_f ⟨by decide, by decide⟩ (by decide)) ?_
      refine qm_G.s1 rfl (qm_x_aload rfl) ?_
      refine qm_G.s1 rfl (qm_x_getgI (v := 0) rfl rfl) ?_
      refine qm_G.s1 rfl (qm_x_goto) ?_
      refine qm_G.ret rfl rfl ⟨_, rfl, ?_⟩
      refine qm_G.s1 rfl (qm_x_ishr0) ?_
      refine qm_G.ret rfl rfl ⟨_, rfl, ?_⟩
      refine qm_G.s1 rfl (qm_x_icmp_ge_f ⟨by omega, by omega⟩ ⟨by decide, by decide⟩ (by omega)) ?_
      refine qm_G.s1 rfl (qm_x_aload rfl) ?_
      refine qm_G.s1 rfl (qm_x_getfR (q := (some (0, 69, 0))) (hS 61 rfl) (hR 61 13 69 rfl rfl)) ?_
      refine qm_G.s1 rfl (qm_x_iload rfl) ?_
      refine qm_G.s1 rfl (qm_x_iload rfl) ?_
      refine qm_G.s1 rfl (qm_x_iadd) ?_
      have gT4 := (hT (a + 1) (by omega)).2
      refine qm_G.s1 rfl (qm_x_iald (v := (T (a + 1))) (qm_arS hS rfl rfl) rfl (by omega) (by omega) (by decide) (Eq.trans (congrArg (J 69 0) (by omega)) (hT (a + 1) (by omega)).1)) ?_
      refine qm_G.s1 rfl (qm_x_aload rfl) ?_
      refine qm_G.s1 rfl (qm_x_iload rfl) ?_
      refine qm_G.call rfl rfl rfl ?_
      refine qm_C.go (cd := qm_P162) (lv := [(0, qm_R (some (1, 12, 0))), (1, qm_I (qm_i (0 + 1)))]) rfl rfl ?_
      refine qm_G.s1 rfl (qm_x_aload rfl) ?_
      refine qm_G.call rfl rfl rfl ?_
      refine qm_C.go (cd := qm_P1) (lv := [(0, qm_R (some (1, 12, 0)))]) rfl rfl ?_
      refine qm_G.s1 rfl (qm_x_pushI 1 rfl) ?_
      refine qm_G.s1 rfl (qm_x_if_eq_f ⟨by decide, by decide⟩ (by decide)) ?_
      refine qm_G.s1 rfl (qm_x_aload rfl) ?_
      refine qm_G.s1 rfl (qm_x_getgI (v := 0) rfl rfl) ?_
      refine qm_G.s1 rfl (qm_x_if_ne_f ⟨by decide, by decide⟩ (by decide)) ?_
      refine qm_G.s1 rfl (qm_x_pushI 1 rfl) ?_
      refine qm_G.s1 rfl (qm_x_goto) ?_
      refine qm_G.ret rfl rfl ⟨_, rfl, ?_⟩
      refine qm_G.s1 rfl (qm_x_if_eq_f ⟨by decide, by decide⟩ (by decide)) ?_
      refine qm_G.s1 rfl (qm_x_aload rfl) ?_
      refine qm_G.s1 rfl (qm_x_getgR rfl rfl) ?_
      refine qm_G.s1 rfl (qm_x_iload rfl) ?_
      refine qm_G.cs rfl rfl rfl ?_
      refine qm_C.go (cd := qm_P134) (lv := [(0, qm_R (some (1, 25, 0))), (1, qm_I (qm_i (0 + 1)))]) rfl rfl ?_
      refine qm_G.s1 rfl (qm_x_iload rfl) ?_
      refine qm_G.s1 rfl (qm_x_aload rfl) ?_
      refine qm_G.s1 rfl (qm_x_alen1 (len := 3) rfl) ?_
      refine qm_G.csv rfl rfl rfl ?_
      refine qm_C.go (cd := qm_P69) (lv := [(0, qm_I (qm_i (0 + 1))), (1, qm_I (qm_i 3))]) rfl rfl ?_
      refine qm_G.s1 rfl (qm_x_iload rfl) ?_
      refine qm_G.s1 rfl (qm_x_iload rfl) ?_
      refine qm_G.s1 rfl (show qm_St (qm_o_sio 5) _ _ _ _ _ (qm_R (qm_sio X) :: _) _ from rfl) ?_
      refine qm_G.cs rfl rfl rfl ?_
      refine qm_C.go (cd := qm_P3) (lv := [(0, qm_I (qm_i (0 + 1))), (1, qm_I (qm_i 3)), (2, qm_R ((qm_sio X)))]) rfl rfl ?_
      refine qm_G.s1 rfl (qm_x_iload rfl) ?_
      refine qm_G.s1 rfl (qm_x_if_lt_f ⟨by omega, by omega⟩ (by omega)) ?_
      refine qm_G.s1 rfl (qm_x_iload rfl) ?_
      refine qm_G.s1 rfl (qm_x_iload rfl) ?_
      refine qm_G.s1 rfl (qm_x_icmp_lt_t ⟨by omega, by omega⟩ ⟨by decide, by decide⟩ (by omega)) ?_
      refine qm_G.sp (lv1 := [(0, qm_I (qm_i (0 + 1)))]) rfl rfl (qm_x_iload rfl) ?_
      refine qm_G.ret rfl rfl ⟨_, rfl, ?_⟩
      refine qm_G.s1 rfl (qm_x_popI) ?_
      refine qm_G.retv rfl ⟨rfl, ?_⟩
      refine qm_G.s1 rfl (qm_x_aload rfl) ?_
      refine qm_G.s1 rfl (qm_x_iload rfl) ?_
      refine qm_G.s1 rfl (qm_x_bald1 (len := 3) (v := 105) rfl rfl (by omega) (by omega) (by rw [show Int.toNat (0 + 1) = 1 by omega]; rfl)) ?_
      refine qm_G.s1 rfl (qm_x_pushI 255 rfl) ?_
      refine qm_G.s1 rfl (qm_x_iand255 (by omega)) ?_
      refine qm_G.s1 rfl (qm_x_i2c (by omega)) ?_
      refine qm_G.ret rfl rfl ⟨_, rfl, ?_⟩
      refine qm_G.ret rfl rfl ⟨_, rfl, ?_⟩
      refine qm_y_icmp_eq rfl ⟨by omega, by omega⟩ ⟨by decide, by decide⟩ (fun c5 => ?_) (fun c5 => ?_)
      · refine qm_G.sp (lv1 := [(0, qm_R (some (0, 61, 0))), (1, qm_I (qm_i x)), (2, qm_R (some (1, 12, 0))), (3, qm_I (qm_i (0 + 1)))]) rfl rfl (qm_x_iinc (lv' := [(3, qm_I (qm_i ((0 + 1) + 1))), (0, qm_R (some (0, 61, 0))), (1, qm_I (qm_i x)), (2, qm_R (some (1, 12, 0)))]) 1 rfl rfl rfl) ?_
        refine qm_G.s1 rfl (qm_x_goto) ?_
        refine qm_G.sp (lv1 := [(0, qm_R (some (0, 61, 0))), (1, qm_I (qm_i x)), (2, qm_R (some (1, 12, 0))), (3, qm_I (qm_i ((0 + 1) + 1)))]) rfl rfl (qm_x_iload rfl) ?_
        refine qm_G.s1 rfl (qm_x_aload rfl) ?_
        refine qm_G.call rfl rfl rfl ?_
        refine qm_C.go (cd := qm_P53) (lv := [(0, qm_R (some (1, 12, 0)))]) rfl rfl ?_
        refine qm_G.s1 rfl (qm_x_aload rfl) ?_
        refine qm_G.s1 rfl (qm_x_getgR rfl rfl) ?_
        refine qm_G.s1 rfl (qm_x_alen1 (len := 3) rfl) ?_
        refine qm_G.s1 rfl (qm_x_aload rfl) ?_
        refine qm_G.call rfl rfl rfl ?_
        refine qm_C.go (cd := qm_P0) (lv := [(0, qm_R (some (1, 12, 0)))]) rfl rfl ?_
        refine qm_G.s1 rfl (qm_x_pushI 1 rfl) ?_
        refine qm_G.s1 rfl (qm_x_if_eq_f ⟨by decide, by decide⟩ (by decide)) ?_
        refine qm_G.s1 rfl (qm_x_aload rfl) ?_
        refine qm_G.s1 rfl (qm_x_getgI (v := 0) rfl rfl) ?_
        refine qm_G.s1 rfl (qm_x_goto) ?_
        refine qm_G.ret rfl rfl ⟨_, rfl, ?_⟩
        refine qm_G.s1 rfl (qm_x_ishr0) ?_
        refine qm_G.ret rfl rfl ⟨_, rfl, ?_⟩
        refine qm_G.s1 rfl (qm_x_icmp_ge_f ⟨by omega, by omega⟩ ⟨by decide, by decide⟩ (by omega)) ?_
        refine qm_G.s1 rfl (qm_x_aload rfl) ?_
        refine qm_G.s1 rfl (qm_x_getfR (q := (some (0, 69, 0))) (hS 61 rfl) (hR 61 13 69 rfl rfl)) ?_
        refine qm_G.s1 rfl (qm_x_iload rfl) ?_
        refine qm_G.s1 rfl (qm_x_iload rfl) ?_
        refine qm_G.s1 rfl (qm_x_iadd) ?_
        have gT6 := (hT (a + 2) (by omega)).2
        refine qm_G.s1 rfl (qm_x_iald (v := (T (a + 2))) (qm_arS hS rfl rfl) rfl (by omega) (by omega) (by decide) (Eq.trans (congrArg (J 69 0) (by omega)) (hT (a + 2) (by omega)).1)) ?_
        refine qm_G.s1 rfl (qm_x_aload rfl) ?_
        refine qm_G.s1 rfl (qm_x_iload rfl) ?_
        refine qm_G.call rfl rfl rfl ?_
        refine qm_C.go (cd := qm_P162) (lv := [(0, qm_R (some (1, 12, 0))), (1, qm_I (qm_i ((0 + 1) + 1)))]) rfl rfl ?_
        refine qm_G.s1 rfl (qm_x_aload rfl) ?_
        refine qm_G.call rfl rfl rfl ?_
        refine qm_C.go (cd := qm_P1) (lv := [(0, qm_R (some (1, 12, 0)))]) rfl rfl ?_
        refine qm_G.s1 rfl (qm_x_pushI 1 rfl) ?_
        refine qm_G.s1 rfl (qm_x_if_eq_f ⟨by decide, by decide⟩ (by decide)) ?_
        refine qm_G.s1 rfl (qm_x_aload rfl) ?_
        refine qm_G.s1 rfl (qm_x_getgI (v := 0) rfl rfl) ?_
        refine qm_G.s1 rfl (qm_x_if_ne_f ⟨by decide, by decide⟩ (by decide)) ?_
        refine qm_G.s1 rfl (qm_x_pushI 1 rfl) ?_
        refine qm_G.s1 rfl (qm_x_goto) ?_
        refine qm_G.ret rfl rfl ⟨_, rfl, ?_⟩
        refine qm_G.s1 rfl (qm_x_if_eq_f ⟨by decide, by decide⟩ (by decide)) ?_
        refine qm_G.s1 rfl (qm_x_aload rfl) ?_
        refine qm_G.s1 rfl (qm_x_getgR rfl rfl) ?_
        refine qm_G.s1 rfl (qm_x_iload rfl) ?_
        refine qm_G.cs rfl rfl rfl ?_
        refine qm_C.go (cd := qm_P134) (lv := [(0, qm_R (some (1, 25, 0))), (1, qm_I (qm_i ((0 + 1) + 1)))]) rfl rfl ?_
        refine qm_G.s1 rfl (qm_x_iload rfl) ?_
        refine qm_G.s1 rfl (qm_x_aload rfl) ?_
        refine qm_G.s1 rfl (qm_x_alen1 (len := 3) rfl) ?_
        refine qm_G.csv rfl rfl rfl ?_
        refine qm_C.go (cd := qm_P69) (lv := [(0, qm_I (qm_i ((0 + 1) + 1))), (1, qm_I (qm_i 3))]) rfl rfl ?_
        refine qm_G.s1 rfl (qm_x_iload rfl) ?_
        refine qm_G.s1 rfl (qm_x_iload rfl) ?_
        refine qm_G.s1 rfl (show qm_St (qm_o_sio 5) _ _ _ _ _ (qm_R (qm_sio X) :: _) _ from rfl) ?_
        refine qm_G.cs rfl rfl rfl ?_
        refine qm_C.go (cd := qm_P3) (lv := [(0, qm_I (qm_i ((0 + 1) + 1))), (1, qm_I (qm_i 3)), (2, qm_R ((qm_sio X)))]) rfl rfl ?_
        refine qm_G.s1 rfl (qm_x_iload rfl) ?_
        refine qm_G.s1 rfl (qm_x_if_lt_f ⟨by omega, by omega⟩ (by omega)) ?_
        refine qm_G.s1 rfl (qm_x_iload rfl) ?_
        refine qm_G.s1 rfl (qm_x_iload rfl) ?_
        refine qm_G.s1 rfl (qm_x_icmp_lt_t ⟨by omega, by omega⟩ ⟨by decide, by decide⟩ (by omega)) ?_
        refine qm_G.sp (lv1 := [(0, qm_I (qm_i ((0 + 1) + 1)))]) rfl rfl (qm_x_iload rfl) ?_
        refine qm_G.ret rfl rfl ⟨_, rfl, ?_⟩
        refine qm_G.s1 rfl (qm_x_popI) ?_
        refine qm_G.retv rfl ⟨rfl, ?_⟩
        refine qm_G.s1 rfl (qm_x_aload rfl) ?_
        refine qm_G.s1 rfl (qm_x_iload rfl) ?_
        refine qm_G.s1 rfl (qm_x_bald1 (len := 3) (v := 100) rfl rfl (by omega) (by omega) (by rw [show Int.toNat ((0 + 1) + 1) = 2 by omega]; rfl)) ?_
        refine qm_G.s1 rfl (qm_x_pushI 255 rfl) ?_
        refine qm_G.s1 rfl (qm_x_iand255 (by omega)) ?_
        refine qm_G.s1 rfl (qm_x_i2c (by omega)) ?_
        refine qm_G.ret rfl rfl ⟨_, rfl, ?_⟩
        refine qm_G.ret rfl rfl ⟨_, rfl, ?_⟩
        refine qm_y_icmp_eq rfl ⟨by omega, by omega⟩ ⟨by decide, by decide⟩ (fun c7 => ?_) (fun c7 => ?_)
        · refine qm_G.sp (lv1 := [(0, qm_R (some (0, 61, 0))), (1, qm_I (qm_i x)), (2, qm_R (some (1, 12, 0))), (3, qm_I (qm_i ((0 + 1) + 1)))]) rfl rfl (qm_x_iinc (lv' := [(3, qm_I (qm_i (((0 + 1) + 1) + 1))), (0, qm_R (some (0, 61, 0))), (1, qm_I (qm_i x)), (2, qm_R (some (1, 12, 0)))]) 1 rfl rfl rfl) ?_
          refine qm_G.s1 rfl (qm_x_goto) ?_
          refine qm_G.sp (lv1 := [(0, qm_R (some (0, 61, 0))), (1, qm_I (qm_i x)), (2, qm_R (some (1, 12, 0))), (3, qm_I (qm_i (((0 + 1) + 1) + 1)))]) rfl rfl (qm_x_iload rfl) ?_
          refine qm_G.s1 rfl (qm_x_aload rfl) ?_
          refine qm_G.call rfl rfl rfl ?_
          refine qm_C.go (cd := qm_P53) (lv := [(0, qm_R (some (1, 12, 0)))]) rfl rfl ?_
          refine qm_G.s1 rfl (qm_x_aload rfl) ?_
          refine qm_G.s1 rfl (qm_x_getgR rfl rfl) ?_
          refine qm_G.s1 rfl (qm_x_alen1 (len := 3) rfl) ?_
          refine qm_G.s1 rfl (qm_x_aload rfl) ?_
          refine qm_G.call rfl rfl rfl ?_
          refine qm_C.go (cd := qm_P0) (lv := [(0, qm_R (some (1, 12, 0)))]) rfl rfl ?_
          refine qm_G.s1 rfl (qm_x_pushI 1 rfl) ?_
          refine qm_G.s1 rfl (qm_x_if_eq_f ⟨by decide, by decide⟩ (by decide)) ?_
          refine qm_G.s1 rfl (qm_x_aload rfl) ?_
          refine qm_G.s1 rfl (qm_x_getgI (v := 0) rfl rfl) ?_
          refine qm_G.s1 rfl (qm_x_goto) ?_
          refine qm_G.ret rfl rfl ⟨_, rfl, ?_⟩
          refine qm_G.s1 rfl (qm_x_ishr0) ?_
          refine qm_G.ret rfl rfl ⟨_, rfl, ?_⟩
          refine qm_G.s1 rfl (qm_x_icmp_ge_t ⟨by omega, by omega⟩ ⟨by decide, by decide⟩ (by omega)) ?_
          refine qm_G.sp (lv1 := []) rfl rfl (qm_x_pushI 1 rfl) ?_
          refine qm_G.ret rfl rfl (k1 ?_)
          refine ⟨by show e = a + 3; omega, fun j hj => ?_⟩
          change j < 3 at hj
          rcases (show j = 0 ∨ j = 1 ∨ j = 2 by omega) with c9 | c9 | c9
          · subst c9; exact (show T (a + 0) = 98 by omega)
          · subst c9; exact (show T (a + 1) = 105 by omega)
          · subst c9; exact (show T (a + 2) = 100 by omega)
        · refine qm_G.s1 rfl (qm_x_pushI 0 rfl) ?_
          exact qm_G.ret rfl rfl (k0 (fun h => by have h9 : T (a + 2) = 100 := h.2 2 (by decide); omega))
      · refine qm_G.s1 rfl (qm_x_pushI 0 rfl) ?_
        exact qm_G.ret rfl rfl (k0 (fun h => by have h9 : T (a + 1) = 105 := h.2 1 (by decide); omega))
    · refine qm_G.s1 rfl (qm_x_pushI 0 rfl) ?_
      exact qm_G.ret rfl rfl (k0 (fun h => by have h9 : T (a + 0) = 98 := h.2 0 (by decide); omega))
  · refine qm_G.s1 rfl (qm_x_pushI 0 rfl) ?_
    exact qm_G.ret rfl rfl (k0 (fun h => by have h9 : e = a + 3 := h.1; omega))
theorem qm_m_isw1 {S : List qm_Sh} {K : qm_J} {L : qm_Ct Int64} {D : qm_Ct UInt64} {R : qm_Ct (Option qm_Rf)} {X : Nat × (Nat → Int32)} {Q : Option qm_V → qm_Hp → Prop} {T : Nat → Int} {ln : Int} {J : qm_J} {x : Int} {a e : Nat} (hS : qm_Sd S) (hR : qm_Rd R) (hT : ∀ i, i < 100 → J 69 0 i = T i ∧ 0 ≤ T i ∧ T i ≤ 127) (rl : 0 ≤ ln ∧ ln ≤ 100) (hl : J 61 0 12 = ln) (hx : x = (a : Int)) (h16 : J 61 0 16 = (e : Int)) (h1 : a ≤ e ∧ e ≤ 100) (k1 : qm_isw T a e 1 → Q (some (qm_I (qm_i 1))) (qm_H S J K L D R X)) (k0 : ¬ qm_isw T a e 1 → Q (some (qm_I (qm_i 0))) (qm_H S J K L D R X)) : qm_C qm_P 175 [qm_R (some (0, 61, 0)), qm_I (qm_i x), qm_R (some (1, 13, 0))] (qm_H S J K L D R X) Q := by
  refine qm_C.go (cd := qm_P175) (lv := [(0, qm_R (some (0, 61, 0))), (1, qm_I (qm_i x)), (2, qm_R (some (1, 13, 0)))]) rfl rfl ?_
  refine qm_G.s1 rfl (qm_x_aload rfl) ?_
  refine qm_G.s1 rfl (qm_x_getfI (v := (e : Int)) (hS 61 rfl) h16) ?_
  refine qm_G.s1 rfl (qm_x_iload rfl) ?_
  refine qm_G.s1 rfl (qm_x_isub) ?_
  refine qm_G.s1 rfl (qm_x_aload rfl) ?_
  refine qm_G.call rfl rfl rfl ?_
  refine qm_C.go (cd := qm_P53) (lv := [(0, qm_R (some (1, 13, 0)))]) rfl rfl ?_
  refine qm_G.s1 rfl (qm_x_aload rfl) ?_
  refine qm_G.s1 rfl (qm_x_getgR rfl rfl) ?_
  refine qm_G.s1 rfl (qm_x_alen1 (len := 3) rfl) ?_
  refine qm_G.s1 rfl (qm_x_aload rfl) ?_
  refine qm_G.call rfl rfl rfl ?_
  refine qm_C.go (cd := qm_P0) (lv := [(0, qm_R (some (1, 13, 0)))]) rfl rfl ?_
  refine qm_G.s1 rfl (qm_x_pushI 1 rfl) ?_
  refine qm_G.s1 rfl (qm_x_if_eq_f ⟨by decide, by decide⟩ (by decide)) ?_
  refine qm_G.s1 rfl (qm_x_aload rfl) ?_
  refine qm_G.s1 rfl (qm_x_getgI (v := 0) rfl rfl) ?_
  refine qm_G.s1 rfl (qm_x_goto) ?_
  refine qm_G.ret rfl rfl ⟨_, rfl, ?_⟩
  refine qm_G.s1 rfl (qm_x_ishr0) ?_
  refine qm_G.ret rfl rfl ⟨_, rfl, ?_⟩
  refine qm_y_icmp_eq rfl ⟨by omega, by omega⟩ ⟨by decide, by decide⟩ (fun c1 => ?_) (fun c1 => ?_)
  · refine qm_G.sp (lv1 := [(0, qm_R (some (0, 61, 0))), (1, qm_I (qm_i x)), (2, qm_R (some (1, 13, 0)))]) rfl rfl (qm_x_pushI 0 rfl) ?_
    refine qm_G.s1 rfl (qm_x_istore (lv' := [(3, qm_I (qm_i 0)), (0, qm_R (some (0, 61, 0))), (1, qm_I (qm_i x)), (2, qm_R (some (1, 13, 0)))]) rfl) ?_
    refine qm_G.sp (lv1 := [(0, qm_R (some (0, 61, 0))), (1, qm_I (qm_i x)), (2, qm_R (some (1, 13, 0))), (3, qm_I (qm_i 0))]) rfl rfl (qm_x_iload rfl) ?_
    refine qm_G.s1 rfl (qm_x_aload rfl) ?_
    refine qm_G.call rfl rfl rfl ?_
    refine qm_C.go (cd := qm_P53) (lv := [(0, qm_R (some (1, 13, 0)))]) rfl rfl ?_
    refine qm_G.s1 rfl (qm_x_aload rfl) ?_
    refine qm_G.s1 rfl (qm_x_getgR rfl rfl) ?_
    refine qm_G.s1 rfl (qm_x_alen1 (len := 3) rfl) ?_
    refine qm_G.s1 rfl (qm_x_aload rfl) ?_
    refine qm_G.call rfl rfl rfl ?_
    refine qm_C.go (cd := qm_P0) (lv := [(0, qm_R (some (1, 13, 0)))]) rfl rfl ?_
    refine qm_G.s1 rfl (qm_x_pushI 1 rfl) ?_
    refine qm_G.s1 rfl (qm_x_if_eq_f ⟨by decide, by decide⟩ (by decide)) ?_
    refine qm_G.s1 rfl (qm_x_aload rfl) ?_
    refine qm_G.s1 rfl (qm_x_getgI (v := 0) rfl rfl) ?_
    refine qm_G.s1 rfl (qm_x_goto) ?_
    refine qm_G.ret rfl rfl ⟨_, rfl, ?_⟩
    refine qm_G.s1 rfl (qm_x_ishr0) ?_
    refine qm_G.ret rfl rfl ⟨_, rfl, ?_⟩
    refine qm_G.s1 rfl (qm_x_icmp_ge_f ⟨by decide, by decide⟩ ⟨by decide, by decide⟩ (by decide)) ?_
    refine qm_G.s1 rfl (qm_x_aload rfl) ?_
    refine qm_G.s1 rfl (qm_x_getfR (q := (some (0, 69, 0))) (hS 61 rfl) (hR 61 13 69 rfl rfl)) ?_
    refine qm_G.s1 rfl (qm_x_iload rfl) ?_
    refine qm_G.s1 rfl (qm_x_iload rfl) ?_
    refine qm_G.s1 rfl (qm_x_iadd) ?_
    have gT2 := (hT (a + 0) (by omega)).2
    refine qm_G.s1 rfl (qm_x_iald (v := (T (a + 0))) (qm_arS hS rfl rfl) rfl (by omega) (by omega) (by decide) (Eq.trans (congrArg (J 69 0) (by omega)) (hT (a + 0) (by omega)).1)) ?_
    refine qm_G.s1 rfl (qm_x_aload rfl) ?_
    refine qm_G.s1 rfl (qm_x_iload rfl) ?_
    refine qm_G.call rfl rfl rfl ?_
    refine qm_C.go (cd := qm_P162) (lv := [(0, qm_R (some (1, 13, 0))), (1, qm_I (qm_i 0))]) rfl rfl ?_
    refine qm_G.s1 rfl (qm_x_aload rfl) ?_
    refine qm_G.call rfl rfl rfl ?_
    refine qm_C.go (cd := qm_P1) (lv := [(0, qm_R (some (1, 13, 0)))]) rfl rfl ?_
    refine qm_G.s1 rfl (qm_x_pushI 1 rfl) ?_
    refine qm_G.s1 rfl (qm_x_if_eq_f ⟨by decide, by decide⟩ (by decide)) ?_
    refine qm_G.s1 rfl (qm_x_aload rfl) ?_
    refine qm_G.s1 rfl (qm_x_getgI (v := 0) rfl rfl) ?_
    refine qm_G.s1 rfl (qm_x_if_ne_f ⟨by decide, by decide⟩ (by decide)) ?_
    refine qm_G.s1 rfl (qm_x_pushI 1 rfl) ?_
    refine qm_G.s1 rfl (qm_x_goto) ?_
    refine qm_G.ret rfl rfl ⟨_, rfl, ?_⟩
    refine qm_G.s1 rfl (qm_x_if_eq_f ⟨by decide, by decide⟩ (by decide)) ?_
    refine qm_G.s1 rfl (qm_x_aload rfl) ?_
    refine qm_G.s1 rfl (qm_x_getgR rfl rfl) ?_
    refine qm_G.s1 rfl (qm_x_iload rfl) ?_
    refine qm_G.cs rfl rfl rfl ?_
    refine qm_C.go (cd := qm_P134) (lv := [(0, qm_R (some (1, 26, 0))), (1, qm_I (qm_i 0))]) rfl rfl ?_
    refine qm_G.s1 rfl (qm_x_iload rfl) ?_
    refine qm_G.s1 rfl (qm_x_aload rfl) ?_
    refine qm_G.s1 rfl (qm_x_alen1 (len := 3) rfl) ?_
    refine qm_G.csv rfl rfl rfl ?_
    refine qm_C.go (cd := qm_P69) (lv := [(0, qm_I (qm_i 0)), (1, qm_I (qm_i 3))]) rfl rfl ?_
    refine qm_G.s1 rfl (qm_x_iload rfl) ?_
    refine qm_G.s1 rfl (qm_x_iload rfl) ?_
    refine qm_G.s1 rfl (show qm_St (qm_o_sio 5) _ _ _ _ _ (qm_R (qm_sio X) :: _) _ from rfl) ?_
    refine qm_G.cs rfl rfl rfl ?_
    refine qm_C.go (cd := qm_P3) (lv := [(0, qm_I (qm_i 0)), (1, qm_I (qm_i 3)), (2, qm_R ((qm_sio X)))]) rfl rfl ?_
    refine qm_G.s1 rfl (qm_x_iload rfl) ?_
    refine qm_G.s1 rfl (qm_x_if_lt_f ⟨by decide, by decide⟩ (by decide)) ?_
    refine qm_G.s1 rfl (qm_x_iload rfl) ?_
    refine qm_G.s1 rfl (qm_x_iload rfl) ?_
    refine qm_G.s1 rfl (qm_x_icmp_lt_t ⟨by decide, by decide⟩ ⟨by decide, by decide⟩ (by decide)) ?_
    refine qm_G.sp (lv1 := [(0, qm_I (qm_i 0))]) rfl rfl (qm_x_iload rfl) ?_
    refine qm_G.ret rfl rfl ⟨_, rfl, ?_⟩
    refine qm_G.s1 rfl (qm_x_popI) ?_
    refine qm_G.retv rfl ⟨rfl, ?_⟩
    refine qm_G.s1 rfl (qm_x_aload rfl) ?_
    refine qm_G.s1 rfl (qm_x_iload rfl) ?_
    refine qm_G.s1 rfl (qm_x_bald1 (len := 3) (v := 97) rfl rfl (by omega) (by omega) (by rw [show Int.toNat 0 = 0 by omega]; rfl)) ?_
    refine qm_G.s1 rfl (qm_x_pushI 255 rfl) ?_
    refine qm_G.s1 rfl (qm_x_iand255 (by omega)) ?_
    refine qm_G.s1 rfl (qm_x_i2c (by omega)) ?_
    refine qm_G.ret rfl rfl ⟨_, rfl, ?_⟩
    refine qm_G.ret rfl rfl ⟨_, rfl, ?_⟩
    refine qm_y_icmp_eq rfl ⟨by omega, by omega⟩ ⟨by decide, by decide⟩ (fun c3 => ?_) (fun c3 => ?_)
    · refine qm_G.sp (lv1 := [(0, qm_R (some (0, 61, 0))), (1, qm_I (qm_i x)), (2, qm_R (some (1, 13, 0))), (3, qm_I (qm_i 0))]) rfl rfl (qm_x_iinc (lv' := [(3, qm_I (qm_i (0 + 1))), (0, qm_R (some (0, 61, 0))), (1, qm_I (qm_i x)), (2, qm_R (some (1, 13, 0)))]) 1 rfl rfl rfl) ?_
      refine qm_G.s1 rfl (qm_x_goto) ?_
      refine qm_G.sp (lv1 := [(0, qm_R (some (0, 61, 0))), (1, qm_I (qm_i x)), (2, qm_R (some (1, 13, 0))), (3, qm_I (qm_i (0 + 1)))]) rfl rfl (qm_x_iload rfl) ?_
      refine qm_G.s1 rfl (qm_x_aload rfl) ?_
      refine qm_G.call rfl rfl rfl ?_
      refine qm_C.go (cd := qm_P53) (lv := [(0, qm_R (some (1, 13, 0)))]) rfl rfl ?_
      refine qm_G.s1 rfl (qm_x_aload rfl) ?_
      refine qm_G.s1 rfl (qm_x_getgR rfl rfl) ?_
      refine qm_G.s1 rfl (qm_x_alen1 (len := 3) rfl) ?_
      refine qm_G.s1 rfl (qm_x_aload rfl) ?_
      refine qm_G.call rfl rfl rfl ?_
      refine qm_C.go (cd := qm_P0) (lv := [(0, qm_R (some (1, 13, 0)))]) rfl rfl ?_
      refine qm_G.s1 rfl (qm_x_pushI 1 rfl) ?_
      refine qm_G.s1 rfl (qm_x_if_eq_f ⟨by decide, by decide⟩ (by decide)) ?_
      refine qm_G.s1 rfl (qm_x_aload rfl) ?_
      refine qm_G.s1 rfl (qm_x_getgI (v := 0) rfl rfl) ?_
      refine qm_G.s1 rfl (qm_x_goto) ?_
      refine qm_G.ret rfl rfl ⟨_, rfl, ?_⟩
      refine qm_G.s1 rfl (qm_x_ishr0) ?_
      refine qm_G.ret rfl rfl ⟨_, rfl, ?_⟩
      refine qm_G.s1 rfl (qm_x_icmp_ge_f ⟨by omega, by omega⟩ ⟨by decide, by decide⟩ (by omega)) ?_
      refine qm_G.s1 rfl (qm_x_aload rfl) ?_
      refine qm_G.s1 rfl (qm_x_getfR (q := (some (0, 69, 0))) (hS 61 rfl) (hR 61 13 69 rfl rfl)) ?_
      refine qm_G.s1 rfl (qm_x_iload rfl) ?_
      refine qm_G.s1 rfl (qm_x_iload rfl) ?_
      refine qm_G.s1 rfl (qm_x_iadd) ?_
      have gT4 := (hT (a + 1) (by omega)).2
      refine qm_G.s1 rfl (qm_x_iald (v := (T (a + 1))) (qm_arS hS rfl rfl) rfl (by omega) (by omega) (by decide) (Eq.trans (congrArg (J 69 0) (by omega)) (hT (a + 1) (by omega)).1)) ?_
      refine qm_G.s1 rfl (qm_x_aload rfl) ?_
      refine qm_G.s1 rfl (qm_x_iload rfl) ?_
      refine qm_G.call rfl rfl rfl ?_
      refine qm_C.go (cd := qm_P162) (lv := [(0, qm_R (some (1, 13, 0))), (1, qm_I (qm_i (0 + 1)))]) rfl rfl ?_
      refine qm_G.s1 rfl (qm_x_aload rfl) ?_
      refine qm_G.call rfl rfl rfl ?_
      refine qm_C.go (cd := qm_P1) (lv := [(0, qm_R (some (1, 13, 0)))]) rfl rfl ?_
      refine qm_G.s1 rfl (qm_x_pushI 1 rfl) ?_
      refine qm_G.s1 rfl (qm_x_if_eq_f ⟨by decide, by decide⟩ (by decide)) ?_
      refine qm_G.s1 rfl (qm_x_aload rfl) ?_
      refine qm_G.s1 rfl (qm_x_getgI (v := 0) rfl rfl) ?_
      refine qm_G.s1 rfl (qm_x_if_ne_f ⟨by decide, by decide⟩ (by decide)) ?_
      refine qm_G.s1 rfl (qm_x_pushI 1 rfl) ?_
      refine qm_G.s1 rfl (qm_x_goto) ?_
      refine qm_G.ret rfl rfl ⟨_, rfl, ?_⟩
      refine qm_G.s1 rfl (qm_x_if_eq_f ⟨by decide, by decide⟩ (by decide)) ?_
      refine qm_G.s1 rfl (qm_x_aload rfl) ?_
      refine qm_G.s1 rfl (qm_x_getgR rfl rfl) ?_
      refine qm_G.s1 rfl (qm_x_iload rfl) ?_
      refine qm_G.cs rfl rfl rfl ?_
      refine qm_C.go (cd := qm_P134) (lv := [(0, qm_R (some (1, 26, 0))), (1, qm_I (qm_i (0 + 1)))]) rfl rfl ?_
      refine qm_G.s1 rfl (qm_x_iload rfl) ?_
      refine qm_G.s1 rfl (qm_x_aload rfl) ?_
      refine qm_G.s1 rfl (qm_x_alen1 (len := 3) rfl) ?_
      refine qm_G.csv rfl rfl rfl ?_
      refine qm_C.go (cd := qm_P69) (lv := [(0, qm_I (qm_i (0 + 1))), (1, qm_I (qm_i 3))]) rfl rfl ?_
      refine qm_G.s1 rfl (qm_x_iload rfl) ?_
      refine qm_G.s1 rfl (qm_x_iload rfl) ?_
      refine qm_G.s1 rfl (show qm_St (qm_o_sio 5) _ _ _ _ _ (qm_R (qm_sio X) :: _) _ from rfl) ?_
      refine qm_G.cs rfl rfl rfl ?_
      refine qm_C.go (cd := qm_P3) (lv := [(0, qm_I (qm_i (0 + 1))), (1, qm_I (qm_i 3)), (2, qm_R ((qm_sio X)))]) rfl rfl ?_
      refine qm_G.s1 rfl (qm_x_iload rfl) ?_
      refine qm_G.s1 rfl (qm_x_if_lt_f ⟨by omega, by omega⟩ (by omega)) ?_
      refine qm_G.s1 rfl (qm_x_iload rfl) ?_
      refine qm_G.s1 rfl (qm_x_iload rfl) ?_
      refine qm_G.s1 rfl (qm_x_icmp_lt_t ⟨by omega, by omega⟩ ⟨by decide, by decide⟩ (by omega)) ?_
      refine qm_G.sp (lv1 := [(0, qm_I (qm_i (0 + 1)))]) rfl rfl (qm_x_iload rfl) ?_
      refine qm_G.ret rfl rfl ⟨_, rfl, ?_⟩
      refine qm_G.s1 rfl (qm_x_popI) ?_
      refine qm_G.retv rfl ⟨rfl, ?_⟩
      refine qm_G.s1 rfl (qm_x_aload rfl) ?_
      refine qm_G.s1 rfl (qm_x_iload rfl) ?_
      refine qm_G.s1 rfl (qm_x_bald1 (len := 3) (v := 115) rfl rfl (by omega) (by omega) (by rw [show Int.toNat (0 + 1) = 1 by omega]; rfl)) ?_
      refine qm_G.s1 rfl (qm_x_pushI 255 rfl) ?_
      refine qm_G.s1 rfl (qm_x_iand255 (by omega)) ?_
      refine qm_G.s1 rfl (qm_x_i2c (by omega)) ?_
      refine qm_G.ret rfl rfl ⟨_, rfl, ?_⟩
      refine qm_G.ret rfl rfl ⟨_, rfl, ?_⟩
      refine qm_y_icmp_eq rfl ⟨by omega, by omega⟩ ⟨by decide, by decide⟩ (fun c5 => ?_) (fun c5 => ?_)
      · refine qm_G.sp (lv1 := [(0, qm_R (some (0, 61, 0))), (1, qm_I (qm_i x)), (2, qm_R (some (1, 13, 0))), (3, qm_I (qm_i (0 + 1)))]) rfl rfl (qm_x_iinc (lv' := [(3, qm_I (qm_i ((0 + 1) + 1))), (0, qm_R (some (0, 61, 0))), (1, qm_I (qm_i x)), (2, qm_R (some (1, 13, 0)))]) 1 rfl rfl rfl) ?_
        refine qm_G.s1 rfl (qm_x_goto) ?_
        refine qm_G.sp (lv1 := [(0, qm_R (some (0, 61, 0))), (1, qm_I (qm_i x)), (2, qm_R (some (1, 13, 0))), (3, qm_I (qm_i ((0 + 1) + 1)))]) rfl rfl (qm_x_iload rfl) ?_
        refine qm_G.s1 rfl (qm_x_aload rfl) ?_
        refine qm_G.call rfl rfl rfl ?_
        refine qm_C.go (cd := qm_P53) (lv := [(0, qm_R (some (1, 13, 0)))]) rfl rfl ?_
        refine qm_G.s1 rfl (qm_x_aload rfl) ?_
        refine qm_G.s1 rfl (qm_x_getgR rfl rfl) ?_
        refine qm_G.s1 rfl (qm_x_alen1 (len := 3) rfl) ?_
        refine qm_G.s1 rfl (qm_x_aload rfl) ?_
        refine qm_G.call rfl rfl rfl ?_
        refine qm_C.go (cd := qm_P0) (lv := [(0, qm_R (some (1, 13, 0)))]) rfl rfl ?_
        refine qm_G.s1 rfl (qm_x_pushI 1 rfl) ?_
        refine qm_G.s1 rfl (qm_x_if_eq_f ⟨by decide, by decide⟩ (by decide)) ?_
        refine qm_G.s1 rfl (qm_x_aload rfl) ?_
        refine qm_G.s1 rfl (qm_x_getgI (v := 0) rfl rfl) ?_
        refine qm_G.s1 rfl (qm_x_goto) ?_
        refine qm_G.ret rfl rfl ⟨_, rfl, ?_⟩
        refine qm_G.s1 rfl (qm_x_ishr0) ?_
        refine qm_G.ret rfl rfl ⟨_, rfl, ?_⟩
        refine qm_G.s1 rfl (qm_x_icmp_ge_f ⟨by omega, by omega⟩ ⟨by decide, by decide⟩ (by omega)) ?_
        refine qm_G.s1 rfl (qm_x_aload rfl) ?_
        refine qm_G.s1 rfl (qm_x_getfR (q := (some (0, 69, 0))) (hS 61 rfl) (hR 61 13 69 rfl rfl)) ?_
        refine qm_G.s1 rfl (qm_x_iload rfl) ?_
        refine qm_G.s1 rfl (qm_x_iload rfl) ?_
        refine qm_G.s1 rfl (qm_x_iadd) ?_
        have gT6 := (hT (a + 2) (by omega)).2
        refine qm_G.s1 rfl (qm_x_iald (v := (T (a + 2))) (qm_arS hS rfl rfl) rfl (by omega) (by omega) (by decide) (Eq.trans (congrArg (J 69 0) (by omega)) (hT (a + 2) (by omega)).1)) ?_
        refine qm_G.s1 rfl (qm_x_aload rfl) ?_
        refine qm_G.s1 rfl (qm_x_iload rfl) ?_
        refine qm_G.call rfl rfl rfl ?_
        refine qm_C.go (cd := qm_P162) (lv := [(0, qm_R (some (1, 13, 0))), (1, qm_I (qm_i ((0 + 1) + 1)))]) rfl rfl ?_
        refine qm_G.s1 rfl (qm_x_aload rfl) ?_
        refine qm_G.call rfl rfl rfl ?_
        refine qm_C.go (cd := qm_P1) (lv := [(0, qm_R (some (1, 13, 0)))]) rfl rfl ?_
        refine qm_G.s1 rfl (qm_x_pushI 1 rfl) ?_
        refine qm_G.s1 rfl (qm_x_if_eq_f ⟨by decide, by decide⟩ (by decide)) ?_
        refine qm_G.s1 rfl (qm_x_aload rfl) ?_
        refine qm_G.s1 rfl (qm_x_getgI (v := 0) rfl rfl) ?_
        refine qm_G.s1 rfl (qm_x_if_ne_f ⟨by decide, by decide⟩ (by decide)) ?_
        refine qm_G.s1 rfl (qm_x_pushI 1 rfl) ?_
        refine qm_G.s1 rfl (qm_x_goto) ?_
        refine qm_G.ret rfl rfl ⟨_, rfl, ?_⟩
        refine qm_G.s1 rfl (qm_x_if_eq_f ⟨by decide, by decide⟩ (by decide)) ?_
        refine qm_G.s1 rfl (qm_x_aload rfl) ?_
        refine qm_G.s1 rfl (qm_x_getgR rfl rfl) ?_
        refine qm_G.s1 rfl (qm_x_iload rfl) ?_
        refine qm_G.cs rfl rfl rfl ?_
        refine qm_C.go (cd := qm_P134) (lv := [(0, qm_R (some (1, 26, 0))), (1, qm_I (qm_i ((0 + 1) + 1)))]) rfl rfl ?_
        refine qm_G.s1 rfl (qm_x_iload rfl) ?_
        refine qm_G.s1 rfl (qm_x_aload rfl) ?_
        refine qm_G.s1 rfl (qm_x_alen1 (len := 3) rfl) ?_
        refine qm_G.csv rfl rfl rfl ?_
        refine qm_C.go (cd := qm_P69) (lv := [(0, qm_I (qm_i ((0 + 1) + 1))), (1, qm_I (qm_i 3))]) rfl rfl ?_
        refine qm_G.s1 rfl (qm_x_iload rfl) ?_
        refine qm_G.s1 rfl (qm_x_iload rfl) ?_
        refine qm_G.s1 rfl (show qm_St (qm_o_sio 5) _ _ _ _ _ (qm_R (qm_sio X) :: _) _ from rfl) ?_
        refine qm_G.cs rfl rfl rfl ?_
        refine qm_C.go (cd := qm_P3) (lv := [(0, qm_I (qm_i ((0 + 1) + 1))), (1, qm_I (qm_i 3)), (2, qm_R ((qm_sio X)))]) rfl rfl ?_
        refine qm_G.s1 rfl (qm_x_iload rfl) ?_
        refine qm_G.s1 rfl (qm_x_if_lt_f ⟨by omega, by omega⟩ (by omega)) ?_
        refine qm_G.s1 rfl (qm_x_iload rfl) ?_
        refine qm_G.s1 rfl (qm_x_iload rfl) ?_
        refine qm_G.s1 rfl (qm_x_icmp_lt_t ⟨by omega, by omega⟩ ⟨by decide, by decide⟩ (by omega)) ?_
        refine qm_G.sp (lv1 := [(0, qm_I (qm_i ((0 + 1) + 1)))]) rfl rfl (qm_x_iload rfl) ?_
        refine qm_G.ret rfl rfl ⟨_, rfl, ?_⟩
        refine qm_G.s1 rfl (qm_x_popI) ?_
        refine qm_G.retv rfl ⟨rfl, ?_⟩
        refine qm_G.s1 rfl (qm_x_aload rfl) ?_
        refine qm_G.s1 rfl (qm_x_iload rfl) ?_
        refine qm_G.s1 rfl (qm_x_bald1 (len := 3) (v := 107) rfl rfl (by omega) (by omega) (by rw [show Int.toNat ((0 + 1) + 1) = 2 by omega]; rfl)) ?_
        refine qm_G.s1 rfl (qm_x_pushI 255 rfl) ?_
        refine qm_G.s1 rfl (qm_x_iand255 (by omega)) ?_
        refine qm_G.s1 rfl (qm_x_i2c (by omega)) ?_
        refine qm_G.ret rfl rfl ⟨_, rfl, ?_⟩
        refine qm_G.ret rfl rfl ⟨_, rfl, ?_⟩
        refine qm_y_icmp_eq rfl ⟨by omega, by omega⟩ ⟨by decide, by decide⟩ (fun c7 => ?_) (fun c7 => ?_)
        · refine qm_G.sp (lv1 := [(0, qm_R (some (0, 61, 0))), (1, qm_I (qm_i x)), (2, qm_R (some (1, 13, 0))), (3, qm_I (qm_i ((0 + 1) + 1)))]) rfl rfl (qm_x_iinc (lv' := [(3, qm_I (qm_i (((0 + 1) + 1) + 1))), (0, qm_R (some (0, 61, 0))), (1, qm_I (qm_i x)), (2, qm_R (some (1, 13, 0)))]) 1 rfl rfl rfl) ?_
          refine qm_G.s1 rfl (qm_x_goto) ?_
          refine qm_G.sp (lv1 := [(0, qm_R (some (0, 61, 0))), (1, qm_I (qm_i x)), (2, qm_R (some (1, 13, 0))), (3, qm_I (qm_i (((0 + 1) + 1) + 1)))]) rfl rfl (qm_x_iload rfl) ?_
          refine qm_G.s1 rfl (qm_x_aload rfl) ?_
          refine qm_G.call rfl rfl rfl ?_
          refine qm_C.go (cd := qm_P53) (lv := [(0, qm_R (some (1, 13, 0)))]) rfl rfl ?_
          refine qm_G.s1 rfl (qm_x_aload rfl) ?_
          refine qm_G.s1 rfl (qm_x_getgR rfl rfl) ?_
          refine qm_G.s1 rfl (qm_x_alen1 (len := 3) rfl) ?_
          refine qm_G.s1 rfl (qm_x_aload rfl) ?_
          refine qm_G.call rfl rfl rfl ?_
          refine qm_C.go (cd := qm_P0) (lv := [(0, qm_R (some (1, 13, 0)))]) rfl rfl ?_
          refine qm_G.s1 rfl (qm_x_pushI 1 rfl) ?_
          refine qm_G.s1 rfl (qm_x_if_eq_f ⟨by decide, by decide⟩ (by decide)) ?_
          refine qm_G.s1 rfl (qm_x_aload rfl) ?_
          refine qm_G.s1 rfl (qm_x_getgI (v := 0) rfl rfl) ?_
          refine qm_G.s1 rfl (qm_x_goto) ?_
          refine qm_G.ret rfl rfl ⟨_, rfl, ?_⟩
          refine qm_G.s1 rfl (qm_x_ishr0) ?_
          refine qm_G.ret rfl rfl ⟨_, rfl, ?_⟩
          refine qm_G.s1 rfl (qm_x_icmp_ge_t ⟨by omega, by omega⟩ ⟨by decide, by decide⟩ (by omega)) ?_
          refine qm_G.sp (lv1 := []) rfl rfl (qm_x_pushI 1 rfl) ?_
          refine qm_G.ret rfl rfl (k1 ?_)
          refine ⟨by show e = a + 3; omega, fun j hj => ?_⟩
          change j < 3 at hj
          rcases (show j = 0 ∨ j = 1 ∨ j = 2 by omega) with c9 | c9 | c9
          · subst c9; exact (show T (a + 0) = 97 by omega)
          · subst c9; exact (show T (a + 1) = 115 by omega)
          · subst c9; exact (show T (a + 2) = 107 by omega)
        · refine qm_G.s1 rfl (qm_x_pushI 0 rfl) ?_
          exact qm_G.ret rfl rfl (k0 (fun h => by have h9 : T (a + 2) = 107 := h.2 2 (by decide); omega))
      · refine qm_G.s1 rfl (qm_x_pushI 0 rfl) ?_
        exact qm_G.ret rfl rfl (k0 (fun h => by have h9 : T (a + 1) = 115 := h.2 1 (by decide); omega))
    · refine qm_G.s1 rfl (qm_x_pushI 0 rfl) ?_
      exact qm_G.ret rfl rfl (k0 (fun h => by have h9 : T (a + 0) = 97 := h.2 0 (by decide); omega))
  · refine qm_G.s1 rfl (qm_x_pushI 0 rfl) ?_
    exact qm_G.ret rfl rfl (k0 (fun h => by have h9 : e = a + 3 := h.1; omega))
theorem qm_m_isw2 {S : List qm_Sh} {K : qm_J} {L : qm_Ct Int64} {D : qm_Ct UInt64} {R : qm_Ct (Option qm_Rf)} {X : Nat × (Nat → Int32)} {Q : Option qm_V → qm_Hp → Prop} {T : Nat → Int} {ln : Int} {J : qm_J} {x : Int} {a e : Nat} (hS : qm_Sd S) (hR : qm_Rd R) (hT : ∀ i, i < 100 → J 69 0 i = T i ∧ 0 ≤ T i ∧ T i ≤ 127) (rl : 0 ≤ ln ∧ ln ≤ 100) (hl : J 61 0 12 = ln) (hx : x = (a : Int)) (h16 : J 61 0 16 = (e : Int)) (h1 : a ≤ e ∧ e ≤ 100) (k1 : qm_isw T a e 2 → Q (some (qm_I (qm_i 1))) (qm_H S J K L D R X)) (k0 : ¬ qm_isw T a e 2 → Q (some (qm_I (qm_i 0))) (qm_H S J K L D R X)) : qm_C qm_P 175 [qm_R (some (0, 61, 0)), qm_I (qm_i x), qm_R (some (1, 14, 0))] (qm_H S J K L D R X) Q := by
  refine qm_C.go (cd := qm_P175) (lv := [(0, qm_R (some (0, 61, 0))), (1, qm_I (qm_i x)), (2, qm_R (some (1, 14, 0)))]) rfl rfl ?_
  refine qm_G.s1 rfl (qm_x_aload rfl) ?_
  refine qm_G.s1 rfl (qm_x_getfI (v := (e : Int)) (hS 61 rfl) h16) ?_
  refine qm_G.s1 rfl (qm_x_iload rfl) ?_
  refine qm_G.s1 rfl (qm_x_isub) ?_
  refine qm_G.s1 rfl (qm_x_aload rfl) ?_
  refine qm_G.call rfl rfl rfl ?_
  refine qm_C.go (cd := qm_P53) (lv := [(0, qm_R (some (1, 14, 0)))]) rfl rfl ?_
  refine qm_G.s1 rfl (qm_x_aload rfl) ?_
  refine qm_G.s1 rfl (qm_x_getgR rfl rfl) ?_
  refine qm_G.s1 rfl (qm_x_alen1 (len := 3) rfl) ?_
  refine qm_G.s1 rfl (qm_x_aload rfl) ?_
  refine qm_G.call rfl rfl rfl ?_
  refine qm_C.go (cd := qm_P0) (lv := [(0, qm_R (some (1, 14, 0)))]) rfl rfl ?_
  refine qm_G.s1 rfl (qm_x_pushI 1 rfl) ?_
  refine qm_G.s1 rfl (qm_x_if_eq_f ⟨by decide, by decide⟩ (by decide)) ?_
  refine qm_G.s1 rfl (qm_x_aload rfl) ?_
  refine qm_G.s1 rfl (qm_x_getgI (v := 0) rfl rfl) ?_
  refine qm_G.s1 rfl (qm_x_goto) ?_
  refine qm_G.ret rfl rfl ⟨_, rfl, ?_⟩
  refine qm_G.s1 rfl (qm_x_ishr0) ?_
  refine qm_G.ret rfl rfl ⟨_, rfl, ?_⟩
  refine qm_y_icmp_eq rfl ⟨by omega, by omega⟩ ⟨by decide, by decide⟩ (fun c1 => ?_) (fun c1 => ?_)
  · refine qm_G.sp (lv1 := [(0, qm_R (some (0, 61, 0))), (1, qm_I (qm_i x)), (2, qm_R (some (1, 14, 0)))]) rfl rfl (qm_x_pushI 0 rfl) ?_
    refine qm_G.s1 rfl (qm_x_istore (lv' := [(3, qm_I (qm_i 0)), (0, qm_R (some (0, 61, 0))), (1, qm_I (qm_i x)), (2, qm_R (some (1, 14, 0)))]) rfl) ?_
    refine qm_G.sp (lv1 := [(0, qm_R (some (0, 61, 0))), (1, qm_I (qm_i x)), (2, qm_R (some (1, 14, 0))), (3, qm_I (qm_i 0))]) rfl rfl (qm_x_iload rfl) ?_
    refine qm_G.s1 rfl (qm_x_aload rfl) ?_
    refine qm_G.call rfl rfl rfl ?_
    refine qm_C.go (cd := qm_P53) (lv := [(0, qm_R (some (1, 14, 0)))]) rfl rfl ?_
    refine qm_G.s1 rfl (qm_x_aload rfl) ?_
    refine qm_G.s1 rfl (qm_x_getgR rfl rfl) ?_
    refine qm_G.s1 rfl (qm_x_alen1 (len := 3) rfl) ?_
    refine qm_G.s1 rfl (qm_x_aload rfl) ?_
    refine qm_G.call rfl rfl rfl ?_
    refine qm_C.go (cd := qm_P0) (lv := [(0, qm_R (some (1, 14, 0)))]) rfl rfl ?_
    refine qm_G.s1 rfl (qm_x_pushI 1 rfl) ?_
    refine qm_G.s1 rfl (qm_x_if_eq_f ⟨by decide, by decide⟩ (by decide)) ?_
    refine qm_G.s1 rfl (qm_x_aload rfl) ?_
    refine qm_G.s1 rfl (qm_x_getgI (v := 0) rfl rfl) ?_
    refine qm_G.s1 rfl (qm_x_goto) ?_
    refine qm_G.ret rfl rfl ⟨_, rfl, ?_⟩
    refine qm_G.s1 rfl (qm_x_ishr0) ?_
    refine qm_G.ret rfl rfl ⟨_, rfl, ?_⟩
    refine qm_G.s1 rfl (qm_x_icmp_ge_f ⟨by decide, by decide⟩ ⟨by decide, by decide⟩ (by decide)) ?_
    refine qm_G.s1 rfl (qm_x_aload rfl) ?_
    refine qm_G.s1 rfl (qm_x_getfR (q := (some (0, 69, 0))) (hS 61 rfl) (hR 61 13 69 rfl rfl)) ?_
    refine qm_G.s1 rfl (qm_x_iload rfl) ?_
    refine qm_G.s1 rfl (qm_x_iload rfl) ?_
    refine qm_G.s1 rfl (qm_x_iadd) ?_
    have gT2 := (hT (a + 0) (by omega)).2
    refine qm_G.s1 rfl (qm_x_iald (v := (T (a + 0))) (qm_arS hS rfl rfl) rfl (by omega) (by omega) (by decide) (Eq.trans (congrArg (J 69 0) (by omega)) (hT (a + 0) (by omega)).1)) ?_
    refine qm_G.s1 rfl (qm_x_aload rfl) ?_
    refine qm_G.s1 rfl (qm_x_iload rfl) ?_
    refine qm_G.call rfl rfl rfl ?_
    refine qm_C.go (cd := qm_P162) (lv := [(0, qm_R (some (1, 14, 0))), (1, qm_I (qm_i 0))]) rfl rfl ?_
    refine qm_G.s1 rfl (qm_x_aload rfl) ?_
    refine qm_G.call rfl rfl rfl ?_
    refine qm_C.go (cd := qm_P1) (lv := [(0, qm_R (some (1, 14, 0)))]) rfl rfl ?_
    refine qm_G.s1 rfl (qm_x_pushI 1 rfl) ?_
    refine qm_G.s1 rfl (qm_x_if_eq_f ⟨by decide, by decide⟩ (by decide)) ?_
    refine qm_G.s1 rfl (qm_x_aload rfl) ?_
    refine qm_G.s1 rfl (qm_x_getgI (v := 0) rfl rfl) ?_
    refine qm_G.s1 rfl (qm_x_if_ne_f ⟨by decide, by decide⟩ (by decide)) ?_
    refine qm_G.s1 rfl (qm_x_pushI 1 rfl) ?_
    refine qm_G.s1 rfl (qm_x_goto) ?_
    refine qm_G.ret rfl rfl ⟨_, rfl, ?_⟩
    refine qm_G.s1 rfl (qm_x_if_eq_f ⟨by decide, by decide⟩ (by decide)) ?_
    refine qm_G.s1 rfl (qm_x_aload rfl) ?_
    refine qm_G.s1 rfl (qm_x_getgR rfl rfl) ?_
    refine qm_G.s1 rfl (qm_x_iload rfl) ?_
    refine qm_G.cs rfl rfl rfl ?_
    refine qm_C.go (cd := qm_P134) (lv := [(0, qm_R (some (1, 27, 0))), (1, qm_I (qm_i 0))]) rfl rfl ?_
    refine qm_G.s1 rfl (qm_x_iload rfl) ?_
    refine qm_G.s1 rfl (qm_x_aload rfl) ?_
    refine qm_G.s1 rfl (qm_x_alen1 (len := 3) rfl) ?_
    refine qm_G.csv rfl rfl rfl ?_
    refine qm_C.go (cd := qm_P69) (lv := [(0, qm_I (qm_i 0)), (1, qm_I (qm_i 3))]) rfl rfl ?_
    refine qm_G.s1 rfl (qm_x_iload rfl) ?_
    refine qm_G.s1 rfl (qm_x_iload rfl) ?_
    refine qm_G.s1 rfl (show qm_St (qm_o_sio 5) _ _ _ _ _ (qm_R (qm_sio X) :: _) _ from rfl) ?_
    refine qm_G.cs rfl rfl rfl ?_
    refine qm_C.go (cd := qm_P3) (lv := [(0, qm_I (qm_i 0)), (1, qm_I (qm_i 3)), (2, qm_R ((qm_sio X)))]) rfl rfl ?_
    refine qm_G.s1 rfl (qm_x_iload rfl) ?_
    refine qm_G.s1 rfl (qm_x_if_lt_f ⟨by decide, by decide⟩ (by decide)) ?_
    refine qm_G.s1 rfl (qm_x_iload rfl) ?_
    refine qm_G.s1 rfl (qm_x_iload rfl) ?_
    refine qm_G.s1 rfl (qm_x_icmp_lt_t ⟨by decide, by decide⟩ ⟨by decide, by decide⟩ (by decide)) ?_
    refine qm_G.sp (lv1 := [(0, qm_I (qm_i 0))]) rfl rfl (qm_x_iload rfl) ?_
    refine qm_G.ret rfl rfl ⟨_, rfl, ?_⟩
    refine qm_G.s1 rfl (qm_x_popI) ?_
    refine qm_G.retv rfl ⟨rfl, ?_⟩
    refine qm_G.s1 rfl (qm_x_aload rfl) ?_
    refine qm_G.s1 rfl (qm_x_iload rfl) ?_
    refine qm_G.s1 rfl (qm_x_bald1 (len := 3) (v := 104) rfl rfl (by omega) (by omega) (by rw [show Int.toNat 0 = 0 by omega]; rfl)) ?_
    refine qm_G.s1 rfl (qm_x_pushI 255 rfl) ?_
    refine qm_G.s1 rfl (qm_x_iand255 (by omega)) ?_
    refine qm_G.s1 rfl (qm_x_i2c (by omega)) ?_
    refine qm_G.ret rfl rfl ⟨_, rfl, ?_⟩
    refine qm_G.ret rfl rfl ⟨_, rfl, ?_⟩
    refine qm_y_icmp_eq rfl ⟨by omega, by omega⟩ ⟨by decide, by decide⟩ (fun c3 => ?_) (fun c3 => ?_)
    · refine qm_G.sp (lv1 := [(0, qm_R (some (0, 61, 0))), (1, qm_I (qm_i x)), (2, qm_R (some (1, 14, 0))), (3, qm_I (qm_i 0))]) rfl rfl (qm_x_iinc (lv' := [(3, qm_I (qm_i (0 + 1))), (0, qm_R (some (0, 61, 0))), (1, qm_I (qm_i x)), (2, qm_R (some (1, 14, 0)))]) 1 rfl rfl rfl) ?_
      refine qm_G.s1 rfl (qm_x_goto) ?_
      refine qm_G.sp (lv1 := [(0, qm_R (some (0, 61, 0))), (1, qm_I (qm_i x)), (2, qm_R (some (1, 14, 0))), (3, qm_I (qm_i (0 + 1)))]) rfl rfl (qm_x_iload rfl) ?_
      refine qm_G.s1 rfl (qm_x_aload rfl) ?_
      refine qm_G.call rfl rfl rfl ?_
      refine qm_C.go (cd := qm_P53) (lv := [(0, qm_R (some (1, 14, 0)))]) rfl rfl ?_
      refine qm_G.s1 rfl (qm_x_aload rfl) ?_
      refine qm_G.s1 rfl (qm_x_getgR rfl rfl) ?_
      refine qm_G.s1 rfl (qm_x_alen1 (len := 3) rfl) ?_
      refine qm_G.s1 rfl (qm_x_aload rfl) ?_
      refine qm_G.call rfl rfl rfl ?_
      refine qm_C.go (cd := qm_P0) (lv := [(0, qm_R (some (1, 14, 0)))]) rfl rfl ?_
      refine qm_G.s1 rfl (qm_x_pushI 1 rfl) ?_
      refine qm_G.s1 rfl (qm_x_if_eq_f ⟨by decide, by decide⟩ (by decide)) ?_
      refine qm_G.s1 rfl (qm_x_aload rfl) ?_
      refine qm_G.s1 rfl (qm_x_getgI (v := 0) rfl rfl) ?_
      refine qm_G.s1 rfl (qm_x_goto) ?_
      refine qm_G.ret rfl rfl ⟨_, rfl, ?_⟩
      refine qm_G.s1 rfl (qm_x_ishr0) ?_
      refine qm_G.ret rfl rfl ⟨_, rfl, ?_⟩
      refine qm_G.s1 rfl (qm_x_icmp_ge_f ⟨by omega, by omega⟩ ⟨by decide, by decide⟩ (by omega)) ?_
      refine qm_G.s1 rfl (qm_x_aload rfl) ?_
      refine qm_G.s1 rfl (qm_x_getfR (q := (some (0, 69, 0))) (hS 61 rfl) (hR 61 13 69 rfl rfl)) ?_
      refine qm_G.s1 rfl (qm_x_iload rfl) ?_
      refine qm_G.s1 rfl (qm_x_iload rfl) ?_
      refine qm_G.s1 rfl (qm_x_iadd) ?_
      have gT4 := (hT (a + 1) (by omega)).2
      refine qm_G.s1 rfl (qm_x_iald (v := (T (a + 1))) (qm_arS hS rfl rfl) rfl (by omega) (by omega) (by decide) (Eq.trans (congrArg (J 69 0) (by omega)) (hT (a + 1) (by omega)).1)) ?_
      refine qm_G.s1 rfl (qm_x_aload rfl) ?_
      refine qm_G.s1 rfl (qm_x_iload rfl) ?_
      refine qm_G.call rfl rfl rfl ?_
      refine qm_C.go (cd := qm_P162) (lv := [(0, qm_R (some (1, 14, 0))), (1, qm_I (qm_i (0 + 1)))]) rfl rfl ?_
      refine qm_G.s1 rfl (qm_x_aload rfl) ?_
      refine qm_G.call rfl rfl rfl ?_
      refine qm_C.go (cd := qm_P1) (lv := [(0, qm_R (some (1, 14, 0)))]) rfl rfl ?_
      refine qm_G.s1 rfl (qm_x_pushI 1 rfl) ?_
      refine qm_G.s1 rfl (qm_x_if_eq_f ⟨by decide, by decide⟩ (by decide)) ?_
      refine qm_G.s1 rfl (qm_x_aload rfl) ?_
      refine qm_G.s1 rfl (qm_x_getgI (v := 0) rfl rfl) ?_
      refine qm_G.s1 rfl (qm_x_if_ne_f ⟨by decide, by decide⟩ (by decide)) ?_
      refine qm_G.s1 rfl (qm_x_pushI 1 rfl) ?_
      refine qm_G.s1 rfl (qm_x_goto) ?_
      refine qm_G.ret rfl rfl ⟨_, rfl, ?_⟩
      refine qm_G.s1 rfl (qm_x_if_eq_f ⟨by decide, by decide⟩ (by decide)) ?_
      refine qm_G.s1 rfl (qm_x_aload rfl) ?_
      refine qm_G.s1 rfl (qm_x_getgR rfl rfl) ?_
      refine qm_G.s1 rfl (qm_x_iload rfl) ?_
      refine qm_G.cs rfl rfl rfl ?_
      refine qm_C.go (cd := qm_P134) (lv := [(0, qm_R (some (1, 27, 0))), (1, qm_I (qm_i (0 + 1)))]) rfl rfl ?_
      refine qm_G.s1 rfl (qm_x_iload rfl) ?_
      refine qm_G.s1 rfl (qm_x_aload rfl) ?_
      refine qm_G.s1 rfl (qm_x_alen1 (len := 3) rfl) ?_
      refine qm_G.csv rfl rfl rfl ?_
      refine qm_C.go (cd := qm_P69) (lv := [(0, qm_I (qm_i (0 + 1))), (1, qm_I (qm_i 3))]) rfl rfl ?_
      refine qm_G.s1 rfl (qm_x_iload rfl) ?_
      refine qm_G.s1 rfl (qm_x_iload rfl) ?_
      refine qm_G.s1 rfl (show qm_St (qm_o_sio 5) _ _ _ _ _ (qm_R (qm_sio X) :: _) _ from rfl) ?_
      refine qm_G.cs rfl rfl rfl ?_
      refine qm_C.go (cd := qm_P3) (lv := [(0, qm_I (qm_i (0 + 1))), (1, qm_I (qm_i 3)), (2, qm_R ((qm_sio X)))]) rfl rfl ?_
      refine qm_G.s1 rfl (qm_x_iload rfl) ?_
      refine qm_G.s1 rfl (qm_x_if_lt_f ⟨by omega, by omega⟩ (by omega)) ?_
      refine qm_G.s1 rfl (qm_x_iload rfl) ?_
      refine qm_G.s1 rfl (qm_x_iload rfl) ?_
      refine qm_G.s1 rfl (qm_x_icmp_lt_t ⟨by omega, by omega⟩ ⟨by decide, by decide⟩ (by omega)) ?_
      refine qm_G.sp (lv1 := [(0, qm_I (qm_i (0 + 1)))]) rfl rfl (qm_x_iload rfl) ?_
      refine qm_G.ret rfl rfl ⟨_, rfl, ?_⟩
      refine qm_G.s1 rfl (qm_x_popI) ?_
      refine qm_G.retv rfl ⟨rfl, ?_⟩
      refine qm_G.s1 rfl (qm_x_aload rfl) ?_
      refine qm_G.s1 rfl (qm_x_iload rfl) ?_
      refine qm_G.s1 rfl (qm_x_bald1 (len := 3) (v := 105) rfl rfl (by omega) (by omega) (by rw [show Int.toNat (0 + 1) = 1 by omega]; rfl)) ?_
      refine qm_G.s1 rfl (qm_x_pushI 255 rfl) ?_
      refine qm_G.s1 rfl (qm_x_iand255 (by omega)) ?_
      refine qm_G.s1 rfl (qm_x_i2c (by omega)) ?_
      refine qm_G.ret rfl rfl ⟨_, rfl, ?_⟩
      refine qm_G.ret rfl rfl ⟨_, rfl, ?_⟩
      refine qm_y_icmp_eq rfl ⟨by omega, by omega⟩ ⟨by decide, by decide⟩ (fun c5 => ?_) (fun c5 => ?_)
      · refine qm_G.sp (lv1 := [(0, qm_R (some (0, 61, 0))), (1, qm_I (qm_i x)), (2, qm_R (some (1, 14, 0))), (3, qm_I (qm_i (0 + 1)))]) rfl rfl (qm_x_iinc (lv' := [(3, qm_I (qm_i ((0 + 1) + 1))), (0, qm_R (some (0, 61, 0))), (1, qm_I (qm_i x)), (2, qm_R (some (1, 14, 0)))]) 1 rfl rfl rfl) ?_
        refine qm_G.s1 rfl (qm_x_goto) ?_
        refine qm_G.sp (lv1 := [(0, qm_R (some (0, 61, 0))), (1, qm_I (qm_i x)), (2, qm_R (some (1, 14, 0))), (3, qm_I (qm_i ((0 + 1) + 1)))]) rfl rfl (qm_x_iload rfl) ?_
        refine qm_G.s1 rfl (qm_x_aload rfl) ?_
        refine qm_G.call rfl rfl rfl ?_
        refine qm_C.go (cd := qm_P53) (lv := [(0, qm_R (some (1, 14, 0)))]) rfl rfl ?_
        refine qm_G.s1 rfl (qm_x_aload rfl) ?_
        refine qm_G.s1 rfl (qm_x_getgR rfl rfl) ?_
        refine qm_G.s1 rfl (qm_x_alen1 (len := 3) rfl) ?_
        refine qm_G.s1 rfl (qm_x_aload rfl) ?_
        refine qm_G.call rfl rfl rfl ?_
        refine qm_C.go (cd := qm_P0) (lv := [(0, qm_R (some (1, 14, 0)))]) rfl rfl ?_
        refine qm_G.s1 rfl (qm_x_pushI 1 rfl) ?_
        refine qm_G.s1 rfl (qm_x_if_eq_f ⟨by decide, by decide⟩ (by decide)) ?_
        refine qm_G.s1 rfl (qm_x_aload rfl) ?_
        refine qm_G.s1 rfl (qm_x_getgI (v := 0) rfl rfl) ?_
        refine qm_G.s1 rfl (qm_x_goto) ?_
        refine qm_G.ret rfl rfl ⟨_, rfl, ?_⟩
        refine qm_G.s1 rfl (qm_x_ishr0) ?_
        refine qm_G.ret rfl rfl ⟨_, rfl, ?_⟩
        refine qm_G.s1 rfl (qm_x_icmp_ge_f ⟨by omega, by omega⟩ ⟨by decide, by decide⟩ (by omega)) ?_
        refine qm_G.s1 rfl (qm_x_aload rfl) ?_
        refine qm_G.s1 rfl (qm_x_getfR (q := (some (0, 69, 0))) (hS 61 rfl) (hR 61 13 69 rfl rfl)) ?_
        refine qm_G.s1 rfl (qm_x_iload rfl) ?_
        refine qm_G.s1 rfl (qm_x_iload rfl) ?_
        refine qm_G.s1 rfl (qm_x_iadd) ?_
        have gT6 := (hT (a + 2) (by omega)).2
        refine qm_G.s1 rfl (qm_x_iald (v := (T (a + 2))) (qm_arS hS rfl rfl) rfl (by omega) (by omega) (by decide) (Eq.trans (congrArg (J 69 0) (by omega)) (hT (a + 2) (by omega)).1)) ?_
        refine qm_G.s1 rfl (qm_x_aload rfl) ?_
        refine qm_G.s1 rfl (qm_x_iload rfl) ?_
        refine qm_G.call rfl rfl rfl ?_
        refine qm_C.go (cd := qm_P162) (lv := [(0, qm_R (some (1, 14, 0))), (1, qm_I (qm_i ((0 + 1) + 1)))]) rfl rfl ?_
        refine qm_G.s1 rfl (qm_x_aload rfl) ?_
        refine qm_G.call rfl rfl rfl ?_
        refine qm_C.go (cd := qm_P1) (lv := [(0, qm_R (some (1, 14, 0)))]) rfl rfl ?_
        refine qm_G.s1 rfl (qm_x_pushI 1 rfl) ?_
        refine qm_G.s1 rfl (qm_x_if_eq_f ⟨by decide, by decide⟩ (by decide)) ?_
        refine qm_G.s1 rfl (qm_x_aload rfl) ?_
        refine qm_G.s1 rfl (qm_x_getgI (v := 0) rfl rfl) ?_
        refine qm_G.s1 rfl (qm_x_if_ne_f ⟨by decide, by decide⟩ (by decide)) ?_
        refine qm_G.s1 rfl (qm_x_pushI 1 rfl) ?_
        refine qm_G.s1 rfl (qm_x_goto) ?_
        refine qm_G.ret rfl rfl ⟨_, rfl, ?_⟩
        refine qm_G.s1 rfl (qm_x_if_eq_f ⟨by decide, by decide⟩ (by decide)) ?_
        refine qm_G.s1 rfl (qm_x_aload rfl) ?_
        refine qm_G.s1 rfl (qm_x_getgR rfl rfl) ?_
        refine qm_G.s1 rfl (qm_x_iload rfl) ?_
        refine qm_G.cs rfl rfl rfl ?_
        refine qm_C.go (cd := qm_P134) (lv := [(0, qm_R (some (1, 27, 0))), (1, qm_I (qm_i ((0 + 1) + 1)))]) rfl rfl ?_
        refine qm_G.s1 rfl (qm_x_iload rfl) ?_
        refine qm_G.s1 rfl (qm_x_aload rfl) ?_
        refine qm_G.s1 rfl (qm_x_alen1 (len := 3) rfl) ?_
        refine qm_G.csv rfl rfl rfl ?_
        refine qm_C.go (cd := qm_P69) (lv := [(0, qm_I (qm_i ((0 + 1) + 1))), (1, qm_I (qm_i 3))]) rfl rfl ?_
        refine qm_G.s1 rfl (qm_x_iload rfl) ?_
        refine qm_G.s1 rfl (qm_x_iload rfl) ?_
        refine qm_G.s1 rfl (show qm_St (qm_o_sio 5) _ _ _ _ _ (qm_R (qm_sio X) :: _) _ from rfl) ?_
        refine qm_G.cs rfl rfl rfl ?_
        refine qm_C.go (cd := qm_P3) (lv := [(0, qm_I (qm_i ((0 + 1) + 1))), (1, qm_I (qm_i 3)), (2, qm_R ((qm_sio X)))]) rfl rfl ?_
        refine qm_G.s1 rfl (qm_x_iload rfl) ?_
        refine qm_G.s1 rfl (qm_x_if_lt_f ⟨by omega, by omega⟩ (by omega)) ?_
        refine qm_G.s1 rfl (qm_x_iload rfl) ?_
        refine qm_G.s1 rfl (qm_x_iload rfl) ?_
        refine qm_G.s1 rfl (qm_x_icmp_lt_t ⟨by omega, by omega⟩ ⟨by decide, by decide⟩ (by omega)) ?_
        refine qm_G.sp (lv1 := [(0, qm_I (qm_i ((0 + 1) + 1)))]) rfl rfl (qm_x_iload rfl) ?_
        refine qm_G.ret rfl rfl ⟨_, rfl, ?_⟩
        refine qm_G.s1 rfl (qm_x_popI) ?_
        refine qm_G.retv rfl ⟨rfl, ?_⟩
        refine qm_G.s1 rfl (qm_x_aload rfl) ?_
        refine qm_G.s1 rfl (qm_x_iload rfl) ?_
        refine qm_G.s1 rfl (qm_x_bald1 (len := 3) (v := 116) rfl rfl (by omega) (by omega) (by rw [show Int.toNat ((0 + 1) + 1) = 2 by omega]; rfl)) ?_
        refine qm_G.s1 rfl (qm_x_pushI 255 rfl) ?_
        refine qm_G.s1 rfl (qm_x_iand255 (by omega)) ?_
        refine qm_G.s1 rfl (qm_x_i2c (by omega)) ?_
        refine qm_G.ret rfl rfl ⟨_, rfl, ?_⟩
        refine qm_G.ret rfl rfl ⟨_, rfl, ?_⟩
        refine qm_y_icmp_eq rfl ⟨by omega, by omega⟩ ⟨by decide, by decide⟩ (fun c7 => ?_) (fun c7 => ?_)
        · refine qm_G.sp (lv1 := [(0, qm_R (some (0, 61, 0))), (1, qm_I (qm_i x)), (2, qm_R (some (1, 14, 0))), (3, qm_I (qm_i ((0 + 1) + 1)))]) rfl rfl (qm_x_iinc (lv' := [(3, qm_I (qm_i (((0 + 1) + 1) + 1))), (0, qm_R (some (0, 61, 0))), (1, qm_I (qm_i x)), (2, qm_R (some (1, 14, 0)))]) 1 rfl rfl rfl) ?_
          refine qm_G.s1 rfl (qm_x_goto) ?_
          refine qm_G.sp (lv1 := [(0, qm_R (some (0, 61, 0))), (1, qm_I (qm_i x)), (2, qm_R (some (1, 14, 0))), (3, qm_I (qm_i (((0 + 1) + 1) + 1)))]) rfl rfl (qm_x_iload rfl) ?_
          refine qm_G.s1 rfl (qm_x_aload rfl) ?_
          refine qm_G.call rfl rfl rfl ?_
          refine qm_C.go (cd := qm_P53) (lv := [(0, qm_R (some (1, 14, 0)))]) rfl rfl ?_
          refine qm_G.s1 rfl (qm_x_aload rfl) ?_
          refine qm_G.s1 rfl (qm_x_getgR rfl rfl) ?_
          refine qm_G.s1 rfl (qm_x_alen1 (len := 3) rfl) ?_
          refine qm_G.s1 rfl (qm_x_aload rfl) ?_
          refine qm_G.call rfl rfl rfl ?_
          refine qm_C.go (cd := qm_P0) (lv := [(0, qm_R (some (1, 14, 0)))]) rfl rfl ?_
          refine qm_G.s1 rfl (qm_x_pushI 1 rfl) ?_
          refine qm_G.s1 rfl (qm_x_if_eq_f ⟨by decide, by decide⟩ (by decide)) ?_
          refine qm_G.s1 rfl (qm_x_aload rfl) ?_
          refine qm_G.s1 rfl (qm_x_getgI (v := 0) rfl rfl) ?_
          refine qm_G.s1 rfl (qm_x_goto) ?_
          refine qm_G.ret rfl rfl ⟨_, rfl, ?_⟩
          refine qm_G.s1 rfl (qm_x_ishr0) ?_
          refine qm_G.ret rfl rfl ⟨_, rfl, ?_⟩
          refine qm_G.s1 rfl (qm_x_icmp_ge_t ⟨by omega, by omega⟩ ⟨by decide, by decide⟩ (by omega)) ?_
          refine qm_G.sp (lv1 := []) rfl rfl (qm_x_pushI 1 rfl) ?_
          refine qm_G.ret rfl rfl (k1 ?_)
          refine ⟨by show e = a + 3; omega, fun j hj => ?_⟩
          change j < 3 at hj
          rcases (show j = 0 ∨ j = 1 ∨ j = 2 by omega) with c9 | c9 | c9
          · subst c9; exact (show T (a + 0) = 104 by omega)
          · subst c9; exact (show T (a + 1) = 105 by omega)
          · subst c9; exact (show T (a + 2) = 116 by omega)
        · refine qm_G.s1 rfl (qm_x_pushI 0 rfl) ?_
          exact qm_G.ret rfl rfl (k0 (fun h => by have h9 : T (a + 2) = 116 := h.2 2 (by decide); omega))
      · refine qm_G.s1 rfl (qm_x_pushI 0 rfl) ?_
        exact qm_G.ret rfl rfl (k0 (fun h => by have h9 : T (a + 1) = 105 := h.2 1 (by decide); omega))
    · refine qm_G.s1 rfl (qm_x_pushI 0 rfl) ?_
      exact qm_G.ret rfl rfl (k0 (fun h => by have h9 : T (a + 0) = 104 := h.2 0 (by decide); omega))
  · refine qm_G.s1 rfl (qm_x_pushI 0 rfl) ?_
    exact qm_G.ret rfl rfl (k0 (fun h => by have h9 : e = a + 3 := h.1; omega))
theorem qm_m_isw3 {S : List qm_Sh} {K : qm_J} {L : qm_Ct Int64} {D : qm_Ct UInt64} {R : qm_Ct (Option qm_Rf)} {X : Nat × (Nat → Int32)} {Q : Option qm_V → qm_Hp → Prop} {T : Nat → Int} {ln : Int} {J : qm_J} {x : Int} {a e : Nat} (hS : qm_Sd S) (hR : qm_Rd R) (hT : ∀ i, i < 100 → J 69 0 i = T i ∧ 0 ≤ T i ∧ T i ≤ 127) (rl : 0 ≤ ln ∧ ln ≤ 100) (hl : J 61 0 12 = ln) (hx : x = (a : Int)) (h16 : J 61 0 16 = (e : Int)) (h1 : a ≤ e ∧ e ≤ 100) (k1 : qm_isw T a e 3 → Q (some (qm_I (qm_i 1))) (qm_H S J K L D R X)) (k0 : ¬ qm_isw T a e 3 → Q (some (qm_I (qm_i 0))) (qm_H S J K L D R X)) : qm_C qm_P 175 [qm_R (some (0, 61, 0)), qm_I (qm_i x), qm_R (some (1, 15, 0))] (qm_H S J K L D R X) Q := by
  refine qm_C.go (cd := qm_P175) (lv := [(0, qm_R (some (0, 61, 0))), (1, qm_I (qm_i x)), (2, qm_R (some (1, 15, 0)))]) rfl rfl ?_
  refine qm_G.s1 rfl (qm_x_aload rfl) ?_
  refine qm_G.s1 rfl (qm_x_getfI (v := (e : Int)) (hS 61 rfl) h16) ?_
  refine qm_G.s1 rfl (qm_x_iload rfl) ?_
  refine qm_G.s1 rfl (qm_x_isub) ?_
  refine qm_G.s1 rfl (qm_x_aload rfl) ?_
  refine qm_G.call rfl rfl rfl ?_
  refine qm_C.go (cd := qm_P53) (lv := [(0, qm_R (some (1, 15, 0)))]) rfl rfl ?_
  refine qm_G.s1 rfl (qm_x_aload rfl) ?_
  refine qm_G.s1 rfl (qm_x_getgR rfl rfl) ?_
  refine qm_G.s1 rfl (qm_x_alen1 (len := 4) rfl) ?_
  refine qm_G.s1 rfl (qm_x_aload rfl) ?_
  refine qm_G.call rfl rfl rfl ?_
  refine qm_C.go (cd := qm_P0) (lv := [(0, qm_R (some (1, 15, 0)))]) rfl rfl ?_
  refine qm_G.s1 rfl (qm_x_pushI 1 rfl) ?_
  refine qm_G.s1 rfl (qm_x_if_eq_f ⟨by decide, by decide⟩ (by decide)) ?_
  refine qm_G.s1 rfl (qm_x_aload rfl) ?_
  refine qm_G.s1 rfl (qm_x_getgI (v := 0) rfl rfl) ?_
  refine qm_G.s1 rfl (qm_x_goto) ?_
  refine qm_G.ret rfl rfl ⟨_, rfl, ?_⟩
  refine qm_G.s1 rfl (qm_x_ishr0) ?_
  refine qm_G.ret rfl rfl ⟨_, rfl, ?_⟩
  refine qm_y_icmp_eq rfl ⟨by omega, by omega⟩ ⟨by decide, by decide⟩ (fun c1 => ?_) (fun c1 => ?_)
  · refine qm_G.sp (lv1 := [(0, qm_R (some (0, 61, 0))), (1, qm_I (qm_i x)), (2, qm_R (some (1, 15, 0)))]) rfl rfl (qm_x_pushI 0 rfl) ?_
    refine qm_G.s1 rfl (qm_x_istore (lv' := [(3, qm_I (qm_i 0)), (0, qm_R (some (0, 61, 0))), (1, qm_I (qm_i x)), (2, qm_R (some (1, 15, 0)))]) rfl) ?_
    refine qm_G.sp (lv1 := [(0, qm_R (some (0, 61, 0))), (1, qm_I (qm_i x)), (2, qm_R (some (1, 15, 0))), (3, qm_I (qm_i 0))]) rfl rfl (qm_x_iload rfl) ?_
    refine qm_G.s1 rfl (qm_x_aload rfl) ?_
    refine qm_G.call rfl rfl rfl ?_
    refine qm_C.go (cd := qm_P53) (lv := [(0, qm_R (some (1, 15, 0)))]) rfl rfl ?_
    refine qm_G.s1 rfl (qm_x_aload rfl) ?_
    refine qm_G.s1 rfl (qm_x_getgR rfl rfl) ?_
    refine qm_G.s1 rfl (qm_x_alen1 (len := 4) rfl) ?_
    refine qm_G.s1 rfl (qm_x_aload rfl) ?_
    refine qm_G.call rfl rfl rfl ?_
    refine qm_C.go (cd := qm_P0) (lv := [(0, qm_R (some (1, 15, 0)))]) rfl rfl ?_
    refine qm_G.s1 rfl (qm_x_pushI 1 rfl) ?_
    refine qm_G.s1 rfl (qm_x_if_eq_f ⟨by decide, by decide⟩ (by decide)) ?_
    refine qm_G.s1 rfl (qm_x_aload rfl) ?_
    refine qm_G.s1 rfl (qm_x_getgI (v := 0) rfl rfl) ?_
    refine qm_G.s1 rfl (qm_x_goto) ?_
    refine qm_G.ret rfl rfl ⟨_, rfl, ?_⟩
    refine qm_G.s1 rfl (qm_x_ishr0) ?_
    refine qm_G.ret rfl rfl ⟨_, rfl, ?_⟩
    refine qm_G.s1 rfl (qm_x_icmp_ge_f ⟨by decide, by decide⟩ ⟨by decide, by decide⟩ (by decide)) ?_
    refine qm_G.s1 rfl (qm_x_aload rfl) ?_
    refine qm_G.s1 rfl (qm_x_getfR (q := (some (0, 69, 0))) (hS 61 rfl) (hR 61 13 69 rfl rfl)) ?_
    refine qm_G.s1 rfl (qm_x_iload rfl) ?_
    refine qm_G.s1 rfl (qm_x_iload rfl) ?_
    refine qm_G.s1 rfl (qm_x_iadd) ?_
    have gT2 := (hT (a + 0) (by omega)).2
    refine qm_G.s1 rfl (qm_x_iald (v := (T (a + 0))) (qm_arS hS rfl rfl) rfl (by omega) (by omega) (by decide) (Eq.trans (congrArg (J 69 0) (by omega)) (hT (a + 0) (by omega)).1)) ?_
    refine qm_G.s1 rfl (qm_x_aload rfl) ?_
    refine qm_G.s1 rfl (qm_x_iload rfl) ?_
    refine qm_G.call rfl rfl rfl ?_
    refine qm_C.go (cd := qm_P162) (lv := [(0, qm_R (some (1, 15, 0))), (1, qm_I (qm_i 0))]) rfl rfl ?_
    refine qm_G.s1 rfl (qm_x_aload rfl) ?_
    refine qm_G.call rfl rfl rfl ?_
    refine qm_C.go (cd := qm_P1) (lv := [(0, qm_R (some (1, 15, 0)))]) rfl rfl ?_
    refine qm_G.s1 rfl (qm_x_pushI 1 rfl) ?_
    refine qm_G.s1 rfl (qm_x_if_eq_f ⟨by decide, by decide⟩ (by decide)) ?_
    refine qm_G.s1 rfl (qm_x_aload rfl) ?_
    refine qm_G.s1 rfl (qm_x_getgI (v := 0) rfl rfl) ?_
    refine qm_G.s1 rfl (qm_x_if_ne_f ⟨by decide, by decide⟩ (by decide)) ?_
    refine qm_G.s1 rfl (qm_x_pushI 1 rfl) ?_
    refine qm_G.s1 rfl (qm_x_goto) ?_
    refine qm_G.ret rfl rfl ⟨_, rfl, ?_⟩
    refine qm_G.s1 rfl (qm_x_if_eq_f ⟨by decide, by decide⟩ (by decide)) ?_
    refine qm_G.s1 rfl (qm_x_aload rfl) ?_
    refine qm_G.s1 rfl (qm_x_getgR rfl rfl) ?_
    refine qm_G.s1 rfl (qm_x_iload rfl) ?_
    refine qm_G.cs rfl rfl rfl ?_
    refine qm_C.go (cd := qm_P134) (lv := [(0, qm_R (some (1, 28, 0))), (1, qm_I (qm_i 0))]) rfl rfl ?_
    refine qm_G.s1 rfl (qm_x_iload rfl) ?_
    refine qm_G.s1 rfl (qm_x_aload rfl) ?_
    refine qm_G.s1 rfl (qm_x_alen1 (len := 4) rfl) ?_
    refine qm_G.csv rfl rfl rfl ?_
    refine qm_C.go (cd := qm_P69) (lv := [(0, qm_I (qm_i 0)), (1, qm_I (qm_i 4))]) rfl rfl ?_
    refine qm_G.s1 rfl (qm_x_iload rfl) ?_
    refine qm_G.s1 rfl (qm_x_iload rfl) ?_
    refine qm_G.s1 rfl (show qm_St (qm_o_sio 5) _ _ _ _ _ (qm_R (qm_sio X) :: _) _ from rfl) ?_
    refine qm_G.cs rfl rfl rfl ?_
    refine qm_C.go (cd := qm_P3) (lv := [(0, qm_I (qm_i 0)), (1, qm_I (qm_i 4)), (2, qm_R ((qm_sio X)))]) rfl rfl ?_
    refine qm_G.s1 rfl (qm_x_iload rfl) ?_
    refine qm_G.s1 rfl (qm_x_if_lt_f ⟨by decide, by decide⟩ (by decide)) ?_
    refine qm_G.s1 rfl (qm_x_iload rfl) ?_
    refine qm_G.s1 rfl (qm_x_iload rfl) ?_
    refine qm_G.s1 rfl (qm_x_icmp_lt_t ⟨by decide, by decide⟩ ⟨by decide, by decide⟩ (by decide)) ?_
    refine qm_G.sp (lv1 := [(0, qm_I (qm_i 0))]) rfl rfl (qm_x_iload rfl) ?_
    refine qm_G.ret rfl rfl ⟨_, rfl, ?_⟩
    refine qm_G.s1 rfl (qm_x_popI) ?_
    refine qm_G.retv rfl ⟨rfl, ?_⟩
    refine qm_G.s1 rfl (qm_x_aload rfl) ?_
    refine qm_G.s1 rfl (qm_x_iload rfl) ?_
    refine qm_G.s1 rfl (qm_x_bald1 (len := 4) (v := 108) rfl rfl (by omega) (by omega) (by rw [show Int.toNat 0 = 0 by omega]; rfl)) ?_
    refine qm_G.s1 rfl (qm_x_pushI 255 rfl) ?_
    refine qm_G.s1 rfl (qm_x_iand255 (by omega)) ?_
    refine qm_G.s1 rfl (qm_x_i2c (by omega)) ?_
    refine qm_G.ret rfl rfl ⟨_, rfl, ?_⟩
    refine qm_G.ret rfl rfl ⟨_, rfl, ?_⟩
    refine qm_y_icmp_eq rfl ⟨by omega, by omega⟩ ⟨by decide, by decide⟩ (fun c3 => ?_) (fun c3 => ?_)
    · refine qm_G.sp (lv1 := [(0, qm_R (some (0, 61, 0))), (1, qm_I (qm_i x)), (2, qm_R (some (1, 15, 0))), (3, qm_I (qm_i 0))]) rfl rfl (qm_x_iinc (lv' := [(3, qm_I (qm_i (0 + 1))), (0, qm_R (some (0, 61, 0))), (1, qm_I (qm_i x)), (2, qm_R (some (1, 15, 0)))]) 1 rfl rfl rfl) ?_
      refine qm_G.s1 rfl (qm_x_goto) ?_
      refine qm_G.sp (lv1 := [(0, qm_R (some (0, 61, 0))), (1, qm_I (qm_i x)), (2, qm_R (some (1, 15, 0))), (3, qm_I (qm_i (0 + 1)))]) rfl rfl (qm_x_iload rfl) ?_
      refine qm_G.s1 rfl (qm_x_aload rfl) ?_
      refine qm_G.call rfl rfl rfl ?_
      refine qm_C.go (cd := qm_P53) (lv := [(0, qm_R (some (1, 15, 0)))]) rfl rfl ?_
      refine qm_G.s1 rfl (qm_x_aload rfl) ?_
      refine qm_G.s1 rfl (qm_x_getgR rfl rfl) ?_
      refine qm_G.s1 rfl (qm_x_alen1 (len := 4) rfl) ?_
      refine qm_G.s1 rfl (qm_x_aload rfl) ?_
      refine qm_G.call rfl rfl rfl ?_
      refine qm_C.go (cd := qm_P0) (lv := [(0, qm_R (some (1, 15, 0)))]) rfl rfl ?_
      refine qm_G.s1 rfl (qm_x_pushI 1 rfl) ?_
      refine qm_G.s1 rfl (qm_x_if_eq_f ⟨by decide, by decide⟩ (by decide)) ?_
      refine qm_G.s1 rfl (qm_x_aload rfl) ?_
      refine qm_G.s1 rfl (qm_x_getgI (v := 0) rfl rfl) ?_
      refine qm_G.s1 rfl (qm_x_goto) ?_
      refine qm_G.ret rfl rfl ⟨_, rfl, ?_⟩
      refine qm_G.s1 rfl (qm_x_ishr0) ?_
      refine qm_G.ret rfl rfl ⟨_, rfl, ?_⟩
      refine qm_G.s1 rfl (qm_x_icmp_ge_f ⟨by omega, by omega⟩ ⟨by decide, by decide⟩ (by omega)) ?_
      refine qm_G.s1 rfl (qm_x_aload rfl) ?_
      refine qm_G.s1 rfl (qm_x_getfR (q := (some (0, 69, 0))) (hS 61 rfl) (hR 61 13 69 rfl rfl)) ?_
      refine qm_G.s1 rfl (qm_x_iload rfl) ?_
      refine qm_G.s1 rfl (qm_x_iload rfl) ?_
      refine qm_G.s1 rfl (qm_x_iadd) ?_
      have gT4 := (hT (a + 1) (by omega)).2
      refine qm_G.s1 rfl (qm_x_iald (v := (T (a + 1))) (qm_arS hS rfl rfl) rfl (by omega) (by omega) (by decide) (Eq.trans (congrArg (J 69 0) (by omega)) (hT (a + 1) (by omega)).1)) ?_
      refine qm_G.s1 rfl (qm_x_aload rfl) ?_
      refine qm_G.s1 rfl (qm_x_iload rfl) ?_
      refine qm_G.call rfl rfl rfl ?_
      refine qm_C.go (cd := qm_P162) (lv := [(0, qm_R (some (1, 15, 0))), (1, qm_I (qm_i (0 + 1)))]) rfl rfl ?_
      refine qm_G.s1 rfl (qm_x_aload rfl) ?_
      refine qm_G.call rfl rfl rfl ?_
      refine qm_C.go (cd := qm_P1) (lv := [(0, qm_R (some (1, 15, 0)))]) rfl rfl ?_
      refine qm_G.s1 rfl (qm_x_pushI 1 rfl) ?_
      refine qm_G.s1 rfl (qm_x_if_eq_f ⟨by decide, by decide⟩ (by decide)) ?_
      refine qm_G.s1 rfl (qm_x_aload rfl) ?_
      refine qm_G.s1 rfl (qm_x_getgI (v := 0) rfl rfl) ?_
      refine qm_G.s1 rfl (qm_x_if_ne_f ⟨by decide, by decide⟩ (by decide)) ?_
      refine qm_G.s1 rfl (qm_x_pushI 1 rfl) ?_
      refine qm_G.s1 rfl (qm_x_goto) ?_
      refine qm_G.ret rfl rfl ⟨_, rfl, ?_⟩
      refine qm_G.s1 rfl (qm_x_if_eq_f ⟨by decide, by decide⟩ (by decide)) ?_
      refine qm_G.s1 rfl (qm_x_aload rfl) ?_
      refine qm_G.s1 rfl (qm_x_getgR rfl rfl) ?_
      refine qm_G.s1 rfl (qm_x_iload rfl) ?_
      refine qm_G.cs rfl rfl rfl ?_
      refine qm_C.go (cd := qm_P134) (lv := [(0, qm_R (some (1, 28, 0))), (1, qm_I (qm_i (0 + 1)))]) rfl rfl ?_
      refine qm_G.s1 rfl (qm_x_iload rfl) ?_
      refine qm_G.s1 rfl (qm_x_aload rfl) ?_
      refine qm_G.s1 rfl (qm_x_alen1 (len := 4) rfl) ?_
      refine qm_G.csv rfl rfl rfl ?_
      refine qm_C.go (cd := qm_P69) (lv := [(0, qm_I (qm_i (0 + 1))), (1, qm_I (qm_i 4))]) rfl rfl ?_
      refine qm_G.s1 rfl (qm_x_iload rfl) ?_
      refine qm_G.s1 rfl (qm_x_iload rfl) ?_
      refine qm_G.s1 rfl (show qm_St (qm_o_sio 5) _ _ _ _ _ (qm_R (qm_sio X) :: _) _ from rfl) ?_
      refine qm_G.cs rfl rfl rfl ?_
      refine qm_C.go (cd := qm_P3) (lv := [(0, qm_I (qm_i (0 + 1))), (1, qm_I (qm_i 4)), (2, qm_R ((qm_sio X)))]) rfl rfl ?_
      refine qm_G.s1 rfl (qm_x_iload rfl) ?_
      refine qm_G.s1 rfl (qm_x_if_lt_f ⟨by omega, by omega⟩ (by omega)) ?_
      refine qm_G.s1 rfl (qm_x_iload rfl) ?_
      refine qm_G.s1 rfl (qm_x_iload rfl) ?_
      refine qm_G.s1 rfl (qm_x_icmp_lt_t ⟨by omega, by omega⟩ ⟨by decide, by decide⟩ (by omega)) ?_
      refine qm_G.sp (lv1 := [(0, qm_I (qm_i (0 + 1)))]) rfl rfl (qm_x_iload rfl) ?_
      refine qm_G.ret rfl rfl ⟨_, rfl, ?_⟩
      refine qm_G.s1 rfl (qm_x_popI) ?_
      refine qm_G.retv rfl ⟨rfl, ?_⟩
      refine qm_G.s1 rfl (qm_x_aload rfl) ?_
      refine qm_G.s1 rfl (qm_x_iload rfl) ?_
      refine qm_G.s1 rfl (qm_x_bald1 (len := 4) (v := 105) rfl rfl (by omega) (by omega) (by rw [show Int.toNat (0 + 1) = 1 by omega]; rfl)) ?_
      refine qm_G.s1 rfl (qm_x_pushI 255 rfl) ?_
      refine qm_G.s1 rfl (qm_x_iand255 (by omega)) ?_
      refine qm_G.s1 rfl (qm_x_i2c (by omega)) ?_
      refine qm_G.ret rfl rfl ⟨_, rfl, ?_⟩
      refine qm_G.ret rfl rfl ⟨_, rfl, ?_⟩
      refine qm_y_icmp_eq rfl ⟨by omega, by omega⟩ ⟨by decide, by decide⟩ (fun c5 => ?_) (fun c5 => ?_)
      · refine qm_G.sp (lv1 := [(0, qm_R (some (0, 61, 0))), (1, qm_I (qm_i x)), (2, qm_R (some (1, 15, 0))), (3, qm_I (qm_i (0 + 1)))]) rfl rfl (qm_x_iinc (lv' := [(3, qm_I (qm_i ((0 + 1) + 1))), (0, qm_R (some (0, 61, 0))), (1, qm_I (qm_i x)), (2, qm_R (some (1, 15, 0)))]) 1 rfl rfl rfl) ?_
        refine qm_G.s1 rfl (qm_x_goto) ?_
        refine qm_G.sp (lv1 := [(0, qm_R (some (0, 61, 0))), (1, qm_I (qm_i x)), (2, qm_R (some (1, 15, 0))), (3, qm_I (qm_i ((0 + 1) + 1)))]) rfl rfl (qm_x_iload rfl) ?_
        refine qm_G.s1 rfl (qm_x_aload rfl) ?_
        refine qm_G.call rfl rfl rfl ?_
        refine qm_C.go (cd := qm_P53) (lv := [(0, qm_R (some (1, 15, 0)))]) rfl rfl ?_
        refine qm_G.s1 rfl (qm_x_aload rfl) ?_
        refine qm_G.s1 rfl (qm_x_getgR rfl rfl) ?_
        refine qm_G.s1 rfl (qm_x_alen1 (len := 4) rfl) ?_
        refine qm_G.s1 rfl (qm_x_aload rfl) ?_
        refine qm_G.call rfl rfl rfl ?_
        refine qm_C.go (cd := qm_P0) (lv := [(0, qm_R (some (1, 15, 0)))]) rfl rfl ?_
        refine qm_G.s1 rfl (qm_x_pushI 1 rfl) ?_
        refine qm_G.s1 rfl (qm_x_if_eq_f ⟨by decide, by decide⟩ (by decide)) ?_
        refine qm_G.s1 rfl (qm_x_aload rfl) ?_
        refine qm_G.s1 rfl (qm_x_getgI (v := 0) rfl rfl) ?_
        refine qm_G.s1 rfl (qm_x_goto) ?_
        refine qm_G.ret rfl rfl ⟨_, rfl, ?_⟩
        refine qm_G.s1 rfl (qm_x_ishr0) ?_
        refine qm_G.ret rfl rfl ⟨_, rfl, ?_⟩
        refine qm_G.s1 rfl (qm_x_icmp_ge_f ⟨by omega, by omega⟩ ⟨by decide, by decide⟩ (by omega)) ?_
        refine qm_G.s1 rfl (qm_x_aload rfl) ?_
        refine qm_G.s1 rfl (qm_x_getfR (q := (some (0, 69, 0))) (hS 61 rfl) (hR 61 13 69 rfl rfl)) ?_
        refine qm_G.s1 rfl (qm_x_iload rfl) ?_
        refine qm_G.s1 rfl (qm_x_iload rfl) ?_
        refine qm_G.s1 rfl (qm_x_iadd) ?_
        have gT6 := (hT (a + 2) (by omega)).2
        refine qm_G.s1 rfl (qm_x_iald (v := (T (a + 2))) (qm_arS hS rfl rfl) rfl (by omega) (by omega) (by decide) (Eq.trans (congrArg (J 69 0) (by omega)) (hT (a + 2) (by omega)).1)) ?_
        refine qm_G.s1 rfl (qm_x_aload rfl) ?_
        refine qm_G.s1 rfl (qm_x_iload rfl) ?_
        refine qm_G.call rfl rfl rfl ?_
        refine qm_C.go (cd := qm_P162) (lv := [(0, qm_R (some (1, 15, 0))), (1, qm_I (qm_i ((0 + 1) + 1)))]) rfl rfl ?_
        refine qm_G.s1 rfl (qm_x_aload rfl) ?_
        refine qm_G.call rfl rfl rfl ?_
        refine qm_C.go (cd := qm_P1) (lv := [(0, qm_R (some (1, 15, 0)))]) rfl rfl ?_
        refine qm_G.s1 rfl (qm_x_pushI 1 rfl) ?_
        refine qm_G.s1 rfl (qm_x_if_eq_f ⟨by decide, by decide⟩ (by decide)) ?_
        refine qm_G.s1 rfl (qm_x_aload rfl) ?_
        refine qm_G.s1 rfl (qm_x_getgI (v := 0) rfl rfl) ?_
        refine qm_G.s1 rfl (qm_x_if_ne_f ⟨by decide, by decide⟩ (by decide)) ?_
        refine qm_G.s1 rfl (qm_x_pushI 1 rfl) ?_
        refine qm_G.s1 rfl (qm_x_goto) ?_
        refine qm_G.ret rfl rfl ⟨_, rfl, ?_⟩
        refine qm_G.s1 rfl (qm_x_if_eq_f ⟨by decide, by decide⟩ (by decide)) ?_
        refine qm_G.s1 rfl (qm_x_aload rfl) ?_
        refine qm_G.s1 rfl (qm_x_getgR rfl rfl) ?_
        refine qm_G.s1 rfl (qm_x_iload rfl) ?_
        refine qm_G.cs rfl rfl rfl ?_
        refine qm_C.go (cd := qm_P134) (lv := [(0, qm_R (some (1, 28, 0))), (1, qm_I (qm_i ((0 + 1) + 1)))]) rfl rfl ?_
        refine qm_G.s1 rfl (qm_x_iload rfl) ?_
        refine qm_G.s1 rfl (qm_x_aload rfl) ?_
        refine qm_G.s1 rfl (qm_x_alen1 (len := 4) rfl) ?_
        refine qm_G.csv rfl rfl rfl ?_
        refine qm_C.go (cd := qm_P69) (lv := [(0, qm_I (qm_i ((0 + 1) + 1))), (1, qm_I (qm_i 4))]) rfl rfl ?_
        refine qm_G.s1 rfl (qm_x_iload rfl) ?_
        refine qm_G.s1 rfl (qm_x_iload rfl) ?_
        refine qm_G.s1 rfl (show qm_St (qm_o_sio 5) _ _ _ _ _ (qm_R (qm_sio X) :: _) _ from rfl) ?_
        refine qm_G.cs rfl rfl rfl ?_
        refine qm_C.go (cd := qm_P3) (lv := [(0, qm_I (qm_i ((0 + 1) + 1))), (1, qm_I (qm_i 4)), (2, qm_R ((qm_sio X)))]) rfl rfl ?_
        refine qm_G.s1 rfl (qm_x_iload rfl) ?_
        refine qm_G.s1 rfl (qm_x_if_lt_f ⟨by omega, by omega⟩ (by omega)) ?_
        refine qm_G.s1 rfl (qm_x_iload rfl) ?_
        refine qm_G.s1 rfl (qm_x_iload rfl) ?_
        refine qm_G.s1 rfl (qm_x_icmp_lt_t ⟨by omega, by omega⟩ ⟨by decide, by decide⟩ (by omega)) ?_
        refine qm_G.sp (lv1 := [(0, qm_I (qm_i ((0 + 1) + 1)))]) rfl rfl (qm_x_iload rfl) ?_
        refine qm_G.ret rfl rfl ⟨_, rfl, ?_⟩
        refine qm_G.s1 rfl (qm_x_popI) ?_
        refine qm_G.retv rfl ⟨rfl, ?_⟩
        refine qm_G.s1 rfl (qm_x_aload rfl) ?_
        refine qm_G.s1 rfl (qm_x_iload rfl) ?_
        refine qm_G.s1 rfl (qm_x_bald1 (len := 4) (v := 102) rfl rfl (by omega) (by omega) (by rw [show Int.toNat ((0 + 1) + 1) = 2 by omega]; rfl)) ?_
        refine qm_G.s1 rfl (qm_x_pushI 255 rfl) ?_
        refine qm_G.s1 rfl (qm_x_iand255 (by omega)) ?_
        refine qm_G.s1 rfl (qm_x_i2c (by omega)) ?_
        refine qm_G.ret rfl rfl ⟨_, rfl, ?_⟩
        refine qm_G.ret rfl rfl ⟨_, rfl, ?_⟩
        refine qm_y_icmp_eq rfl ⟨by omega, by omega⟩ ⟨by decide, by decide⟩ (fun c7 => ?_) (fun c7 => ?_)
        · refine qm_G.sp (lv1 := [(0, qm_R (some (0, 61, 0))), (1, qm_I (qm_i x)), (2, qm_R (some (1, 15, 0))), (3, qm_I (qm_i ((0 + 1) + 1)))]) rfl rfl (qm_x_iinc (lv' := [(3, qm_I (qm_i (((0 + 1) + 1) + 1))), (0, qm_R (some (0, 61, 0))), (1, qm_I (qm_i x)), (2, qm_R (some (1, 15, 0)))]) 1 rfl rfl rfl) ?_
          refine qm_G.s1 rfl (qm_x_goto) ?_
          refine qm_G.sp (lv1 := [(0, qm_R (some (0, 61, 0))), (1, qm_I (qm_i x)), (2, qm_R (some (1, 15, 0))), (3, qm_I (qm_i (((0 + 1) + 1) + 1)))]) rfl rfl (qm_x_iload rfl) ?_
          refine qm_G.s1 rfl (qm_x_aload rfl) ?_
          refine qm_G.call rfl rfl rfl ?_
          refine qm_C.go (cd := qm_P53) (lv := [(0, qm_R (some (1, 15, 0)))]) rfl rfl ?_
          refine qm_G.s1 rfl (qm_x_aload rfl) ?_
          refine qm_G.s1 rfl (qm_x_getgR rfl rfl) ?_
          refine qm_G.s1 rfl (qm_x_alen1 (len := 4) rfl) ?_
          refine qm_G.s1 rfl (qm_x_aload rfl) ?_
          refine qm_G.call rfl rfl rfl ?_
          refine qm_C.go (cd := qm_P0) (lv := [(0, qm_R (some (1, 15, 0)))]) rfl rfl ?_
          refine qm_G.s1 rfl (qm_x_pushI 1 rfl) ?_
          refine qm_G.s1 rfl (qm_x_if_eq_f ⟨by decide, by decide⟩ (by decide)) ?_
          refine qm_G.s1 rfl (qm_x_aload rfl) ?_
          refine qm_G.s1 rfl (qm_x_getgI (v := 0) rfl rfl) ?_
          refine qm_G.s1 rfl (qm_x_goto) ?_
          refine qm_G.ret rfl rfl ⟨_, rfl, ?_⟩
          refine qm_G.s1 rfl (qm_x_ishr0) ?_
          refine qm_G.ret rfl rfl ⟨_, rfl, ?_⟩
          refine qm_G.s1 rfl (qm_x_icmp_ge_f ⟨by omega, by omega⟩ ⟨by decide, by decide⟩ (by omega)) ?_
          refine qm_G.s1 rfl (qm_x_aload rfl) ?_
          refine qm_G.s1 rfl (qm_x_getfR (q := (some (0, 69, 0))) (hS 61 rfl) (hR 61 13 69 rfl rfl)) ?_
          refine qm_G.s1 rfl (qm_x_iload rfl) ?_
          refine qm_G.s1 rfl (qm_x_iload rfl) ?_
          refine qm_G.s1 rfl (qm_x_iadd) ?_
          have gT8 := (hT (a + 3) (by omega)).2
          refine qm_G.s1 rfl (qm_x_iald (v := (T (a + 3))) (qm_arS hS rfl rfl) rfl (by omega) (by omega) (by decide) (Eq.trans (congrArg (J 69 0) (by omega)) (hT (a + 3) (by omega)).1)) ?_
          refine qm_G.s1 rfl (qm_x_aload rfl) ?_
          refine qm_G.s1 rfl (qm_x_iload rfl) ?_
          refine qm_G.call rfl rfl rfl ?_
          refine qm_C.go (cd := qm_P162) (lv := [(0, qm_R (some (1, 15, 0))), (1, qm_I (qm_i (((0 + 1) + 1) + 1)))]) rfl rfl ?_
          refine qm_G.s1 rfl (qm_x_aload rfl) ?_
          refine qm_G.call rfl rfl rfl ?_
          refine qm_C.go (cd := qm_P1) (lv := [(0, qm_R (some (1, 15, 0)))]) rfl rfl ?_
          refine qm_G.s1 rfl (qm_x_pushI 1 rfl) ?_
          refine qm_G.s1 rfl (qm_x_if_eq_f ⟨by decide, by decide⟩ (by decide)) ?_
          refine qm_G.s1 rfl (qm_x_aload rfl) ?_
          refine qm_G.s1 rfl (qm_x_getgI (v := 0) rfl rfl) ?_
          refine qm_G.s1 rfl (qm_x_if_ne_f ⟨by decide, by decide⟩ (by decide)) ?_
          refine qm_G.s1 rfl (qm_x_pushI 1 rfl) ?_
          refine qm_G.s1 rfl (qm_x_goto) ?_
          refine qm_G.ret rfl rfl ⟨_, rfl, ?_⟩
          refine qm_G.s1 rfl (qm_x_if_eq_f ⟨by decide, by decide⟩ (by decide)) ?_
          refine qm_G.s1 rfl (qm_x_aload rfl) ?_
          refine qm_G.s1 rfl (qm_x_getgR rfl rfl) ?_
          refine qm_G.s1 rfl (qm_x_iload rfl) ?_
          refine qm_G.cs rfl rfl rfl ?_
          refine qm_C.go (cd := qm_P134) (lv := [(0, qm_R (some (1, 28, 0))), (1, qm_I (qm_i (((0 + 1) + 1) + 1)))]) rfl rfl ?_
          refine qm_G.s1 rfl (qm_x_iload rfl) ?_
          refine qm_G.s1 rfl (qm_x_aload rfl) ?_
          refine qm_G.s1 rfl (qm_x_alen1 (len := 4) rfl) ?_
          refine qm_G.csv rfl rfl rfl ?_
          refine qm_C.go (cd := qm_P69) (lv := [(0, qm_I (qm_i (((0 + 1) + 1) + 1))), (1, qm_I (qm_i 4))]) rfl rfl ?_
          refine qm_G.s1 rfl (qm_x_iload rfl) ?_
          refine qm_G.s1 rfl (qm_x_iload rfl) ?_
          refine qm_G.s1 rfl (show qm_St (qm_o_sio 5) _ _ _ _ _ (qm_R (qm_sio X) :: _) _ from rfl) ?_
          refine qm_G.cs rfl rfl rfl ?_
          refine qm_C.go (cd := qm_P3) (lv := [(0, qm_I (qm_i (((0 + 1) + 1) + 1))), (1, qm_I (qm_i 4)), (2, qm_R ((qm_sio X)))]) rfl rfl ?_
          refine qm_G.s1 rfl (qm_x_iload rfl) ?_
          refine qm_G.s1 rfl (qm_x_if_lt_f ⟨by omega, by omega⟩ (by omega)) ?_
          refine qm_G.s1 rfl (qm_x_iload rfl) ?_
          refine qm_G.s1 rfl (qm_x_iload rfl) ?_
          refine qm_G.s1 rfl (qm_x_icmp_lt_t ⟨by omega, by omega⟩ ⟨by decide, by decide⟩ (by omega)) ?_
          refine qm_G.sp (lv1 := [(0, qm_I (qm_i (((0 + 1) + 1) + 1)))]) rfl rfl (qm_x_iload rfl) ?_
          refine qm_G.ret rfl rfl ⟨_, rfl, ?_⟩
          refine qm_G.s1 rfl (qm_x_popI) ?_
          refine qm_G.retv rfl ⟨rfl, ?_⟩
          refine qm_G.s1 rfl (qm_x_aload rfl) ?_
          refine qm_G.s1 rfl (qm_x_iload rfl) ?_
          refine qm_G.s1 rfl (qm_x_bald1 (len := 4) (v := 116) rfl rfl (by omega) (by omega) (by rw [show Int.toNat (((0 + 1) + 1) + 1) = 3 by omega]; rfl)) ?_
          refine qm_G.s1 rfl (qm_x_pushI 255 rfl) ?_
          refine qm_G.s1 rfl (qm_x_iand255 (by omega)) ?_
          refine qm_G.s1 rfl (qm_x_i2c (by omega)) ?_
          refine qm_G.ret rfl rfl ⟨_, rfl, ?_⟩
          refine qm_G.ret rfl rfl ⟨_, rfl, ?_⟩
          refine qm_y_icmp_eq rfl ⟨by omega, by omega⟩ ⟨by decide, by decide⟩ (fun c9 => ?_) (fun c9 => ?_)
          · refine qm_G.sp (lv1 := [(0, qm_R (some (0, 61, 0))), (1, qm_I (qm_i x)), (2, qm_R (some (1, 15, 0))), (3, qm_I (qm_i (((0 + 1) + 1) + 1)))]) rfl rfl (qm_x_iinc (lv' := [(3, qm_I (qm_i ((((0 + 1) + 1) + 1) + 1))), (0, qm_R (some (0, 61, 0))), (1, qm_I (qm_i x)), (2, qm_R (some (1, 15, 0)))]) 1 rfl rfl rfl) ?_
            refine qm_G.s1 rfl (qm_x_goto) ?_
            refine qm_G.sp (lv1 := [(0, qm_R (some (0, 61, 0))), (1, qm_I (qm_i x)), (2, qm_R (some (1, 15, 0))), (3, qm_I (qm_i ((((0 + 1) + 1) + 1) + 1)))]) rfl rfl (qm_x_iload rfl) ?_
            refine qm_G.s1 rfl (qm_x_aload rfl) ?_
            refine qm_G.call rfl rfl rfl ?_
            refine qm_C.go (cd := qm_P53) (lv := [(0, qm_R (some (1, 15, 0)))]) rfl rfl ?_
            refine qm_G.s1 rfl (qm_x_aload rfl) ?_
            refine qm_G.s1 rfl (qm_x_getgR rfl rfl) ?_
            refine qm_G.s1 rfl (qm_x_alen1 (len := 4) rfl) ?_
            refine qm_G.s1 rfl (qm_x_aload rfl) ?_
            refine qm_G.call rfl rfl rfl ?_
            refine qm_C.go (cd := qm_P0) (lv := [(0, qm_R (some (1, 15, 0)))]) rfl rfl ?_
            refine qm_G.s1 rfl (qm_x_pushI 1 rfl) ?_
            refine qm_G.s1 rfl (qm_x_if_eq_f ⟨by decide, by decide⟩ (by decide)) ?_
            refine qm_G.s1 rfl (qm_x_aload rfl) ?_
            refine qm_G.s1 rfl (qm_x_getgI (v := 0) rfl rfl) ?_
            refine qm_G.s1 rfl (qm_x_goto) ?_
            refine qm_G.ret rfl rfl ⟨_, rfl, ?_⟩
            refine qm_G.s1 rfl (qm_x_ishr0) ?_
            refine qm_G.ret rfl rfl ⟨_, rfl, ?_⟩
            refine qm_G.s1 rfl (qm_x_icmp_ge_t ⟨by omega, by omega⟩ ⟨by decide, by decide⟩ (by omega)) ?_
            refine qm_G.sp (lv1 := []) rfl rfl (qm_x_pushI 1 rfl) ?_
            refine qm_G.ret rfl rfl (k1 ?_)
            refine ⟨by show e = a + 4; omega, fun j hj => ?_⟩
            change j < 4 at hj
            rcases (show j = 0 ∨ j = 1 ∨ j = 2 ∨ j = 3 by omega) with c9 | c9 | c9 | c9
            · subst c9; exact (show T (a + 0) = 108 by omega)
            · subst c9; exact (show T (a + 1) = 105 by omega)
            · subst c9; exact (show T (a + 2) = 102 by omega)
            · subst c9; exact (show T (a + 3) = 116 by omega)
          · refine qm_G.s1 rfl (qm_x_pushI 0 rfl) ?_
            exact qm_G.ret rfl rfl (k0 (fun h => by have h9 : T (a + 3) = 116 := h.2 3 (by decide); omega))
        · refine qm_G.s1 rfl (qm_x_pushI 0 rfl) ?_
          exact qm_G.ret rfl rfl (k0 (fun h => by have h9 : T (a + 2) = 102 := h.2 2 (by decide); omega))
      · refine qm_G.s1 rfl (qm_x_pushI 0 rfl) ?_
        exact qm_G.ret rfl rfl (k0 (fun h => by have h9 : T (a + 1) = 105 := h.2 1 (by decide); omega))
    · refine qm_G.s1 rfl (qm_x_pushI 0 rfl) ?_
      exact qm_G.ret rfl rfl (k0 (fun h => by have h9 : T (a + 0) = 108 := h.2 0 (by decide); omega))
  · refine qm_G.s1 rfl (qm_x_pushI 0 rfl) ?_
    exact qm_G.ret rfl rfl (k0 (fun h => by have h9 : e = a + 4 := h.1; omega))
theorem qm_m_isw4 {S : List qm_Sh} {K : qm_J} {L : qm_Ct Int64} {D : qm_Ct UInt64} {R : qm_Ct (Option qm_Rf)} {X : Nat × (Nat → Int32)} {Q : Option qm_V → qm_Hp → Prop} {T : Nat → Int} {ln : Int} {J : qm_J} {x : Int} {a e : Nat} (hS : qm_Sd S) (hR : qm_Rd R) (hT : ∀ i, i < 100 → J 69 0 i = T i ∧ 0 ≤ T i ∧ T i ≤ 127) (rl : 0 ≤ ln ∧ ln ≤ 100) (hl : J 61 0 12 = ln) (hx : x = (a : Int)) (h16 : J 61 0 16 = (e : Int)) (h1 : a ≤ e ∧ e ≤ 100) (k1 : qm_isw T a e 4 → Q (some (qm_I (qm_i 1))) (qm_H S J K L D R X)) (k0 : ¬ qm_isw T a e 4 → Q (some (qm_I (qm_i 0))) (qm_H S J K L D R X)) : qm_C qm_P 175 [qm_R (some (0, 61, 0)), qm_I (qm_i x), qm_R (some (1, 16, 0))] (qm_H S J K L D R X) Q := by
  refine qm_C.go (cd := qm_P175) (lv := [(0, qm_R (some (0, 61, 0))), (1, qm_I (qm_i x)), (2, qm_R (some (1, 16, 0)))]) rfl rfl ?_
  refine qm_G.s1 rfl (qm_x_aload rfl) ?_
  refine qm_G.s1 rfl (qm_x_getfI (v := (e : Int)) (hS 61 rfl) h16) ?_
  refine qm_G.s1 rfl (qm_x_iload rfl) ?_
  refine qm_G.s1 rfl (qm_x_isub) ?_
  refine qm_G.s1 rfl (qm_x_aload rfl) ?_
  refine qm_G.call rfl rfl rfl ?_
  refine qm_C.go (cd := qm_P53) (lv := [(0, qm_R (some (1, 16, 0)))]) rfl rfl ?_
  refine qm_G.s1 rfl (qm_x_aload rfl) ?_
  refine qm_G.s1 rfl (qm_x_getgR rfl rfl) ?_
  refine qm_G.s1 rfl (qm_x_alen1 (len := 4) rfl) ?_
  refine qm_G.s1 rfl (qm_x_aload rfl) ?_
  refine qm_G.call rfl rfl rfl ?_
  refine qm_C.go (cd := qm_P0) (lv := [(0, qm_R (some (1, 16, 0)))]) rfl rfl ?_
  refine qm_G.s1 rfl (qm_x_pushI 1 rfl) ?_
  refine qm_G.s1 rfl (qm_x_if_eq_f ⟨by decide, by decide⟩ (by decide)) ?_
  refine qm_G.s1 rfl (qm_x_aload rfl) ?_
  refine qm_G.s1 rfl (qm_x_getgI (v := 0) rfl rfl) ?_
  refine qm_G.s1 rfl (qm_x_goto) ?_
  refine qm_G.ret rfl rfl ⟨_, rfl, ?_⟩
  refine qm_G.s1 rfl (qm_x_ishr0) ?_
  refine qm_G.ret rfl rfl ⟨_, rfl, ?_⟩
  refine qm_y_icmp_eq rfl ⟨by omega, by omega⟩ ⟨by decide, by decide⟩ (fun c1 => ?_) (fun c1 => ?_)
  · refine qm_G.sp (lv1 := [(0, qm_R (some (0, 61, 0))), (1, qm_I (qm_i x)), (2, qm_R (some (1, 16, 0)))]) rfl rfl (qm_x_pushI 0 rfl) ?_
    refine qm_G.s1 rfl (qm_x_istore (lv' := [(3, qm_I (qm_i 0)), (0, qm_R (some (0, 61, 0))), (1, qm_I (qm_i x)), (2, qm_R (some (1, 16, 0)))]) rfl) ?_
    refine qm_G.sp (lv1 := [(0, qm_R (some (0, 61, 0))), (1, qm_I (qm_i x)), (2, qm_R (some (1, 16, 0))), (3, qm_I (qm_i 0))]) rfl rfl (qm_x_iload rfl) ?_
    refine qm_G.s1 rfl (qm_x_aload rfl) ?_
    refine qm_G.call rfl rfl rfl ?_
    refine qm_C.go (cd := qm_P53) (lv := [(0, qm_R (some (1, 16, 0)))]) rfl rfl ?_
    refine qm_G.s1 rfl (qm_x_aload rfl) ?_
    refine qm_G.s1 rfl (qm_x_getgR rfl rfl) ?_
    refine qm_G.s1 rfl (qm_x_alen1 (len := 4) rfl) ?_
    refine qm_G.s1 rfl (qm_x_aload rfl) ?_
    refine qm_G.call rfl rfl rfl ?_
    refine qm_C.go (cd := qm_P0) (lv := [(0, qm_R (some (1, 16, 0)))]) rfl rfl ?_
    refine qm_G.s1 rfl (qm_x_pushI 1 rfl) ?_
    refine qm_G.s1 rfl (qm_x_if_eq_f ⟨by decide, by decide⟩ (by decide)) ?_
    refine qm_G.s1 rfl (qm_x_aload rfl) ?_
    refine qm_G.s1 rfl (qm_x_getgI (v := 0) rfl rfl) ?_
    refine qm_G.s1 rfl (qm_x_goto) ?_
    refine qm_G.ret rfl rfl ⟨_, rfl, ?_⟩
    refine qm_G.s1 rfl (qm_x_ishr0) ?_
    refine qm_G.ret rfl rfl ⟨_, rfl, ?_⟩
    refine qm_G.s1 rfl (qm_x_icmp_ge_f ⟨by decide, by decide⟩ ⟨by decide, by decide⟩ (by decide)) ?_
    refine qm_G.s1 rfl (qm_x_aload rfl) ?_
    refine qm_G.s1 rfl (qm_x_getfR (q := (some (0, 69, 0))) (hS 61 rfl) (hR 61 13 69 rfl rfl)) ?_
    refine qm_G.s1 rfl (qm_x_iload rfl) ?_
    refine qm_G.s1 rfl (qm_x_iload rfl) ?_
    refine qm_G.s1 rfl (qm_x_iadd) ?_
    have gT2 := (hT (a + 0) (by omega)).2
    refine qm_G.s1 rfl (qm_x_iald (v := (T (a + 0))) (qm_arS hS rfl rfl) rfl (by omega) (by omega) (by decide) (Eq.trans (congrArg (J 69 0) (by omega)) (hT (a + 0) (by omega)).1)) ?_
    refine qm_G.s1 rfl (qm_x_aload rfl) ?_
    refine qm_G.s1 rfl (qm_x_iload rfl) ?_
    refine qm_G.call rfl rfl rfl ?_
    refine qm_C.go (cd := qm_P162) (lv := [(0, qm_R (some (1, 16, 0))), (1, qm_I (qm_i 0))]) rfl rfl ?_
    refine qm_G.s1 rfl (qm_x_aload rfl) ?_
    refine qm_G.call rfl rfl rfl ?_
    refine qm_C.go (cd := qm_P1) (lv := [(0, qm_R (some (1, 16, 0)))]) rfl rfl ?_
    refine qm_G.s1 rfl (qm_x_pushI 1 rfl) ?_
    refine qm_G.s1 rfl (qm_x_if_eq_f ⟨by decide, by decide⟩ (by decide)) ?_
    refine qm_G.s1 rfl (qm_x_aload rfl) ?_
    refine qm_G.s1 rfl (qm_x_getgI (v := 0) rfl rfl) ?_
    refine qm_G.s1 rfl (qm_x_if_ne_f ⟨by decide, by decide⟩ (by decide)) ?_
    refine qm_G.s1 rfl (qm_x_pushI 1 rfl) ?_
    refine qm_G.s1 rfl (qm_x_goto) ?_
    refine qm_G.ret rfl rfl ⟨_, rfl, ?_⟩
    refine qm_G.s1 rfl (qm_x_if_eq_f ⟨by decide, by decide⟩ (by decide)) ?_
    refine qm_G.s1 rfl (qm_x_aload rfl) ?_
    refine qm_G.s1 rfl (qm_x_getgR rfl rfl) ?_
    refine qm_G.s1 rfl (qm_x_iload rfl) ?_
    refine qm_G.cs rfl rfl rfl ?_
    refine qm_C.go (cd := qm_P134) (lv := [(0, qm_R (some (1, 29, 0))), (1, qm_I (qm_i 0))]) rfl rfl ?_
    refine qm_G.s1 rfl (qm_x_iload rfl) ?_
    refine qm_G.s1 rfl (qm_x_aload rfl) ?_
    refine qm_G.s1 rfl (qm_x_alen1 (len := 4) rfl) ?_
    refine qm_G.csv rfl rfl rfl ?_
    refine qm_C.go (cd := qm_P69) (lv := [(0, qm_I (qm_i 0)), (1, qm_I (qm_i 4))]) rfl rfl ?_
    refine qm_G.s1 rfl (qm_x_iload rfl) ?_
    refine qm_G.s1 rfl (qm_x_iload rfl) ?_
    refine qm_G.s1 rfl (show qm_St (qm_o_sio 5) _ _ _ _ _ (qm_R (qm_sio X) :: _) _ from rfl) ?_
    refine qm_G.cs rfl rfl rfl ?_
    refine qm_C.go (cd := qm_P3) (lv := [(0, qm_I (qm_i 0)), (1, qm_I (qm_i 4)), (2, qm_R ((qm_sio X)))]) rfl rfl ?_
    refine qm_G.s1 rfl (qm_x_iload rfl) ?_
    refine qm_G.s1 rfl (qm_x_if_lt_f ⟨by decide, by decide⟩ (by decide)) ?_
    refine qm_G.s1 rfl (qm_x_iload rfl) ?_
    refine qm_G.s1 rfl (qm_x_iload rfl) ?_
    refine qm_G.s1 rfl (qm_x_icmp_lt_t ⟨by decide, by decide⟩ ⟨by decide, by decide⟩ (by decide)) ?_
    refine qm_G.sp (lv1 := [(0, qm_I (qm_i 0))]) rfl rfl (qm_x_iload rfl) ?_
    refine qm_G.ret rfl rfl ⟨_, rfl, ?_⟩
    refine qm_G.s1 rfl (qm_x_popI) ?_
    refine qm_G.retv rfl ⟨rfl, ?_⟩
    refine qm_G.s1 rfl (qm_x_aload rfl) ?_
    refine qm_G.s1 rfl (qm_x_iload rfl) ?_
    refine qm_G.s1 rfl (qm_x_bald1 (len := 4) (v := 112) rfl rfl (by omega) (by omega) (by rw [show Int.toNat 0 = 0 by omega]; rfl)) ?_
    refine qm_G.s1 rfl (qm_x_pushI 255 rfl) ?_
    refine qm_G.s1 rfl (qm_x_iand255 (by omega)) ?_
    refine qm_G.s1 rfl (qm_x_i2c (by omega)) ?_
    refine qm_G.ret rfl rfl ⟨_, rfl, ?_⟩
    refine qm_G.ret rfl rfl ⟨_, rfl, ?_⟩
    refine qm_y_icmp_eq rfl ⟨by omega, by omega⟩ ⟨by decide, by decide⟩ (fun c3 => ?_) (fun c3 => ?_)
    · refine qm_G.sp (lv1 := [(0, qm_R (some (0, 61, 0))), (1, qm_I (qm_i x)), (2, qm_R (some (1, 16, 0))), (3, qm_I (qm_i 0))]) rfl rfl (qm_x_iinc (lv' := [(3, qm_I (qm_i (0 + 1))), (0, qm_R (some (0, 61, 0))), (1, qm_I (qm_i x)), (2, qm_R (some (1, 16, 0)))]) 1 rfl rfl rfl) ?_
      refine qm_G.s1 rfl (qm_x_goto) ?_
      refine qm_G.sp (lv1 := [(0, qm_R (some (0, 61, 0))), (1, qm_I (qm_i x)), (2, qm_R (some (1, 16, 0))), (3, qm_I (qm_i (0 + 1)))]) rfl rfl (qm_x_iload rfl) ?_
      refine qm_G.s1 rfl (qm_x_aload rfl) ?_
      refine qm_G.call rfl rfl rfl ?_
      refine qm_C.go (cd := qm_P53) (lv := [(0, qm_R (some (1, 16, 0)))]) rfl rfl ?_
      refine qm_G.s1 rfl (qm_x_aload rfl) ?_
      refine qm_G.s1 rfl (qm_x_getgR rfl rfl) ?_
      refine qm_G.s1 rfl (qm_x_alen1 (len := 4) rfl) ?_
      refine qm_G.s1 rfl (qm_x_aload rfl) ?_
      refine qm_G.call rfl rfl rfl ?_
      refine qm_C.go (cd := qm_P0) (lv := [(0, qm_R (some (1, 16, 0)))]) rfl rfl ?_
      refine qm_G.s1 rfl (qm_x_pushI 1 rfl) ?_
      refine qm_G.s1 rfl (qm_x_if_eq_f ⟨by decide, by decide⟩ (by decide)) ?_
      refine qm_G.s1 rfl (qm_x_aload rfl) ?_
      refine qm_G.s1 rfl (qm_x_getgI (v := 0) rfl rfl) ?_
      refine qm_G.s1 rfl (qm_x_goto) ?_
      refine qm_G.ret rfl rfl ⟨_, rfl, ?_⟩
      refine qm_G.s1 rfl (qm_x_ishr0) ?_
      refine qm_G.ret rfl rfl ⟨_, rfl, ?_⟩
      refine qm_G.s1 rfl (qm_x_icmp_ge_f ⟨by omega, by omega⟩ ⟨by decide, by decide⟩ (by omega)) ?_
      refine qm_G.s1 rfl (qm_x_aload rfl) ?_
      refine qm_G.s1 rfl (qm_x_getfR (q := (some (0, 69, 0))) (hS 61 rfl) (hR 61 13 69 rfl rfl)) ?_
      refine qm_G.s1 rfl (qm_x_iload rfl) ?_
      refine qm_G.s1 rfl (qm_x_iload rfl) ?_
      refine qm_G.s1 rfl (qm_x_iadd) ?_
      have gT4 := (hT (a + 1) (by omega)).2
      refine qm_G.s1 rfl (qm_x_iald (v := (T (a + 1))) (qm_arS hS rfl rfl) rfl (by omega) (by omega) (by decide) (Eq.trans (congrArg (J 69 0) (by omega)) (hT (a + 1) (by omega)).1)) ?_
      refine qm_G.s1 rfl (qm_x_aload rfl) ?_
      refine qm_G.s1 rfl (qm_x_iload rfl) ?_
      refine qm_G.call rfl rfl rfl ?_
      refine qm_C.go (cd := qm_P162) (lv := [(0, qm_R (some (1, 16, 0))), (1, qm_I (qm_i (0 + 1)))]) rfl rfl ?_
      refine qm_G.s1 rfl (qm_x_aload rfl) ?_
      refine qm_G.call rfl rfl rfl ?_
      refine qm_C.go (cd := qm_P1) (lv := [(0, qm_R (some (1, 16, 0)))]) rfl rfl ?_
      refine qm_G.s1 rfl (qm_x_pushI 1 rfl) ?_
      refine qm_G.s1 rfl (qm_x_if_eq_f ⟨by decide, by decide⟩ (by decide)) ?_
      refine qm_G.s1 rfl (qm_x_aload rfl) ?_
      refine qm_G.s1 rfl (qm_x_getgI (v := 0) rfl rfl) ?_
      refine qm_G.s1 rfl (qm_x_if_ne_f ⟨by decide, by decide⟩ (by decide)) ?_
      refine qm_G.s1 rfl (qm_x_pushI 1 rfl) ?_
      refine qm_G.s1 rfl (qm_x_goto) ?_
      refine qm_G.ret rfl rfl ⟨_, rfl, ?_⟩
      refine qm_G.s1 rfl (qm_x_if_eq_f ⟨by decide, by decide⟩ (by decide)) ?_
      refine qm_G.s1 rfl (qm_x_aload rfl) ?_
      refine qm_G.s1 rfl (qm_x_getgR rfl rfl) ?_
      refine qm_G.s1 rfl (qm_x_iload rfl) ?_
      refine qm_G.cs rfl rfl rfl ?_
      refine qm_C.go (cd := qm_P134) (lv := [(0, qm_R (some (1, 29, 0))), (1, qm_I (qm_i (0 + 1)))]) rfl rfl ?_
      refine qm_G.s1 rfl (qm_x_iload rfl) ?_
      refine qm_G.s1 rfl (qm_x_aload rfl) ?_
      refine qm_G.s1 rfl (qm_x_alen1 (len := 4) rfl) ?_
      refine qm_G.csv rfl rfl rfl ?_
      refine qm_C.go (cd := qm_P69) (lv := [(0, qm_I (qm_i (0 + 1))), (1, qm_I (qm_i 4))]) rfl rfl ?_
      refine qm_G.s1 rfl (qm_x_iload rfl) ?_
      refine qm_G.s1 rfl (qm_x_iload rfl) ?_
      refine qm_G.s1 rfl (show qm_St (qm_o_sio 5) _ _ _ _ _ (qm_R (qm_sio X) :: _) _ from rfl) ?_
      refine qm_G.cs rfl rfl rfl ?_
      refine qm_C.go (cd := qm_P3) (lv := [(0, qm_I (qm_i (0 + 1))), (1, qm_I (qm_i 4)), (2, qm_R ((qm_sio X)))]) rfl rfl ?_
      refine qm_G.s1 rfl (qm_x_iload rfl) ?_
      refine qm_G.s1 rfl (qm_x_if_lt_f ⟨by omega, by omega⟩ (by omega)) ?_
      refine qm_G.s1 rfl (qm_x_iload rfl) ?_
      refine qm_G.s1 rfl (qm_x_iload rfl) ?_
      refine qm_G.s1 rfl (qm_x_icmp_lt_t ⟨by omega, by omega⟩ ⟨by decide, by decide⟩ (by omega)) ?_
      refine qm_G.sp (lv1 := [(0, qm_I (qm_i (0 + 1)))]) rfl rfl (qm_x_iload rfl) ?_
      refine qm_G.ret rfl rfl ⟨_, rfl, ?_⟩
      refine qm_G.s1 rfl (qm_x_popI) ?_
      refine qm_G.retv rfl ⟨rfl, ?_⟩
      refine qm_G.s1 rfl (qm_x_aload rfl) ?_
      refine qm_G.s1 rfl (qm_x_iload rfl) ?_
      refine qm_G.s1 rfl (qm_x_bald1 (len := 4) (v := 117) rfl rfl (by omega) (by omega) (by rw [show Int.toNat (0 + 1) = 1 by omega]; rfl)) ?_
      refine qm_G.s1 rfl (qm_x_pushI 255 rfl) ?_
      refine qm_G.s1 rfl (qm_x_iand255 (by omega)) ?_
      refine qm_G.s1 rfl (qm_x_i2c (by omega)) ?_
      refine qm_G.ret rfl rfl ⟨_, rfl, ?_⟩
      refine qm_G.ret rfl rfl ⟨_, rfl, ?_⟩
      refine qm_y_icmp_eq rfl ⟨by omega, by omega⟩ ⟨by decide, by decide⟩ (fun c5 => ?_) (fun c5 => ?_)
      · refine qm_G.sp (lv1 := [(0, qm_R (some (0, 61, 0))), (1, qm_I (qm_i x)), (2, qm_R (some (1, 16, 0))), (3, qm_I (qm_i (0 + 1)))]) rfl rfl (qm_x_iinc (lv' := [(3, qm_I (qm_i ((0 + 1) + 1))), (0, qm_R (some (0, 61, 0))), (1, qm_I (qm_i x)), (2, qm_R (some (1, 16, 0)))]) 1 rfl rfl rfl) ?_
        refine qm_G.s1 rfl (qm_x_goto) ?_
        refine qm_G.sp (lv1 := [(0, qm_R (some (0, 61, 0))), (1, qm_I (qm_i x)), (2, qm_R (some (1, 16, 0))), (3, qm_I (qm_i ((0 + 1) + 1)))]) rfl rfl (qm_x_iload rfl) ?_
        refine qm_G.s1 rfl (qm_x_aload rfl) ?_
        refine qm_G.call rfl rfl rfl ?_
        refine qm_C.go (cd := qm_P53) (lv := [(0, qm_R (some (1, 16, 0)))]) rfl rfl ?_
        refine qm_G.s1 rfl (qm_x_aload rfl) ?_
        refine qm_G.s1 rfl (qm_x_getgR rfl rfl) ?_
        refine qm_G.s1 rfl (qm_x_alen1 (len := 4) rfl) ?_
        refine qm_G.s1 rfl (qm_x_aload rfl) ?_
        refine qm_G.call rfl rfl rfl ?_
        refine qm_C.go (cd := qm_P0) (lv := [(0, qm_R (some (1, 16, 0)))]) rfl rfl ?_
        refine qm_G.s1 rfl (qm_x_pushI 1 rfl) ?_
        refine qm_G.s1 rfl (qm_x_if_eq_f ⟨by decide, by decide⟩ (by decide)) ?_
        refine qm_G.s1 rfl (qm_x_aload rfl) ?_
        refine qm_G.s1 rfl (qm_x_getgI (v := 0) rfl rfl) ?_
        refine qm_G.s1 rfl (qm_x_goto) ?_
        refine qm_G.ret rfl rfl ⟨_, rfl, ?_⟩
        refine qm_G.s1 rfl (qm_x_ishr0) ?_
        refine qm_G.ret rfl rfl ⟨_, rfl, ?_⟩
        refine qm_G.s1 rfl (qm_x_icmp_ge_f ⟨by omega, by omega⟩ ⟨by decide, by decide⟩ (by omega)) ?_
        refine qm_G.s1 rfl (qm_x_aload rfl) ?_
        refine qm_G.s1 rfl (qm_x_getfR (q := (some (0, 69, 0))) (hS 61 rfl) (hR 61 13 69 rfl rfl)) ?_
        refine qm_G.s1 rfl (qm_x_iload rfl) ?_
        refine qm_G.s1 rfl (qm_x_iload rfl) ?_
        refine qm_G.s1 rfl (qm_x_iadd) ?_
        have gT6 := (hT (a + 2) (by omega)).2
        refine qm_G.s1 rfl (qm_x_iald (v := (T (a + 2))) (qm_arS hS rfl rfl) rfl (by omega) (by omega) (by decide) (Eq.trans (congrArg (J 69 0) (by omega)) (hT (a + 2) (by omega)).1)) ?_
        refine qm_G.s1 rfl (qm_x_aload rfl) ?_
        refine qm_G.s1 rfl (qm_x_iload rfl) ?_
        refine qm_G.call rfl rfl rfl ?_
        refine qm_C.go (cd := qm_P162) (lv := [(0, qm_R (some (1, 16, 0))), (1, qm_I (qm_i ((0 + 1) + 1)))]) rfl rfl ?_
        refine qm_G.s1 rfl (qm_x_aload rfl) ?_
        refine qm_G.call rfl rfl rfl ?_
        refine qm_C.go (cd := qm_P1) (lv := [(0, qm_R (some (1, 16, 0)))]) rfl rfl ?_
        refine qm_G.s1 rfl (qm_x_pushI 1 rfl) ?_
        refine qm_G.s1 rfl (qm_x_if_eq_f ⟨by decide, by decide⟩ (by decide)) ?_
        refine qm_G.s1 rfl (qm_x_aload rfl) ?_
        refine qm_G.s1 rfl (qm_x_getgI (v := 0) rfl rfl) ?_
        refine qm_G.s1 rfl (qm_x_if_ne_f ⟨by decide, by decide⟩ (by decide)) ?_
        refine qm_G.s1 rfl (qm_x_pushI 1 rfl) ?_
        refine qm_G.s1 rfl (qm_x_goto) ?_
        refine qm_G.ret rfl rfl ⟨_, rfl, ?_⟩
        refine qm_G.s1 rfl (qm_x_if_eq_f ⟨by decide, by decide⟩ (by decide)) ?_
        refine qm_G.s1 rfl (qm_x_aload rfl) ?_
        refine qm_G.s1 rfl (qm_x_getgR rfl rfl) ?_
        refine qm_G.s1 rfl (qm_x_iload rfl) ?_
        refine qm_G.cs rfl rfl rfl ?_
        refine qm_C.go (cd := qm_P134) (lv := [(0, qm_R (some (1, 29, 0))), (1, qm_I (qm_i ((0 + 1) + 1)))]) rfl rfl ?_
        refine qm_G.s1 rfl (qm_x_iload rfl) ?_
        refine qm_G.s1 rfl (qm_x_aload rfl) ?_
        refine qm_G.s1 rfl (qm_x_alen1 (len := 4) rfl) ?_
        refine qm_G.csv rfl rfl rfl ?_
        refine qm_C.go (cd := qm_P69) (lv := [(0, qm_I (qm_i ((0 + 1) + 1))), (1, qm_I (qm_i 4))]) rfl rfl ?_
        refine qm_G.s1 rfl (qm_x_iload rfl) ?_
        refine qm_G.s1 rfl (qm_x_iload rfl) ?_
        refine qm_G.s1 rfl (show qm_St (qm_o_sio 5) _ _ _ _ _ (qm_R (qm_sio X) :: _) _ from rfl) ?_
        refine qm_G.cs rfl rfl rfl ?_
        refine qm_C.go (cd := qm_P3) (lv := [(0, qm_I (qm_i ((0 + 1) + 1))), (1, qm_I (qm_i 4)), (2, qm_R ((qm_sio X)))]) rfl rfl ?_
        refine qm_G.s1 rfl (qm_x_iload rfl) ?_
        refine qm_G.s1 rfl (qm_x_if_lt_f ⟨by omega, by omega⟩ (by omega)) ?_
        refine qm_G.s1 rfl (qm_x_iload rfl) ?_
        refine qm_G.s1 rfl (qm_x_iload rfl) ?_
        refine qm_G.s1 rfl (qm_x_icmp_lt_t ⟨by omega, by omega⟩ ⟨by decide, by decide⟩ (by omega)) ?_
        refine qm_G.sp (lv1 := [(0, qm_I (qm_i ((0 + 1) + 1)))]) rfl rfl (qm_x_iload rfl) ?_
        refine qm_G.ret rfl rfl ⟨_, rfl, ?_⟩
        refine qm_G.s1 rfl (qm_x_popI) ?_
        refine qm_G.retv rfl ⟨rfl, ?_⟩
        refine qm_G.s1 rfl (qm_x_aload rfl) ?_
        refine qm_G.s1 rfl (qm_x_iload rfl) ?_
        refine qm_G.s1 rfl (qm_x_bald1 (len := 4) (v := 108) rfl rfl (by omega) (by omega) (by rw [show Int.toNat ((0 + 1) + 1) = 2 by omega]; rfl)) ?_
        refine qm_G.s1 rfl (qm_x_pushI 255 rfl) ?_
        refine qm_G.s1 rfl (qm_x_iand255 (by omega)) ?_
        refine qm_G.s1 rfl (qm_x_i2c (by omega)) ?_
        refine qm_G.ret rfl rfl ⟨_, rfl, ?_⟩
        refine qm_G.ret rfl rfl ⟨_, rfl, ?_⟩
        refine qm_y_icmp_eq rfl ⟨by omega, by omega⟩ ⟨by decide, by decide⟩ (fun c7 => ?_) (fun c7 => ?_)
        · refine qm_G.sp (lv1 := [(0, qm_R (some (0, 61, 0))), (1, qm_I (qm_i x)), (2, qm_R (some (1, 16, 0))), (3, qm_I (qm_i ((0 + 1) + 1)))]) rfl rfl (qm_x_iinc (lv' := [(3, qm_I (qm_i (((0 + 1) + 1) + 1))), (0, qm_R (some (0, 61, 0))), (1, qm_I (qm_i x)), (2, qm_R (some (1, 16, 0)))]) 1 rfl rfl rfl) ?_
          refine qm_G.s1 rfl (qm_x_goto) ?_
          refine qm_G.sp (lv1 := [(0, qm_R (some (0, 61, 0))), (1, qm_I (qm_i x)), (2, qm_R (some (1, 16, 0))), (3, qm_I (qm_i (((0 + 1) + 1) + 1)))]) rfl rfl (qm_x_iload rfl) ?_
          refine qm_G.s1 rfl (qm_x_aload rfl) ?_
          refine qm_G.call rfl rfl rfl ?_
          refine qm_C.go (cd := qm_P53) (lv := [(0, qm_R (some (1, 16, 0)))]) rfl rfl ?_
          refine qm_G.s1 rfl (qm_x_aload rfl) ?_
          refine qm_G.s1 rfl (qm_x_getgR rfl rfl) ?_
          refine qm_G.s1 rfl (qm_x_alen1 (len := 4) rfl) ?_
          refine qm_G.s1 rfl (qm_x_aload rfl) ?_
          refine qm_G.call rfl rfl rfl ?_
          refine qm_C.go (cd := qm_P0) (lv := [(0, qm_R (some (1, 16, 0)))]) rfl rfl ?_
          refine qm_G.s1 rfl (qm_x_pushI 1 rfl) ?_
          refine qm_G.s1 rfl (qm_x_if_eq_f ⟨by decide, by decide⟩ (by decide)) ?_
          refine qm_G.s1 rfl (qm_x_aload rfl) ?_
          refine qm_G.s1 rfl (qm_x_getgI (v := 0) rfl rfl) ?_
          refine qm_G.s1 rfl (qm_x_goto) ?_
          refine qm_G.ret rfl rfl ⟨_, rfl, ?_⟩
          refine qm_G.s1 rfl (qm_x_ishr0) ?_
          refine qm_G.ret rfl rfl ⟨_, rfl, ?_⟩
          refine qm_G.s1 rfl (qm_x_icmp_ge_f ⟨by omega, by omega⟩ ⟨by decide, by decide⟩ (by omega)) ?_
          refine qm_G.s1 rfl (qm_x_aload rfl) ?_
          refine qm_G.s1 rfl (qm_x_getfR (q := (some (0, 69, 0))) (hS 61 rfl) (hR 61 13 69 rfl rfl)) ?_
          refine qm_G.s1 rfl (qm_x_iload rfl) ?_
          refine qm_G.s1 rfl (qm_x_iload rfl) ?_
          refine qm_G.s1 rfl (qm_x_iadd) ?_
          have gT8 := (hT (a + 3) (by omega)).2
          refine qm_G.s1 rfl (qm_x_iald (v := (T (a + 3))) (qm_arS hS rfl rfl) rfl (by omega) (by omega) (by decide) (Eq.trans (congrArg (J 69 0) (by omega)) (hT (a + 3) (by omega)).1)) ?_
          refine qm_G.s1 rfl (qm_x_aload rfl) ?_
          refine qm_G.s1 rfl (qm_x_iload rfl) ?_
          refine qm_G.call rfl rfl rfl ?_
          refine qm_C.go (cd := qm_P162) (lv := [(0, qm_R (some (1, 16, 0))), (1, qm_I (qm_i (((0 + 1) + 1) + 1)))]) rfl rfl ?_
          refine qm_G.s1 rfl (qm_x_aload rfl) ?_
          refine qm_G.call rfl rfl rfl ?_
          refine qm_C.go (cd := qm_P1) (lv := [(0, qm_R (some (1, 16, 0)))]) rfl rfl ?_
          refine qm_G.s1 rfl (qm_x_pushI 1 rfl) ?_
          refine qm_G.s1 rfl (qm_x_if_eq_f ⟨by decide, by decide⟩ (by decide)) ?_
          refine qm_G.s1 rfl (qm_x_aload rfl) ?_
          refine qm_G.s1 rfl (qm_x_getgI (v := 0) rfl rfl) ?_
          refine qm_G.s1 rfl (qm_x_if_ne_f ⟨by decide, by decide⟩ (by decide)) ?_
          refine qm_G.s1 rfl (qm_x_pushI 1 rfl) ?_
          refine qm_G.s1 rfl (qm_x_goto) ?_
          refine qm_G.ret rfl rfl ⟨_, rfl, ?_⟩
          refine qm_G.s1 rfl (qm_x_if_eq_f ⟨by decide, by decide⟩ (by decide)) ?_
          refine qm_G.s1 rfl (qm_x_aload rfl) ?_
          refine qm_G.s1 rfl (qm_x_getgR rfl rfl) ?_
          refine qm_G.s1 rfl (qm_x_iload rfl) ?_
          refine qm_G.cs rfl rfl rfl ?_
          refine qm_C.go (cd := qm_P134) (lv := [(0, qm_R (some (1, 29, 0))), (1, qm_I (qm_i (((0 + 1) + 1) + 1)))]) rfl rfl ?_
          refine qm_G.s1 rfl (qm_x_iload rfl) ?_
          refine qm_G.s1 rfl (qm_x_aload rfl) ?_
          refine qm_G.s1 rfl (qm_x_alen1 (len := 4) rfl) ?_
          refine qm_G.csv rfl rfl rfl ?_
          refine qm_C.go (cd := qm_P69) (lv := [(0, qm_I (qm_i (((0 + 1) + 1) + 1))), (1, qm_I (qm_i 4))]) rfl rfl ?_
          refine qm_G.s1 rfl (qm_x_iload rfl) ?_
          refine qm_G.s1 rfl (qm_x_iload rfl) ?_
          refine qm_G.s1 rfl (show qm_St (qm_o_sio 5) _ _ _ _ _ (qm_R (qm_sio X) :: _) _ from rfl) ?_
          refine qm_G.cs rfl rfl rfl ?_
          refine qm_C.go (cd := qm_P3) (lv := [(0, qm_I (qm_i (((0 + 1) + 1) + 1))), (1, qm_I (qm_i 4)), (2, qm_R ((qm_sio X)))]) rfl rfl ?_
          refine qm_G.s1 rfl (qm_x_iload rfl) ?_
          refine qm_G.s1 rfl (qm_x_if_lt_f ⟨by omega, by omega⟩ (by omega)) ?_
          refine qm_G.s1 rfl (qm_x_iload rfl) ?_
          refine qm_G.s1 rfl (qm_x_iload rfl) ?_
          refine qm_G.s1 rfl (qm_x_icmp_lt_t ⟨by omega, by omega⟩ ⟨by decide, by decide⟩ (by omega)) ?_
          refine qm_G.sp (lv1 := [(0, qm_I (qm_i (((0 + 1) + 1) + 1)))]) rfl rfl (qm_x_iload rfl) ?_
          refine qm_G.ret rfl rfl ⟨_, rfl, ?_⟩
          refine qm_G.s1 rfl (qm_x_popI) ?_
          refine qm_G.retv rfl ⟨rfl, ?_⟩
          refine qm_G.s1 rfl (qm_x_aload rfl) ?_
          refine qm_G.s1 rfl (qm_x_iload rfl) ?_
          refine qm_G.s1 rfl (qm_x_bald1 (len := 4) (v := 108) rfl rfl (by omega) (by omega) (by rw [show Int.toNat (((0 + 1) + 1) + 1) = 3 by omega]; rfl)) ?_
          refine qm_G.s1 rfl (qm_x_pushI 255 rfl) ?_
          refine qm_G.s1 rfl (qm_x_iand255 (by omega)) ?_
          refine qm_G.s1 rfl (qm_x_i2c (by omega)) ?_
          refine qm_G.ret rfl rfl ⟨_, rfl, ?_⟩
          refine qm_G.ret rfl rfl ⟨_, rfl, ?_⟩
          refine qm_y_icmp_eq rfl ⟨by omega, by omega⟩ ⟨by decide, by decide⟩ (fun c9 => ?_) (fun c9 => ?_)
          · refine qm_G.sp (lv1 := [(0, qm_R (some (0, 61, 0))), (1, qm_I (qm_i x)), (2, qm_R (some (1, 16, 0))), (3, qm_I (qm_i (((0 + 1) + 1) + 1)))]) rfl rfl (qm_x_iinc (lv' := [(3, qm_I (qm_i ((((0 + 1) + 1) + 1) + 1))), (0, qm_R (some (0, 61, 0))), (1, qm_I (qm_i x)), (2, qm_R (some (1, 16, 0)))]) 1 rfl rfl rfl) ?_
            refine qm_G.s1 rfl (qm_x_goto) ?_
            refine qm_G.sp (lv1 := [(0, qm_R (some (0, 61, 0))), (1, qm_I (qm_i x)), (2, qm_R (some (1, 16, 0))), (3, qm_I (qm_i ((((0 + 1) + 1) + 1) + 1)))]) rfl rfl (qm_x_iload rfl) ?_
            refine qm_G.s1 rfl (qm_x_aload rfl) ?_
            refine qm_G.call rfl rfl rfl ?_
            refine qm_C.go (cd := qm_P53) (lv := [(0, qm_R (some (1, 16, 0)))]) rfl rfl ?_
            refine qm_G.s1 rfl (qm_x_aload rfl) ?_
            refine qm_G.s1 rfl (qm_x_getgR rfl rfl) ?_
            refine qm_G.s1 rfl (qm_x_alen1 (len := 4) rfl) ?_
            refine qm_G.s1 rfl (qm_x_aload rfl) ?_
            refine qm_G.call rfl rfl rfl ?_
            refine qm_C.go (cd := qm_P0) (lv := [(0, qm_R (some (1, 16, 0)))]) rfl rfl ?_
            refine qm_G.s1 rfl (qm_x_pushI 1 rfl) ?_
            refine qm_G.s1 rfl (qm_x_if_eq_f ⟨by decide, by decide⟩ (by decide)) ?_
            refine qm_G.s1 rfl (qm_x_aload rfl) ?_
            refine qm_G.s1 rfl (qm_x_getgI (v := 0) rfl rfl) ?_
            refine qm_G.s1 rfl (qm_x_goto) ?_
            refine qm_G.ret rfl rfl ⟨_, rfl, ?_⟩
            refine qm_G.s1 rfl (qm_x_ishr0) ?_
            refine qm_G.ret rfl rfl ⟨_, rfl, ?_⟩
            refine qm_G.s1 rfl (qm_x_icmp_ge_t ⟨by omega, by omega⟩ ⟨by decide, by decide⟩ (by omega)) ?_
            refine qm_G.sp (lv1 := []) rfl rfl (qm_x_pushI 1 rfl) ?_
            refine qm_G.ret rfl rfl (k1 ?_)
            refine ⟨by show e = a + 4; omega, fun j hj => ?_⟩
            change j < 4 at hj
            rcases (show j = 0 ∨ j = 1 ∨ j = 2 ∨ j = 3 by omega) with c9 | c9 | c9 | c9
            · subst c9; exact (show T (a + 0) = 112 by omega)
            · subst c9; exact (show T (a + 1) = 117 by omega)
            · subst c9; exact (show T (a + 2) = 108 by omega)
            · subst c9; exact (show T (a + 3) = 108 by omega)
          · refine qm_G.s1 rfl (qm_x_pushI 0 rfl) ?_
            exact qm_G.ret rfl rfl (k0 (fun h => by have h9 : T (a + 3) = 108 := h.2 3 (by decide); omega))
        · refine qm_G.s1 rfl (qm_x_pushI 0 rfl) ?_
          exact qm_G.ret rfl rfl (k0 (fun h => by have h9 : T (a + 2) = 108 := h.2 2 (by decide); omega))
      · refine qm_G.s1 rfl (qm_x_pushI 0 rfl) ?_
        exact qm_G.ret rfl rfl (k0 (fun h => by have h9 : T (a + 1) = 117 := h.2 1 (by decide); omega))
    · refine qm_G.s1 rfl (qm_x_pushI 0 rfl) ?_
      exact qm_G.ret rfl rfl (k0 (fun h => by have h9 : T (a + 0) = 112 := h.2 0 (by decide); omega))
  · refine qm_G.s1 rfl (qm_x_pushI 0 rfl) ?_
    exact qm_G.ret rfl rfl (k0 (fun h => by have h9 : e = a + 4 := h.1; omega))
theorem qm_m_isw5 {S : List qm_Sh} {K : qm_J} {L : qm_Ct Int64} {D : qm_Ct UInt64} {R : qm_Ct (Option qm_Rf)} {X : Nat × (Nat → Int32)} {Q : Option qm_V → qm_Hp → Prop} {T : Nat → Int} {ln : Int} {J : qm_J} {x : Int} {a e : Nat} (hS : qm_Sd S) (hR : qm_Rd R) (hT : ∀ i, i < 100 → J 69 0 i = T i ∧ 0 ≤ T i ∧ T i ≤ 127) (rl : 0 ≤ ln ∧ ln ≤ 100) (hl : J 61 0 12 = ln) (hx : x = (a : Int)) (h16 : J 61 0 16 = (e : Int)) (h1 : a ≤ e ∧ e ≤ 100) (k1 : qm_isw T a e 5 → Q (some (qm_I (qm_i 1))) (qm_H S J K L D R X)) (k0 : ¬ qm_isw T a e 5 → Q (some (qm_I (qm_i 0))) (qm_H S J K L D R X)) : qm_C qm_P 175 [qm_R (some (0, 61, 0)), qm_I (qm_i x), qm_R (some (1, 17, 0))] (qm_H S J K L D R X) Q := by
  refine qm_C.go (cd := qm_P175) (lv := [(0, qm_R (some (0, 61, 0))), (1, qm_I (qm_i x)), (2, qm_R (some (1, 17, 0)))]) rfl rfl ?_
  refine qm_G.s1 rfl (qm_x_aload rfl) ?_
  refine qm_G.s1 rfl (qm_x_getfI (v := (e : Int)) (hS 61 rfl) h16) ?_
  refine qm_G.s1 rfl (qm_x_iload rfl) ?_
  refine qm_G.s1 rfl (qm_x_isub) ?_
  refine qm_G.s1 rfl (qm_x_aload rfl) ?_
  refine qm_G.call rfl rfl rfl ?_
  refine qm_C.go (cd := qm_P53) (lv := [(0, qm_R (some (1, 17, 0)))]) rfl rfl ?_
  refine qm_G.s1 rfl (qm_x_aload rfl) ?_
  refine qm_G.s1 rfl (qm_x_getgR rfl rfl) ?_
  refine qm_G.s1 rfl (qm_x_alen1 (len := 4) rfl) ?_
  refine qm_G.s1 rfl (qm_x_aload rfl) ?_
  refine qm_G.call rfl rfl rfl ?_
  refine qm_C.go (cd := qm_P0) (lv := [(0, qm_R (some (1, 17, 0)))]) rfl rfl ?_
  refine qm_G.s1 rfl (qm_x_pushI 1 rfl) ?_
  refine qm_G.s1 rfl (qm_x_if_eq_f ⟨by decide, by decide⟩ (by decide)) ?_
  refine qm_G.s1 rfl (qm_x_aload rfl) ?_
  refine qm_G.s1 rfl (qm_x_getgI (v := 0) rfl rfl) ?_
  refine qm_G.s1 rfl (qm_x_goto) ?_
  refine qm_G.ret rfl rfl ⟨_, rfl, ?_⟩
  refine qm_G.s1 rfl (qm_x_ishr0) ?_
  refine qm_G.ret rfl rfl ⟨_, rfl, ?_⟩
  refine qm_y_icmp_eq rfl ⟨by omega, by omega⟩ ⟨by decide, by decide⟩ (fun c1 => ?_) (fun c1 => ?_)
  · refine qm_G.sp (lv1 := [(0, qm_R (some (0, 61, 0))), (1, qm_I (qm_i x)), (2, qm_R (some (1, 17, 0)))]) rfl rfl (qm_x_pushI 0 rfl) ?_
    refine qm_G.s1 rfl (qm_x_istore (lv' := [(3, qm_I (qm_i 0)), (0, qm_R (some (0, 61, 0))), (1, qm_I (qm_i x)), (2, qm_R (some (1, 17, 0)))]) rfl) ?_
    refine qm_G.sp (lv1 := [(0, qm_R (some (0, 61, 0))), (1, qm_I (qm_i x)), (2, qm_R (some (1, 17, 0))), (3, qm_I (qm_i 0))]) rfl rfl (qm_x_iload rfl) ?_
    refine qm_G.s1 rfl (qm_x_aload rfl) ?_
    refine qm_G.call rfl rfl rfl ?_
    refine qm_C.go (cd := qm_P53) (lv := [(0, qm_R (some (1, 17, 0)))]) rfl rfl ?_
    refine qm_G.s1 rfl (qm_x_aload rfl) ?_
    refine qm_G.s1 rfl (qm_x_getgR rfl rfl) ?_
    refine qm_G.s1 rfl (qm_x_alen1 (len := 4) rfl) ?_
    refine qm_G.s1 rfl (qm_x_aload rfl) ?_
    refine qm_G.call rfl rfl rfl ?_
    refine qm_C.go (cd := qm_P0) (lv := [(0, qm_R (some (1, 17, 0)))]) rfl rfl ?_
    refine qm_G.s1 rfl (qm_x_pushI 1 rfl) ?_
    refine qm_G.s1 rfl (qm_x_if_eq_f ⟨by decide, by decide⟩ (by decide)) ?_
    refine qm_G.s1 rfl (qm_x_aload rfl) ?_
    refine qm_G.s1 rfl (qm_x_getgI (v := 0) rfl rfl) ?_
    refine qm_G.s1 rfl (qm_x_goto) ?_
    refine qm_G.ret rfl rfl ⟨_, rfl, ?_⟩
    refine qm_G.s1 rfl (qm_x_ishr0) ?_
    refine qm_G.ret rfl rfl ⟨_, rfl, ?_⟩
    refine qm_G.s1 rfl (qm_x_icmp_ge_f ⟨by decide, by decide⟩ ⟨by decide, by decide⟩ (by decide)) ?_
    refine qm_G.s1 rfl (qm_x_aload rfl) ?_
    refine qm_G.s1 rfl (qm_x_getfR (q := (some (0, 69, 0))) (hS 61 rfl) (hR 61 13 69 rfl rfl)) ?_
    refine qm_G.s1 rfl (qm_x_iload rfl) ?_
    refine qm_G.s1 rfl (qm_x_iload rfl) ?_
    refine qm_G.s1 rfl (qm_x_iadd) ?_
    have gT2 := (hT (a + 0) (by omega)).2
    refine qm_G.s1 rfl (qm_x_iald (v := (T (a + 0))) (qm_arS hS rfl rfl) rfl (by omega) (by omega) (by decide) (Eq.trans (congrArg (J 69 0) (by omega)) (hT (a + 0) (by omega)).1)) ?_
    refine qm_G.s1 rfl (qm_x_aload rfl) ?_
    refine qm_G.s1 rfl (qm_x_iload rfl) ?_
    refine qm_G.call rfl rfl rfl ?_
    refine qm_C.go (cd := qm_P162) (lv := [(0, qm_R (some (1, 17, 0))), (1, qm_I (qm_i 0))]) rfl rfl ?_
    refine qm_G.s1 rfl (qm_x_aload rfl) ?_
    refine qm_G.call rfl rfl rfl ?_
    refine qm_C.go (cd := qm_P1) (lv := [(0, qm_R (some (1, 17, 0)))]) rfl rfl ?_
    refine qm_G.s1 rfl (qm_x_pushI 1 rfl) ?_
    refine qm_G.s1 rfl (qm_x_if_eq_f ⟨by decide, by decide⟩ (by decide)) ?_
    refine qm_G.s1 rfl (qm_x_aload rfl) ?_
    refine qm_G.s1 rfl (qm_x_getgI (v := 0) rfl rfl) ?_
    refine qm_G.s1 rfl (qm_x_if_ne_f ⟨by decide, by decide⟩ (by decide)) ?_
    refine qm_G.s1 rfl (qm_x_pushI 1 rfl) ?_
    refine qm_G.s1 rfl (qm_x_goto) ?_
    refine qm_G.ret rfl rfl ⟨_, rfl, ?_⟩
    refine qm_G.s1 rfl (qm_x_if_eq_f ⟨by decide, by decide⟩ (by decide)) ?_
    refine qm_G.s1 rfl (qm_x_aload rfl) ?_
    refine qm_G.s1 rfl (qm_x_getgR rfl rfl) ?_
    refine qm_G.s1 rfl (qm_x_iload rfl) ?_
    refine qm_G.cs rfl rfl rfl ?_
    refine qm_C.go (cd := qm_P134) (lv := [(0, qm_R (some (1, 30, 0))), (1, qm_I (qm_i 0))]) rfl rfl ?_
    refine qm_G.s1 rfl (qm_x_iload rfl) ?_
    refine qm_G.s1 rfl (qm_x_aload rfl) ?_
    refine qm_G.s1 rfl (qm_x_alen1 (len := 4) rfl) ?_
    refine qm_G.csv rfl rfl rfl ?_
    refine qm_C.go (cd := qm_P69) (lv := [(0, qm_I (qm_i 0)), (1, qm_I (qm_i 4))]) rfl rfl ?_
    refine qm_G.s1 rfl (qm_x_iload rfl) ?_
    refine qm_G.s1 rfl (qm_x_iload rfl) ?_
    refine qm_G.s1 rfl (show qm_St (qm_o_sio 5) _ _ _ _ _ (qm_R (qm_sio X) :: _) _ from rfl) ?_
    refine qm_G.cs rfl rfl rfl ?_
    refine qm_C.go (cd := qm_P3) (lv := [(0, qm_I (qm_i 0)), (1, qm_I (qm_i 4)), (2, qm_R ((qm_sio X)))]) rfl rfl ?_
    refine qm_G.s1 rfl (qm_x_iload rfl) ?_
    refine qm_G.s1 rfl (qm_x_if_lt_f ⟨by decide, by decide⟩ (by decide)) ?_
    refine qm_G.s1 rfl (qm_x_iload rfl) ?_
    refine qm_G.s1 rfl (qm_x_iload rfl) ?_
    refine qm_G.s1 rfl (qm_x_icmp_lt_t ⟨by decide, by decide⟩ ⟨by decide, by decide⟩ (by decide)) ?_
    refine qm_G.sp (lv1 := [(0, qm_I (qm_i 0))]) rfl rfl (qm_x_iload rfl) ?_
    refine qm_G.ret rfl rfl ⟨_, rfl, ?_⟩
    refine qm_G.s1 rfl (qm_x_popI) ?_
    refine qm_G.retv rfl ⟨rfl, ?_⟩
    refine qm_G.s1 rfl (qm_x_aload rfl) ?_
    refine qm_G.s1 rfl (qm_x_iload rfl) ?_
    refine qm_G.s1 rfl (qm_x_bald1 (len := 4) (v := 102) rfl rfl (by omega) (by omega) (by rw [show Int.toNat 0 = 0 by omega]; rfl)) ?_
    refine qm_G.s1 rfl (qm_x_pushI 255 rfl) ?_
    refine qm_G.s1 rfl (qm_x_iand255 (by omega)) ?_
    refine qm_G.s1 rfl (qm_x_i2c (by omega)) ?_
    refine qm_G.ret rfl rfl ⟨_, rfl, ?_⟩
    refine qm_G.ret rfl rfl ⟨_, rfl, ?_⟩
    refine qm_y_icmp_eq rfl ⟨by omega, by omega⟩ ⟨by decide, by decide⟩ (fun c3 => ?_) (fun c3 => ?_)
    · refine qm_G.sp (lv1 := [(0, qm_R (some (0, 61, 0))), (1, qm_I (qm_i x)), (2, qm_R (some (1, 17, 0))), (3, qm_I (qm_i 0))]) rfl rfl (qm_x_iinc (lv' := [(3, qm_I (qm_i (0 + 1))), (0, qm_R (some (0, 61, 0))), (1, qm_I (qm_i x)), (2, qm_R (some (1, 17, 0)))]) 1 rfl rfl rfl) ?_
      refine qm_G.s1 rfl (qm_x_goto) ?_
      refine qm_G.sp (lv1 := [(0, qm_R (some (0, 61, 0))), (1, qm_I (qm_i x)), (2, qm_R (some (1, 17, 0))), (3, qm_I (qm_i (0 + 1)))]) rfl rfl (qm_x_iload rfl) ?_
      refine qm_G.s1 rfl (qm_x_aload rfl) ?_
      refine qm_G.call rfl rfl rfl ?_
      refine qm_C.go (cd := qm_P53) (lv := [(0, qm_R (some (1, 17, 0)))]) rfl rfl ?_
      refine qm_G.s1 rfl (qm_x_aload rfl) ?_
      refine qm_G.s1 rfl (qm_x_getgR rfl rfl) ?_
      refine qm_G.s1 rfl (qm_x_alen1 (len := 4) rfl) ?_
      refine qm_G.s1 rfl (qm_x_aload rfl) ?_
      refine qm_G.call rfl rfl rfl ?_
      refine qm_C.go (cd := qm_P0) (lv := [(0, qm_R (some (1, 17, 0)))]) rfl rfl ?_
      refine qm_G.s1 rfl (qm_x_pushI 1 rfl) ?_
      refine qm_G.s1 rfl (qm_x_if_eq_f ⟨by decide, by decide⟩ (by decide)) ?_
      refine qm_G.s1 rfl (qm_x_aload rfl) ?_
      refine qm_G.s1 rfl (qm_x_getgI (v := 0) rfl rfl) ?_
      refine qm_G.s1 rfl (qm_x_goto) ?_
      refine qm_G.ret rfl rfl ⟨_, rfl, ?_⟩
      refine qm_G.s1 rfl (qm_x_ishr0) ?_
      refine qm_G.ret rfl rfl ⟨_, rfl, ?_⟩
      refine qm_G.s1 rfl (qm_x_icmp_ge_f ⟨by omega, by omega⟩ ⟨by decide, by decide⟩ (by omega)) ?_
      refine qm_G.s1 rfl (qm_x_aload rfl) ?_
      refine qm_G.s1 rfl (qm_x_getfR (q := (some (0, 69, 0))) (hS 61 rfl) (hR 61 13 69 rfl rfl)) ?_
      refine qm_G.s1 rfl (qm_x_iload rfl) ?_
      refine qm_G.s1 rfl (qm_x_iload rfl) ?_
      refine qm_G.s1 rfl (qm_x_iadd) ?_
      have gT4 := (hT (a + 1) (by omega)).2
      refine qm_G.s1 rfl (qm_x_iald (v := (T (a + 1))) (qm_arS hS rfl rfl) rfl (by omega) (by omega) (by decide) (Eq.trans (congrArg (J 69 0) (by omega)) (hT (a + 1) (by omega)).1)) ?_
      refine qm_G.s1 rfl (qm_x_aload rfl) ?_
      refine qm_G.s1 rfl (qm_x_iload rfl) ?_
      refine qm_G.call rfl rfl rfl ?_
      refine qm_C.go (cd := qm_P162) (lv := [(0, qm_R (some (1, 17, 0))), (1, qm_I (qm_i (0 + 1)))]) rfl rfl ?_
      refine qm_G.s1 rfl (qm_x_aload rfl) ?_
      refine qm_G.call rfl rfl rfl ?_
      refine qm_C.go (cd := qm_P1) (lv := [(0, qm_R (some (1, 17, 0)))]) rfl rfl ?_
      refine qm_G.s1 rfl (qm_x_pushI 1 rfl) ?_
      refine qm_G.s1 rfl (qm_x_if_eq_f ⟨by decide, by decide⟩ (by decide)) ?_
      refine qm_G.s1 rfl (qm_x_aload rfl) ?_
      refine qm_G.s1 rfl (qm_x_getgI (v := 0) rfl rfl) ?_
      refine qm_G.s1 rfl (qm_x_if_ne_f ⟨by decide, by decide⟩ (by decide)) ?_
      refine qm_G.s1 rfl (qm_x_pushI 1 rfl) ?_
      refine qm_G.s1 rfl (qm_x_goto) ?_
      refine qm_G.ret rfl rfl ⟨_, rfl, ?_⟩
      refine qm_G.s1 rfl (qm_x_if_eq_f ⟨by decide, by decide⟩ (by decide)) ?_
      refine qm_G.s1 rfl (qm_x_aload rfl) ?_
      refine qm_G.s1 rfl (qm_x_getgR rfl rfl) ?_
      refine qm_G.s1 rfl (qm_x_iload rfl) ?_
      refine qm_G.cs rfl rfl rfl ?_
      refine qm_C.go (cd := qm_P134) (lv := [(0, qm_R (some (1, 30, 0))), (1, qm_I (qm_i (0 + 1)))]) rfl rfl ?_
      refine qm_G.s1 rfl (qm_x_iload rfl) ?_
      refine qm_G.s1 rfl (qm_x_aload rfl) ?_
      refine qm_G.s1 rfl (qm_x_alen1 (len := 4) rfl) ?_
      refine qm_G.csv rfl rfl rfl ?_
      refine qm_C.go (cd := qm_P69) (lv := [(0, qm_I (qm_i (0 + 1))), (1, qm_I (qm_i 4))]) rfl rfl ?_
      refine qm_G.s1 rfl (qm_x_iload rfl) ?_
      refine qm_G.s1 rfl (qm_x_iload rfl) ?_
      refine qm_G.s1 rfl (show qm_St (qm_o_sio 5) _ _ _ _ _ (qm_R (qm_sio X) :: _) _ from rfl) ?_
      refine qm_G.cs rfl rfl rfl ?_
      refine qm_C.go (cd := qm_P3) (lv := [(0, qm_I (qm_i (0 + 1))), (1, qm_I (qm_i 4)), (2, qm_R ((qm_sio X)))]) rfl rfl ?_
      refine qm_G.s1 rfl (qm_x_iload rfl) ?_
      refine qm_G.s1 rfl (qm_x_if_lt_f ⟨by omega, by omega⟩ (by omega)) ?_
      refine qm_G.s1 rfl (qm_x_iload rfl) ?_
      refine qm_G.s1 rfl (qm_x_iload rfl) ?_
      refine qm_G.s1 rfl (qm_x_icmp_lt_t ⟨by omega, by omega⟩ ⟨by decide, by decide⟩ (by omega)) ?_
      refine qm_G.sp (lv1 := [(0, qm_I (qm_i (0 + 1)))]) rfl rfl (qm_x_iload rfl) ?_
      refine qm_G.ret rfl rfl ⟨_, rfl, ?_⟩
      refine qm_G.s1 rfl (qm_x_popI) ?_
      refine qm_G.retv rfl ⟨rfl, ?_⟩
      refine qm_G.s1 rfl (qm_x_aload rfl) ?_
      refine qm_G.s1 rfl (qm_x_iload rfl) ?_
      refine qm_G.s1 rfl (qm_x_bald1 (len := 4) (v := 97) rfl rfl (by omega) (by omega) (by rw [show Int.toNat (0 + 1) = 1 by omega]; rfl)) ?_
      refine qm_G.s1 rfl (qm_x_pushI 255 rfl) ?_
      refine qm_G.s1 rfl (qm_x_iand255 (by omega)) ?_
      refine qm_G.s1 rfl (qm_x_i2c (by omega)) ?_
      refine qm_G.ret rfl rfl ⟨_, rfl, ?_⟩
      refine qm_G.ret rfl rfl ⟨_, rfl, ?_⟩
      refine qm_y_icmp_eq rfl ⟨by omega, by omega⟩ ⟨by decide, by decide⟩ (fun c5 => ?_) (fun c5 => ?_)
      · refine qm_G.sp (lv1 := [(0, qm_R (some (0, 61, 0))), (1, qm_I (qm_i x)), (2, qm_R (some (1, 17, 0))), (3, qm_I (qm_i (0 + 1)))]) rfl rfl (qm_x_iinc (lv' := [(3, qm_I (qm_i ((0 + 1) + 1))), (0, qm_R (some (0, 61, 0))), (1, qm_I (qm_i x)), (2, qm_R (some (1, 17, 0)))]) 1 rfl rfl rfl) ?_
        refine qm_G.s1 rfl (qm_x_goto) ?_
        refine qm_G.sp (lv1 := [(0, qm_R (some (0, 61, 0))), (1, qm_I (qm_i x)), (2, qm_R (some (1, 17, 0))), (3, qm_I (qm_i ((0 + 1) + 1)))]) rfl rfl (qm_x_iload rfl) ?_
        refine qm_G.s1 rfl (qm_x_aload rfl) ?_
        refine qm_G.call rfl rfl rfl ?_
        refine qm_C.go (cd := qm_P53) (lv := [(0, qm_R (some (1, 17, 0)))]) rfl rfl ?_
        refine qm_G.s1 rfl (qm_x_aload rfl) ?_
        refine qm_G.s1 rfl (qm_x_getgR rfl rfl) ?_
        refine qm_G.s1 rfl (qm_x_alen1 (len := 4) rfl) ?_
        refine qm_G.s1 rfl (qm_x_aload rfl) ?_
        refine qm_G.call rfl rfl rfl ?_
        refine qm_C.go (cd := qm_P0) (lv := [(0, qm_R (some (1, 17, 0)))]) rfl rfl ?_
        refine qm_G.s1 rfl (qm_x_pushI 1 rfl) ?_
        refine qm_G.s1 rfl (qm_x_if_eq_f ⟨by decide, by decide⟩ (by decide)) ?_
        refine qm_G.s1 rfl (qm_x_aload rfl) ?_
        refine qm_G.s1 rfl (qm_x_getgI (v := 0) rfl rfl) ?_
        refine qm_G.s1 rfl (qm_x_goto) ?_
        refine qm_G.ret rfl rfl ⟨_, rfl, ?_⟩
        refine qm_G.s1 rfl (qm_x_ishr0) ?_
        refine qm_G.ret rfl rfl ⟨_, rfl, ?_⟩
        refine qm_G.s1 rfl (qm_x_icmp_ge_f ⟨by omega, by omega⟩ ⟨by decide, by decide⟩ (by omega)) ?_
        refine qm_G.s1 rfl (qm_x_aload rfl) ?_
        refine qm_G.s1 rfl (qm_x_getfR (q := (some (0, 69, 0))) (hS 61 rfl) (hR 61 13 69 rfl rfl)) ?_
        refine qm_G.s1 rfl (qm_x_iload rfl) ?_
        refine qm_G.s1 rfl (qm_x_iload rfl) ?_
        refine qm_G.s1 rfl (qm_x_iadd) ?_
        have gT6 := (hT (a + 2) (by omega)).2
        refine qm_G.s1 rfl (qm_x_iald (v := (T (a + 2))) (qm_arS hS rfl rfl) rfl (by omega) (by omega) (by decide) (Eq.trans (congrArg (J 69 0) (by omega)) (hT (a + 2) (by omega)).1)) ?_
        refine qm_G.s1 rfl (qm_x_aload rfl) ?_
        refine qm_G.s1 rfl (qm_x_iload rfl) ?_
        refine qm_G.call rfl rfl rfl ?_
        refine qm_C.go (cd := qm_P162) (lv := [(0, qm_R (some (1, 17, 0))), (1, qm_I (qm_i ((0 + 1) + 1)))]) rfl rfl ?_
        refine qm_G.s1 rfl (qm_x_aload rfl) ?_
        refine qm_G.call rfl rfl rfl ?_
        refine qm_C.go (cd := qm_P1) (lv := [(0, qm_R (some (1, 17, 0)))]) rfl rfl ?_
        refine qm_G.s1 rfl (qm_x_pushI 1 rfl) ?_
        refine qm_G.s1 rfl (qm_x_if_eq_f ⟨by decide, by decide⟩ (by decide)) ?_
        refine qm_G.s1 rfl (qm_x_aload rfl) ?_
        refine qm_G.s1 rfl (qm_x_getgI (v := 0) rfl rfl) ?_
        refine qm_G.s1 rfl (qm_x_if_ne_f ⟨by decide, by decide⟩ (by decide)) ?_
        refine qm_G.s1 rfl (qm_x_pushI 1 rfl) ?_
        refine qm_G.s1 rfl (qm_x_goto) ?_
        refine qm_G.ret rfl rfl ⟨_, rfl, ?_⟩
        refine qm_G.s1 rfl (qm_x_if_eq_f ⟨by decide, by decide⟩ (by decide)) ?_
        refine qm_G.s1 rfl (qm_x_aload rfl) ?_
        refine qm_G.s1 rfl (qm_x_getgR rfl rfl) ?_
        refine qm_G.s1 rfl (qm_x_iload rfl) ?_
        refine qm_G.cs rfl rfl rfl ?_
        refine qm_C.go (cd := qm_P134) (lv := [(0, qm_R (some (1, 30, 0))), (1, qm_I (qm_i ((0 + 1) + 1)))]) rfl rfl ?_
        refine qm_G.s1 rfl (qm_x_iload rfl) ?_
        refine qm_G.s1 rfl (qm_x_aload rfl) ?_
        refine qm_G.s1 rfl (qm_x_alen1 (len := 4) rfl) ?_
        refine qm_G.csv rfl rfl rfl ?_
        refine qm_C.go (cd := qm_P69) (lv := [(0, qm_I (qm_i ((0 + 1) + 1))), (1, qm_I (qm_i 4))]) rfl rfl ?_
        refine qm_G.s1 rfl (qm_x_iload rfl) ?_
        refine qm_G.s1 rfl (qm_x_iload rfl) ?_
        refine qm_G.s1 rfl (show qm_St (qm_o_sio 5) _ _ _ _ _ (qm_R (qm_sio X) :: _) _ from rfl) ?_
        refine qm_G.cs rfl rfl rfl ?_
        refine qm_C.go (cd := qm_P3) (lv := [(0, qm_I (qm_i ((0 + 1) + 1))), (1, qm_I (qm_i 4)), (2, qm_R ((qm_sio X)))]) rfl rfl ?_
        refine qm_G.s1 rfl (qm_x_iload rfl) ?_
        refine qm_G.s1 rfl (qm_x_if_lt_f ⟨by omega, by omega⟩ (by omega)) ?_
        refine qm_G.s1 rfl (qm_x_iload rfl) ?_
        refine qm_G.s1 rfl (qm_x_iload rfl) ?_
        refine qm_G.s1 rfl (qm_x_icmp_lt_t ⟨by omega, by omega⟩ ⟨by decide, by decide⟩ (by omega)) ?_
        refine qm_G.sp (lv1 := [(0, qm_I (qm_i ((0 + 1) + 1)))]) rfl rfl (qm_x_iload rfl) ?_
        refine qm_G.ret rfl rfl ⟨_, rfl, ?_⟩
        refine qm_G.s1 rfl (qm_x_popI) ?_
        refine qm_G.retv rfl ⟨rfl, ?_⟩
        refine qm_G.s1 rfl (qm_x_aload rfl) ?_
        refine qm_G.s1 rfl (qm_x_iload rfl) ?_
        refine qm_G.s1 rfl (qm_x_bald1 (len := 4) (v := 105) rfl rfl (by omega) (by omega) (by rw [show Int.toNat ((0 + 1) + 1) = 2 by omega]; rfl)) ?_
        refine qm_G.s1 rfl (qm_x_pushI 255 rfl) ?_
        refine qm_G.s1 rfl (qm_x_iand255 (by omega)) ?_
        refine qm_G.s1 rfl (qm_x_i2c (by omega)) ?_
        refine qm_G.ret rfl rfl ⟨_, rfl, ?_⟩
        refine qm_G.ret rfl rfl ⟨_, rfl, ?_⟩
        refine qm_y_icmp_eq rfl ⟨by omega, by omega⟩ ⟨by decide, by decide⟩ (fun c7 => ?_) (fun c7 => ?_)
        · refine qm_G.sp (lv1 := [(0, qm_R (some (0, 61, 0))), (1, qm_I (qm_i x)), (2, qm_R (some (1, 17, 0))), (3, qm_I (qm_i ((0 + 1) + 1)))]) rfl rfl (qm_x_iinc (lv' := [(3, qm_I (qm_i (((0 + 1) + 1) + 1))), (0, qm_R (some (0, 61, 0))), (1, qm_I (qm_i x)), (2, qm_R (some (1, 17, 0)))]) 1 rfl rfl rfl) ?_
          refine qm_G.s1 rfl (qm_x_goto) ?_
          refine qm_G.sp (lv1 := [(0, qm_R (some (0, 61, 0))), (1, qm_I (qm_i x)), (2, qm_R (some (1, 17, 0))), (3, qm_I (qm_i (((0 + 1) + 1) + 1)))]) rfl rfl (qm_x_iload rfl) ?_
          refine qm_G.s1 rfl (qm_x_aload rfl) ?_
          refine qm_G.call rfl rfl rfl ?_
          refine qm_C.go (cd := qm_P53) (lv := [(0, qm_R (some (1, 17, 0)))]) rfl rfl ?_
          refine qm_G.s1 rfl (qm_x_aload rfl) ?_
          refine qm_G.s1 rfl (qm_x_getgR rfl rfl) ?_
          refine qm_G.s1 rfl (qm_x_alen1 (len := 4) rfl) ?_
          refine qm_G.s1 rfl (qm_x_aload rfl) ?_
          refine qm_G.call rfl rfl rfl ?_
          refine qm_C.go (cd := qm_P0) (lv := [(0, qm_R (some (1, 17, 0)))]) rfl rfl ?_
          refine qm_G.s1 rfl (qm_x_pushI 1 rfl) ?_
          refine qm_G.s1 rfl (qm_x_if_eq_f ⟨by decide, by decide⟩ (by decide)) ?_
          refine qm_G.s1 rfl (qm_x_aload rfl) ?_
          refine qm_G.s1 rfl (qm_x_getgI (v := 0) rfl rfl) ?_
          refine qm_G.s1 rfl (qm_x_goto) ?_
          refine qm_G.ret rfl rfl ⟨_, rfl, ?_⟩
          refine qm_G.s1 rfl (qm_x_ishr0) ?_
          refine qm_G.ret rfl rfl ⟨_, rfl, ?_⟩
          refine qm_G.s1 rfl (qm_x_icmp_ge_f ⟨by omega, by omega⟩ ⟨by decide, by decide⟩ (by omega)) ?_
          refine qm_G.s1 rfl (qm_x_aload rfl) ?_
          refine qm_G.s1 rfl (qm_x_getfR (q := (some (0, 69, 0))) (hS 61 rfl) (hR 61 13 69 rfl rfl)) ?_
          refine qm_G.s1 rfl (qm_x_iload rfl) ?_
          refine qm_G.s1 rfl (qm_x_iload rfl) ?_
          refine qm_G.s1 rfl (qm_x_iadd) ?_
          have gT8 := (hT (a + 3) (by omega)).2
          refine qm_G.s1 rfl (qm_x_iald (v := (T (a + 3))) (qm_arS hS rfl rfl) rfl (by omega) (by omega) (by decide) (Eq.trans (congrArg (J 69 0) (by omega)) (hT (a + 3) (by omega)).1)) ?_
          refine qm_G.s1 rfl (qm_x_aload rfl) ?_
          refine qm_G.s1 rfl (qm_x_iload rfl) ?_
          refine qm_G.call rfl rfl rfl ?_
          refine qm_C.go (cd := qm_P162) (lv := [(0, qm_R (some (1, 17, 0))), (1, qm_I (qm_i (((0 + 1) + 1) + 1)))]) rfl rfl ?_
          refine qm_G.s1 rfl (qm_x_aload rfl) ?_
          refine qm_G.call rfl rfl rfl ?_
          refine qm_C.go (cd := qm_P1) (lv := [(0, qm_R (some (1, 17, 0)))]) rfl rfl ?_
          refine qm_G.s1 rfl (qm_x_pushI 1 rfl) ?_
          refine qm_G.s1 rfl (qm_x_if_eq_f ⟨by decide, by decide⟩ (by decide)) ?_
          refine qm_G.s1 rfl (qm_x_aload rfl) ?_
          refine qm_G.s1 rfl (qm_x_getgI (v := 0) rfl rfl) ?_
          refine qm_G.s1 rfl (qm_x_if_ne_f ⟨by decide, by decide⟩ (by decide)) ?_
          refine qm_G.s1 rfl (qm_x_pushI 1 rfl) ?_
          refine qm_G.s1 rfl (qm_x_goto) ?_
          refine qm_G.ret rfl rfl ⟨_, rfl, ?_⟩
          refine qm_G.s1 rfl (qm_x_if_eq_f ⟨by decide, by decide⟩ (by decide)) ?_
          refine qm_G.s1 rfl (qm_x_aload rfl) ?_
          refine qm_G.s1 rfl (qm_x_getgR rfl rfl) ?_
          refine qm_G.s1 rfl (qm_x_iload rfl) ?_
          refine qm_G.cs rfl rfl rfl ?_
          refine qm_C.go (cd := qm_P134) (lv := [(0, qm_R (some (1, 30, 0))), (1, qm_I (qm_i (((0 + 1) + 1) + 1)))]) rfl rfl ?_
          refine qm_G.s1 rfl (qm_x_iload rfl) ?_
          refine qm_G.s1 rfl (qm_x_aload rfl) ?_
          refine qm_G.s1 rfl (qm_x_alen1 (len := 4) rfl) ?_
          refine qm_G.csv rfl rfl rfl ?_
          refine qm_C.go (cd := qm_P69) (lv := [(0, qm_I (qm_i (((0 + 1) + 1) + 1))), (1, qm_I (qm_i 4))]) rfl rfl ?_
          refine qm_G.s1 rfl (qm_x_iload rfl) ?_
          refine qm_G.s1 rfl (qm_x_iload rfl) ?_
          refine qm_G.s1 rfl (show qm_St (qm_o_sio 5) _ _ _ _ _ (qm_R (qm_sio X) :: _) _ from rfl) ?_
          refine qm_G.cs rfl rfl rfl ?_
          refine qm_C.go (cd := qm_P3) (lv := [(0, qm_I (qm_i (((0 + 1) + 1) + 1))), (1, qm_I (qm_i 4)), (2, qm_R ((qm_sio X)))]) rfl rfl ?_
          refine qm_G.s1 rfl (qm_x_iload rfl) ?_
          refine qm_G.s1 rfl (qm_x_if_lt_f ⟨by omega, by omega⟩ (by omega)) ?_
          refine qm_G.s1 rfl (qm_x_iload rfl) ?_
          refine qm_G.s1 rfl (qm_x_iload rfl) ?_
          refine qm_G.s1 rfl (qm_x_icmp_lt_t ⟨by omega, by omega⟩ ⟨by decide, by decide⟩ (by omega)) ?_
          refine qm_G.sp (lv1 := [(0, qm_I (qm_i (((0 + 1) + 1) + 1)))]) rfl rfl (qm_x_iload rfl) ?_
          refine qm_G.ret rfl rfl ⟨_, rfl, ?_⟩
          refine qm_G.s1 rfl (qm_x_popI) ?_
          refine qm_G.retv rfl ⟨rfl, ?_⟩
          refine qm_G.s1 rfl (qm_x_aload rfl) ?_
          refine qm_G.s1 rfl (qm_x_iload rfl) ?_
          refine qm_G.s1 rfl (qm_x_bald1 (len := 4) (v := 114) rfl rfl (by omega) (by omega) (by rw [show Int.toNat (((0 + 1) + 1) + 1) = 3 by omega]; rfl)) ?_
          refine qm_G.s1 rfl (qm_x_pushI 255 rfl) ?_
          refine qm_G.s1 rfl (qm_x_iand255 (by omega)) ?_
          refine qm_G.s1 rfl (qm_x_i2c (by omega)) ?_
          refine qm_G.ret rfl rfl ⟨_, rfl, ?_⟩
          refine qm_G.ret rfl rfl ⟨_, rfl, ?_⟩
          refine qm_y_icmp_eq rfl ⟨by omega, by omega⟩ ⟨by decide, by decide⟩ (fun c9 => ?_) (fun c9 => ?_)
          · refine qm_G.sp (lv1 := [(0, qm_R (some (0, 61, 0))), (1, qm_I (qm_i x)), (2, qm_R (some (1, 17, 0))), (3, qm_I (qm_i (((0 + 1) + 1) + 1)))]) rfl rfl (qm_x_iinc (lv' := [(3, qm_I (qm_i ((((0 + 1) + 1) + 1) + 1))), (0, qm_R (some (0, 61, 0))), (1, qm_I (qm_i x)), (2, qm_R (some (1, 17, 0)))]) 1 rfl rfl rfl) ?_
            refine qm_G.s1 rfl (qm_x_goto) ?_
            refine qm_G.sp (lv1 := [(0, qm_R (some (0, 61, 0))), (1, qm_I (qm_i x)), (2, qm_R (some (1, 17, 0))), (3, qm_I (qm_i ((((0 + 1) + 1) + 1) + 1)))]) rfl rfl (qm_x_iload rfl) ?_
            refine qm_G.s1 rfl (qm_x_aload rfl) ?_
            refine qm_G.call rfl rfl rfl ?_
            refine qm_C.go (cd := qm_P53) (lv := [(0, qm_R (some (1, 17, 0)))]) rfl rfl ?_
            refine qm_G.s1 rfl (qm_x_aload rfl) ?_
            refine qm_G.s1 rfl (qm_x_getgR rfl rfl) ?_
            refine qm_G.s1 rfl (qm_x_alen1 (len := 4) rfl) ?_
            refine qm_G.s1 rfl (qm_x_aload rfl) ?_
            refine qm_G.call rfl rfl rfl ?_
            refine qm_C.go (cd := qm_P0) (lv := [(0, qm_R (some (1, 17, 0)))]) rfl rfl ?_
            refine qm_G.s1 rfl (qm_x_pushI 1 rfl) ?_
            refine qm_G.s1 rfl (qm_x_if_eq_f ⟨by decide, by decide⟩ (by decide)) ?_
            refine qm_G.s1 rfl (qm_x_aload rfl) ?_
            refine qm_G.s1 rfl (qm_x_getgI (v := 0) rfl rfl) ?_
            refine qm_G.s1 rfl (qm_x_goto) ?_
            refine qm_G.ret rfl rfl ⟨_, rfl, ?_⟩
            refine qm_G.s1 rfl (qm_x_ishr0) ?_
            refine qm_G.ret rfl rfl ⟨_, rfl, ?_⟩
            refine qm_G.s1 rfl (qm_x_icmp_ge_t ⟨by omega, by omega⟩ ⟨by decide, by decide⟩ (by omega)) ?_
            refine qm_G.sp (lv1 := []) rfl rfl (qm_x_pushI 1 rfl) ?_
            refine qm_G.ret rfl rfl (k1 ?_)
            refine ⟨by show e = a + 4; omega, fun j hj => ?_⟩
            change j < 4 at hj
            rcases (show j = 0 ∨ j = 1 ∨ j = 2 ∨ j = 3 by omega) with c9 | c9 | c9 | c9
            · subst c9; exact (show T (a + 0) = 102 by omega)
            · subst c9; exact (show T (a + 1) = 97 by omega)
            · subst c9; exact (show T (a + 2) = 105 by omega)
            · subst c9; exact (show T (a + 3) = 114 by omega)
          · refine qm_G.s1 rfl (qm_x_pushI 0 rfl) ?_
            exact qm_G.ret rfl rfl (k0 (fun h => by have h9 : T (a + 3) = 114 := h.2 3 (by decide); omega))
        · refine qm_G.s1 rfl (qm_x_pushI 0 rfl) ?_
          exact qm_G.ret rfl rfl (k0 (fun h => by have h9 : T (a + 2) = 105 := h.2 2 (by decide); omega))
      · refine qm_G.s1 rfl (qm_x_pushI 0 rfl) ?_
        exact qm_G.ret rfl rfl (k0 (fun h => by have h9 : T (a + 1) = 97 := h.2 1 (by decide); omega))
    · refine qm_G.s1 rfl (qm_x_pushI 0 rfl) ?_
      exact qm_G.ret rfl rfl (k0 (fun h => by have h9 : T (a + 0) = 102 := h.2 0 (by decide); omega))
  · refine qm_G.s1 rfl (qm_x_pushI 0 rfl) ?_
    exact qm_G.ret rfl rfl (k0 (fun h => by have h9 : e = a + 4 := h.1; omega))
theorem qm_m_isw6 {S : List qm_Sh} {K : qm_J} {L : qm_Ct Int64} {D : qm_Ct UInt64} {R : qm_Ct (Option qm_Rf)} {X : Nat × (Nat → Int32)} {Q : Option qm_V → qm_Hp → Prop} {T : Nat → Int} {ln : Int} {J : qm_J} {x : Int} {a e : Nat} (hS : qm_Sd S) (hR : qm_Rd R) (hT : ∀ i, i < 100 → J 69 0 i = T i ∧ 0 ≤ T i ∧ T i ≤ 127) (rl : 0 ≤ ln ∧ ln ≤ 100) (hl : J 61 0 12 = ln) (hx : x = (a : Int)) (h16 : J 61 0 16 = (e : Int)) (h1 : a ≤ e ∧ e ≤ 100) (k1 : qm_isw T a e 6 → Q (some (qm_I (qm_i 1))) (qm_H S J K L D R X)) (k0 : ¬ qm_isw T a e 6 → Q (some (qm_I (qm_i 0))) (qm_H S J K L D R X)) : qm_C qm_P 175 [qm_R (some (0, 61, 0)), qm_I (qm_i x), qm_R (some (1, 18, 0))] (qm_H S J K L D R X) Q := by
  refine qm_C.go (cd := qm_P175) (lv := [(0, qm_R (some (0, 61, 0))), (1, qm_I (qm_i x)), (2, qm_R (some (1, 18, 0)))]) rfl rfl ?_
  refine qm_G.s1 rfl (qm_x_aload rfl) ?_
  refine qm_G.s1 rfl (qm_x_getfI (v := (e : Int)) (hS 61 rfl) h16) ?_
  refine qm_G.s1 rfl (qm_x_iload rfl) ?_
  refine qm_G.s1 rfl (qm_x_isub) ?_
  refine qm_G.s1 rfl (qm_x_aload rfl) ?_
  refine qm_G.call rfl rfl rfl ?_
  refine qm_C.go (cd := qm_P53) (lv := [(0, qm_R (some (1, 18, 0)))]) rfl rfl ?_
  refine qm_G.s1 rfl (qm_x_aload rfl) ?_
  refine qm_G.s1 rfl (qm_x_getgR rfl rfl) ?_
  refine qm_G.s1 rfl (qm_x_alen1 (len := 6) rfl) ?_
  refine qm_G.s1 rfl (qm_x_aload rfl) ?_
  refine qm_G.call rfl rfl rfl ?_
  refine qm_C.go (cd := qm_P0) (lv := [(0, qm_R (some (1, 18, 0)))]) rfl rfl ?_
  refine qm_G.s1 rfl (qm_x_pushI 1 rfl) ?_
  refine qm_G.s1 rfl (qm_x_if_eq_f ⟨by decide, by decide⟩ (by decide)) ?_
  refine qm_G.s1 rfl (qm_x_aload rfl) ?_
  refine qm_G.s1 rfl (qm_x_getgI (v := 0) rfl rfl) ?_
  refine qm_G.s1 rfl (qm_x_goto) ?_
  refine qm_G.ret rfl rfl ⟨_, rfl, ?_⟩
  refine qm_G.s1 rfl (qm_x_ishr0) ?_
  refine qm_G.ret rfl rfl ⟨_, rfl, ?_⟩
  refine qm_y_icmp_eq rfl ⟨by omega, by omega⟩ ⟨by decide, by decide⟩ (fun c1 => ?_) (fun c1 => ?_)
  · refine qm_G.sp (lv1 := [(0, qm_R (some (0, 61, 0))), (1, qm_I (qm_i x)), (2, qm_R (some (1, 18, 0)))]) rfl rfl (qm_x_pushI 0 rfl) ?_
    refine qm_G.s1 rfl (qm_x_istore (lv' := [(3, qm_I (qm_i 0)), (0, qm_R (some (0, 61, 0))), (1, qm_I (qm_i x)), (2, qm_R (some (1, 18, 0)))]) rfl) ?_
    refine qm_G.sp (lv1 := [(0, qm_R (some (0, 61, 0))), (1, qm_I (qm_i x)), (2, qm_R (some (1, 18, 0))), (3, qm_I (qm_i 0))]) rfl rfl (qm_x_iload rfl) ?_
    refine qm_G.s1 rfl (qm_x_aload rfl) ?_
    refine qm_G.call rfl rfl rfl ?_
    refine qm_C.go (cd := qm_P53) (lv := [(0, qm_R (some (1, 18, 0)))]) rfl rfl ?_
    refine qm_G.s1 rfl (qm_x_aload rfl) ?_
    refine qm_G.s1 rfl (qm_x_getgR rfl rfl) ?_
    refine qm_G.s1 rfl (qm_x_alen1 (len := 6) rfl) ?_
    refine qm_G.s1 rfl (qm_x_aload rfl) ?_
    refine qm_G.call rfl rfl rfl ?_
    refine qm_C.go (cd := qm_P0) (lv := [(0, qm_R (some (1, 18, 0)))]) rfl rfl ?_
    refine qm_G.s1 rfl (qm_x_pushI 1 rfl) ?_
    refine qm_G.s1 rfl (qm_x_if_eq_f ⟨by decide, by decide⟩ (by decide)) ?_
    refine qm_G.s1 rfl (qm_x_aload rfl) ?_
    refine qm_G.s1 rfl (qm_x_getgI (v := 0) rfl rfl) ?_
    refine qm_G.s1 rfl (qm_x_goto) ?_
    refine qm_G.ret rfl rfl ⟨_, rfl, ?_⟩
    refine qm_G.s1 rfl (qm_x_ishr0) ?_
    refine qm_G.ret rfl rfl ⟨_, rfl, ?_⟩
    refine qm_G.s1 rfl (qm_x_icmp_ge_f ⟨by decide, by decide⟩ ⟨by decide, by decide⟩ (by decide)) ?_
    refine qm_G.s1 rfl (qm_x_aload rfl) ?_
    refine qm_G.s1 rfl (qm_x_getfR (q := (some (0, 69, 0))) (hS 61 rfl) (hR 61 13 69 rfl rfl)) ?_
    refine qm_G.s1 rfl (qm_x_iload rfl) ?_
    refine qm_G.s1 rfl (qm_x_iload rfl) ?_
    refine qm_G.s1 rfl (qm_x_iadd) ?_
    have gT2 := (hT (a + 0) (by omega)).2
    refine qm_G.s1 rfl (qm_x_iald (v := (T (a + 0))) (qm_arS hS rfl rfl) rfl (by omega) (by omega) (by decide) (Eq.trans (congrArg (J 69 0) (by omega)) (hT (a + 0) (by omega)).1)) ?_
    refine qm_G.s1 rfl (qm_x_aload rfl) ?_
    refine qm_G.s1 rfl (qm_x_iload rfl) ?_
    refine qm_G.call rfl rfl rfl ?_
    refine qm_C.go (cd := qm_P162) (lv := [(0, qm_R (some (1, 18, 0))), (1, qm_I (qm_i 0))]) rfl rfl ?_
    refine qm_G.s1 rfl (qm_x_aload rfl) ?_
    refine qm_G.call rfl rfl rfl ?_
    refine qm_C.go (cd := qm_P1) (lv := [(0, qm_R (some (1, 18, 0)))]) rfl rfl ?_
    refine qm_G.s1 rfl (qm_x_pushI 1 rfl) ?_
    refine qm_G.s1 rfl (qm_x_if_eq_f ⟨by decide, by decide⟩ (by decide)) ?_
    refine qm_G.s1 rfl (qm_x_aload rfl) ?_
    refine qm_G.s1 rfl (qm_x_getgI (v := 0) rfl rfl) ?_
    refine qm_G.s1 rfl (qm_x_if_ne_f ⟨by decide, by decide⟩ (by decide)) ?_
    refine qm_G.s1 rfl (qm_x_pushI 1 rfl) ?_
    refine qm_G.s1 rfl (qm_x_goto) ?_
    refine qm_G.ret rfl rfl ⟨_, rfl, ?_⟩
    refine qm_G.s1 rfl (qm_x_if_eq_f ⟨by decide, by decide⟩ (by decide)) ?_
    refine qm_G.s1 rfl (qm_x_aload rfl) ?_
    refine qm_G.s1 rfl (qm_x_getgR rfl rfl) ?_
    refine qm_G.s1 rfl (qm_x_iload rfl) ?_
    refine qm_G.cs rfl rfl rfl ?_
    refine qm_C.go (cd := qm_P134) (lv := [(0, qm_R (some (1, 31, 0))), (1, qm_I (qm_i 0))]) rfl rfl ?_
    refine qm_G.s1 rfl (qm_x_iload rfl) ?_
    refine qm_G.s1 rfl (qm_x_aload rfl) ?_
    refine qm_G.s1 rfl (qm_x_alen1 (len := 6) rfl) ?_
    refine qm_G.csv rfl rfl rfl ?_
    refine qm_C.go (cd := qm_P69) (lv := [(0, qm_I (qm_i 0)), (1, qm_I (qm_i 6))]) rfl rfl ?_
    refine qm_G.s1 rfl (qm_x_iload rfl) ?_
    refine qm_G.s1 rfl (qm_x_iload rfl) ?_
    refine qm_G.s1 rfl (show qm_St (qm_o_sio 5) _ _ _ _ _ (qm_R (qm_sio X) :: _) _ from rfl) ?_
    refine qm_G.cs rfl rfl rfl ?_
    refine qm_C.go (cd := qm_P3) (lv := [(0, qm_I (qm_i 0)), (1, qm_I (qm_i 6)), (2, qm_R ((qm_sio X)))]) rfl rfl ?_
    refine qm_G.s1 rfl (qm_x_iload rfl) ?_
    refine qm_G.s1 rfl (qm_x_if_lt_f ⟨by decide, by decide⟩ (by decide)) ?_
    refine qm_G.s1 rfl (qm_x_iload rfl) ?_
    refine qm_G.s1 rfl (qm_x_iload rfl) ?_
    refine qm_G.s1 rfl (qm_x_icmp_lt_t ⟨by decide, by decide⟩ ⟨by decide, by decide⟩ (by decide)) ?_
    refine qm_G.sp (lv1 := [(0, qm_I (qm_i 0))]) rfl rfl (qm_x_iload rfl) ?_
    refine qm_G.ret rfl rfl ⟨_, rfl, ?_⟩
    refine qm_G.s1 rfl (qm_x_popI) ?_
    refine qm_G.retv rfl ⟨rfl, ?_⟩
    refine qm_G.s1 rfl (qm_x_aload rfl) ?_
    refine qm_G.s1 rfl (qm_x_iload rfl) ?_
    refine qm_G.s1 rfl (qm_x_bald1 (len := 6) (v := 115) rfl rfl (by omega) (by omega) (by rw [show Int.toNat 0 = 0 by omega]; rfl)) ?_
    refine qm_G.s1 rfl (qm_x_pushI 255 rfl) ?_
    refine qm_G.s1 rfl (qm_x_iand255 (by omega)) ?_
    refine qm_G.s1 rfl (qm_x_i2c (by omega)) ?_
    refine qm_G.ret rfl rfl ⟨_, rfl, ?_⟩
    refine qm_G.ret rfl rfl ⟨_, rfl, ?_⟩
    refine qm_y_icmp_eq rfl ⟨by omega, by omega⟩ ⟨by decide, by decide⟩ (fun c3 => ?_) (fun c3 => ?_)
    · refine qm_G.sp (lv1 := [(0, qm_R (some (0, 61, 0))), (1, qm_I (qm_i x)), (2, qm_R (some (1, 18, 0))), (3, qm_I (qm_i 0))]) rfl rfl (qm_x_iinc (lv' := [(3, qm_I (qm_i (0 + 1))), (0, qm_R (some (0, 61, 0))), (1, qm_I (qm_i x)), (2, qm_R (some (1, 18, 0)))]) 1 rfl rfl rfl) ?_
      refine qm_G.s1 rfl (qm_x_goto) ?_
      refine qm_G.sp (lv1 := [(0, qm_R (some (0, 61, 0))), (1, qm_I (qm_i x)), (2, qm_R (some (1, 18, 0))), (3, qm_I (qm_i (0 + 1)))]) rfl rfl (qm_x_iload rfl) ?_
      refine qm_G.s1 rfl (qm_x_aload rfl) ?_
      refine qm_G.call rfl rfl rfl ?_
      refine qm_C.go (cd := qm_P53) (lv := [(0, qm_R (some (1, 18, 0)))]) rfl rfl ?_
      refine qm_G.s1 rfl (qm_x_aload rfl) ?_
      refine qm_G.s1 rfl (qm_x_getgR rfl rfl) ?_
      refine qm_G.s1 rfl (qm_x_alen1 (len := 6) rfl) ?_
      refine qm_G.s1 rfl (qm_x_aload rfl) ?_
      refine qm_G.call rfl rfl rfl ?_
      refine qm_C.go (cd := qm_P0) (lv := [(0, qm_R (some (1, 18, 0)))]) rfl rfl ?_
      refine qm_G.s1 rfl (qm_x_pushI 1 rfl) ?_
      refine qm_G.s1 rfl (qm_x_if_eq_f ⟨by decide, by decide⟩ (by decide)) ?_
      refine qm_G.s1 rfl (qm_x_aload rfl) ?_
      refine qm_G.s1 rfl (qm_x_getgI (v := 0) rfl rfl) ?_
      refine qm_G.s1 rfl (qm_x_goto) ?_
      refine qm_G.ret rfl rfl ⟨_, rfl, ?_⟩
      refine qm_G.s1 rfl (qm_x_ishr0) ?_
      refine qm_G.ret rfl rfl ⟨_, rfl, ?_⟩
      refine qm_G.s1 rfl (qm_x_icmp_ge_f ⟨by omega, by omega⟩ ⟨by decide, by decide⟩ (by omega)) ?_
      refine qm_G.s1 rfl (qm_x_aload rfl) ?_
      refine qm_G.s1 rfl (qm_x_getfR (q := (some (0, 69, 0))) (hS 61 rfl) (hR 61 13 69 rfl rfl)) ?_
      refine qm_G.s1 rfl (qm_x_iload rfl) ?_
      refine qm_G.s1 rfl (qm_x_iload rfl) ?_
      refine qm_G.s1 rfl (qm_x_iadd) ?_
      have gT4 := (hT (a + 1) (by omega)).2
      refine qm_G.s1 rfl (qm_x_iald (v := (T (a + 1))) (qm_arS hS rfl rfl) rfl (by omega) (by omega) (by decide) (Eq.trans (congrArg (J 69 0) (by omega)) (hT (a + 1) (by omega)).1)) ?_
      refine qm_G.s1 rfl (qm_x_aload rfl) ?_
      refine qm_G.s1 rfl (qm_x_iload rfl) ?_
      refine qm_G.call rfl rfl rfl ?_
      refine qm_C.go (cd := qm_P162) (lv := [(0, qm_R (some (1, 18, 0))), (1, qm_I (qm_i (0 + 1)))]) rfl rfl ?_
      refine qm_G.s1 rfl (qm_x_aload rfl) ?_
      refine qm_G.call rfl rfl rfl ?_
      refine qm_C.go (cd := qm_P1) (lv := [(0, qm_R (some (1, 18, 0)))]) rfl rfl ?_
      refine qm_G.s1 rfl (qm_x_pushI 1 rfl) ?_
      refine qm_G.s1 rfl (qm_x_if_eq_f ⟨by decide, by decide⟩ (by decide)) ?_
      refine qm_G.s1 rfl (qm_x_aload rfl) ?_
      refine qm_G.s1 rfl (qm_x_getgI (v := 0) rfl rfl) ?_
      refine qm_G.s1 rfl (qm_x_if_ne_f ⟨by decide, by decide⟩ (by decide)) ?_
      refine qm_G.s1 rfl (qm_x_pushI 1 rfl) ?_
      refine qm_G.s1 rfl (qm_x_goto) ?_
      refine qm_G.ret rfl rfl ⟨_, rfl, ?_⟩
      refine qm_G.s1 rfl (qm_x_if_eq_f ⟨by decide, by decide⟩ (by decide)) ?_
      refine qm_G.s1 rfl (qm_x_aload rfl) ?_
      refine qm_G.s1 rfl (qm_x_getgR rfl rfl) ?_
      refine qm_G.s1 rfl (qm_x_iload rfl) ?_
      refine qm_G.cs rfl rfl rfl ?_
      refine qm_C.go (cd := qm_P134) (lv := [(0, qm_R (some (1, 31, 0))), (1, qm_I (qm_i (0 + 1)))]) rfl rfl ?_
      refine qm_G.s1 rfl (qm_x_iload rfl) ?_
      refine qm_G.s1 rfl (qm_x_aload rfl) ?_
      refine qm_G.s1 rfl (qm_x_alen1 (len := 6) rfl) ?_
      refine qm_G.csv rfl rfl rfl ?_
      refine qm_C.go (cd := qm_P69) (lv := [(0, qm_I (qm_i (0 + 1))), (1, qm_I (qm_i 6))]) rfl rfl ?_
      refine qm_G.s1 rfl (qm_x_iload rfl) ?_
      refine qm_G.s1 rfl (qm_x_iload rfl) ?_
      refine qm_G.s1 rfl (show qm_St (qm_o_sio 5) _ _ _ _ _ (qm_R (qm_sio X) :: _) _ from rfl) ?_
      refine qm_G.cs rfl rfl rfl ?_
      refine qm_C.go (cd := qm_P3) (lv := [(0, qm_I (qm_i (0 + 1))), (1, qm_I (qm_i 6)), (2, qm_R ((qm_sio X)))]) rfl rfl ?_
      refine qm_G.s1 rfl (qm_x_iload rfl) ?_
      refine qm_G.s1 rfl (qm_x_if_lt_f ⟨by omega, by omega⟩ (by omega)) ?_
      refine qm_G.s1 rfl (qm_x_iload rfl) ?_
      refine qm_G.s1 rfl (qm_x_iload rfl) ?_
      refine qm_G.s1 rfl (qm_x_icmp_lt_t ⟨by omega, by omega⟩ ⟨by decide, by decide⟩ (by omega)) ?_
      refine qm_G.sp (lv1 := [(0, qm_I (qm_i (0 + 1)))]) rfl rfl (qm_x_iload rfl) ?_
      refine qm_G.ret rfl rfl ⟨_, rfl, ?_⟩
      refine qm_G.s1 rfl (qm_x_popI) ?_
      refine qm_G.retv rfl ⟨rfl, ?_⟩
      refine qm_G.s1 rfl (qm_x_aload rfl) ?_
      refine qm_G.s1 rfl (qm_x_iload rfl) ?_
      refine qm_G.s1 rfl (qm_x_bald1 (len := 6) (v := 116) rfl rfl (by omega) (by omega) (by rw [show Int.toNat (0 + 1) = 1 by omega]; rfl)) ?_
      refine qm_G.s1 rfl (qm_x_pushI 255 rfl) ?_
      refine qm_G.s1 rfl (qm_x_iand255 (by omega)) ?_
      refine qm_G.s1 rfl (qm_x_i2c (by omega)) ?_
      refine qm_G.ret rfl rfl ⟨_, rfl, ?_⟩
      refine qm_G.ret rfl rfl ⟨_, rfl, ?_⟩
      refine qm_y_icmp_eq rfl ⟨by omega, by omega⟩ ⟨by decide, by decide⟩ (fun c5 => ?_) (fun c5 => ?_)
      · refine qm_G.sp (lv1 := [(0, qm_R (some (0, 61, 0))), (1, qm_I (qm_i x)), (2, qm_R (some (1, 18, 0))), (3, qm_I (qm_i (0 + 1)))]) rfl rfl (qm_x_iinc (lv' := [(3, qm_I (qm_i ((0 + 1) + 1))), (0, qm_R (some (0, 61, 0))), (1, qm_I (qm_i x)), (2, qm_R (some (1, 18, 0)))]) 1 rfl rfl rfl) ?_
        refine qm_G.s1 rfl (qm_x_goto) ?_
        refine qm_G.sp (lv1 := [(0, qm_R (some (0, 61, 0))), (1, qm_I (qm_i x)), (2, qm_R (some (1, 18, 0))), (3, qm_I (qm_i ((0 + 1) + 1)))]) rfl rfl (qm_x_iload rfl) ?_
        refine qm_G.s1 rfl (qm_x_aload rfl) ?_
        refine qm_G.call rfl rfl rfl ?_
        refine qm_C.go (cd := qm_P53) (lv := [(0, qm_R (some (1, 18, 0)))]) rfl rfl ?_
        refine qm_G.s1 rfl (qm_x_aload rfl) ?_
        refine qm_G.s1 rfl (qm_x_getgR rfl rfl) ?_
        refine qm_G.s1 rfl (qm_x_alen1 (len := 6) rfl) ?_
        refine qm_G.s1 rfl (qm_x_aload rfl) ?_
        refine qm_G.call rfl rfl rfl ?_
        refine qm_C.go (cd := qm_P0) (lv := [(0, qm_R (some (1, 18, 0)))]) rfl rfl ?_
        refine qm_G.s1 rfl (qm_x_pushI 1 rfl) ?_
        refine qm_G.s1 rfl (qm_x_if_eq_f ⟨by decide, by decide⟩ (by decide)) ?_
        refine qm_G.s1 rfl (qm_x_aload rfl) ?_
        refine qm_G.s1 rfl (qm_x_getgI (v := 0) rfl rfl) ?_
        refine qm_G.s1 rfl (qm_x_goto) ?_
        refine qm_G.ret rfl rfl ⟨_, rfl, ?_⟩
        refine qm_G.s1 rfl (qm_x_ishr0) ?_
        refine qm_G.ret rfl rfl ⟨_, rfl, ?_⟩
        refine qm_G.s1 rfl (qm_x_icmp_ge_f ⟨by omega, by omega⟩ ⟨by decide, by decide⟩ (by omega)) ?_
        refine qm_G.s1 rfl (qm_x_aload rfl) ?_
        refine qm_G.s1 rfl (qm_x_getfR (q := (some (0, 69, 0))) (hS 61 rfl) (hR 61 13 69 rfl rfl)) ?_
        refine qm_G.s1 rfl (qm_x_iload rfl) ?_
        refine qm_G.s1 rfl (qm_x_iload rfl) ?_
        refine qm_G.s1 rfl (qm_x_iadd) ?_
        have gT6 := (hT (a + 2) (by omega)).2
        refine qm_G.s1 rfl (qm_x_iald (v := (T (a + 2))) (qm_arS hS rfl rfl) rfl (by omega) (by omega) (by decide) (Eq.trans (congrArg (J 69 0) (by omega)) (hT (a + 2) (by omega)).1)) ?_
        refine qm_G.s1 rfl (qm_x_aload rfl) ?_
        refine qm_G.s1 rfl (qm_x_iload rfl) ?_
        refine qm_G.call rfl rfl rfl ?_
        refine qm_C.go (cd := qm_P162) (lv := [(0, qm_R (some (1, 18, 0))), (1, qm_I (qm_i ((0 + 1) + 1)))]) rfl rfl ?_
        refine qm_G.s1 rfl (qm_x_aload rfl) ?_
        refine qm_G.call rfl rfl rfl ?_
        refine qm_C.go (cd := qm_P1) (lv := [(0, qm_R (some (1, 18, 0)))]) rfl rfl ?_
        refine qm_G.s1 rfl (qm_x_pushI 1 rfl) ?_
        refine qm_G.s1 rfl (qm_x_if_eq_f ⟨by decide, by decide⟩ (by decide)) ?_
        refine qm_G.s1 rfl (qm_x_aload rfl) ?_
        refine qm_G.s1 rfl (qm_x_getgI (v := 0) rfl rfl) ?_
        refine qm_G.s1 rfl (qm_x_if_ne_f ⟨by decide, by decide⟩ (by decide)) ?_
        refine qm_G.s1 rfl (qm_x_pushI 1 rfl) ?_
        refine qm_G.s1 rfl (qm_x_goto) ?_
        refine qm_G.ret rfl rfl ⟨_, rfl, ?_⟩
        refine qm_G.s1 rfl (qm_x_if_eq_f ⟨by decide, by decide⟩ (by decide)) ?_
        refine qm_G.s1 rfl (qm_x_aload rfl) ?_
        refine qm_G.s1 rfl (qm_x_getgR rfl rfl) ?_
        refine qm_G.s1 rfl (qm_x_iload rfl) ?_
        refine qm_G.cs rfl rfl rfl ?_
        refine qm_C.go (cd := qm_P134) (lv := [(0, qm_R (some (1, 31, 0))), (1, qm_I (qm_i ((0 + 1) + 1)))]) rfl rfl ?_
        refine qm_G.s1 rfl (qm_x_iload rfl) ?_
        refine qm_G.s1 rfl (qm_x_aload rfl) ?_
        refine qm_G.s1 rfl (qm_x_alen1 (len := 6) rfl) ?_
        refine qm_G.csv rfl rfl rfl ?_
        refine qm_C.go (cd := qm_P69) (lv := [(0, qm_I (qm_i ((0 + 1) + 1))), (1, qm_I (qm_i 6))]) rfl rfl ?_
        refine qm_G.s1 rfl (qm_x_iload rfl) ?_
        refine qm_G.s1 rfl (qm_x_iload rfl) ?_
        refine qm_G.s1 rfl (show qm_St (qm_o_sio 5) _ _ _ _ _ (qm_R (qm_sio X) :: _) _ from rfl) ?_
        refine qm_G.cs rfl rfl rfl ?_
        refine qm_C.go (cd := qm_P3) (lv := [(0, qm_I (qm_i ((0 + 1) + 1))), (1, qm_I (qm_i 6)), (2, qm_R ((qm_sio X)))]) rfl rfl ?_
        refine qm_G.s1 rfl (qm_x_iload rfl) ?_
        refine qm_G.s1 rfl (qm_x_if_lt_f ⟨by omega, by omega⟩ (by omega)) ?_
        refine qm_G.s1 rfl (qm_x_iload rfl) ?_
        refine qm_G.s1 rfl (qm_x_iload rfl) ?_
        refine qm_G.s1 rfl (qm_x_icmp_lt_t ⟨by omega, by omega⟩ ⟨by decide, by decide⟩ (by omega)) ?_
        refine qm_G.sp (lv1 := [(0, qm_I (qm_i ((0 + 1) + 1)))]) rfl rfl (qm_x_iload rfl) ?_
        refine qm_G.ret rfl rfl ⟨_, rfl, ?_⟩
        refine qm_G.s1 rfl (qm_x_popI) ?_
        refine qm_G.retv rfl ⟨rfl, ?_⟩
        refine qm_G.s1 rfl (qm_x_aload rfl) ?_
        refine qm_G.s1 rfl (qm_x_iload rfl) ?_
        refine qm_G.s1 rfl (qm_x_bald1 (len := 6) (v := 114) rfl rfl (by omega) (by omega) (by rw [show Int.toNat ((0 + 1) + 1) = 2 by omega]; rfl)) ?_
        refine qm_G.s1 rfl (qm_x_pushI 255 rfl) ?_
        refine qm_G.s1 rfl (qm_x_iand255 (by omega)) ?_
        refine qm_G.s1 rfl (qm_x_i2c (by omega)) ?_
        refine qm_G.ret rfl rfl ⟨_, rfl, ?_⟩
        refine qm_G.ret rfl rfl ⟨_, rfl, ?_⟩
        refine qm_y_icmp_eq rfl ⟨by omega, by omega⟩ ⟨by decide, by decide⟩ (fun c7 => ?_) (fun c7 => ?_)
        · refine qm_G.sp (lv1 := [(0, qm_R (some (0, 61, 0))), (1, qm_I (qm_i x)), (2, qm_R (some (1, 18, 0))), (3, qm_I (qm_i ((0 + 1) + 1)))]) rfl rfl (qm_x_iinc (lv' := [(3, qm_I (qm_i (((0 + 1) + 1) + 1))), (0, qm_R (some (0, 61, 0))), (1, qm_I (qm_i x)), (2, qm_R (some (1, 18, 0)))]) 1 rfl rfl rfl) ?_
          refine qm_G.s1 rfl (qm_x_goto) ?_
          refine qm_G.sp (lv1 := [(0, qm_R (some (0, 61, 0))), (1, qm_I (qm_i x)), (2, qm_R (some (1, 18, 0))), (3, qm_I (qm_i (((0 + 1) + 1) + 1)))]) rfl rfl (qm_x_iload rfl) ?_
          refine qm_G.s1 rfl (qm_x_aload rfl) ?_
          refine qm_G.call rfl rfl rfl ?_
          refine qm_C.go (cd := qm_P53) (lv := [(0, qm_R (some (1, 18, 0)))]) rfl rfl ?_
          refine qm_G.s1 rfl (qm_x_aload rfl) ?_
          refine qm_G.s1 rfl (qm_x_getgR rfl rfl) ?_
          refine qm_G.s1 rfl (qm_x_alen1 (len := 6) rfl) ?_
          refine qm_G.s1 rfl (qm_x_aload rfl) ?_
          refine qm_G.call rfl rfl rfl ?_
          refine qm_C.go (cd := qm_P0) (lv := [(0, qm_R (some (1, 18, 0)))]) rfl rfl ?_
          refine qm_G.s1 rfl (qm_x_pushI 1 rfl) ?_
          refine qm_G.s1 rfl (qm_x_if_eq_f ⟨by decide, by decide⟩ (by decide)) ?_
          refine qm_G.s1 rfl (qm_x_aload rfl) ?_
          refine qm_G.s1 rfl (qm_x_getgI (v := 0) rfl rfl) ?_
          refine qm_G.s1 rfl (qm_x_goto) ?_
          refine qm_G.ret rfl rfl ⟨_, rfl, ?_⟩
          refine qm_G.s1 rfl (qm_x_ishr0) ?_
          refine qm_G.ret rfl rfl ⟨_, rfl, ?_⟩
          refine qm_G.s1 rfl (qm_x_icmp_ge_f ⟨by omega, by omega⟩ ⟨by decide, by decide⟩ (by omega)) ?_
          refine qm_G.s1 rfl (qm_x_aload rfl) ?_
          refine qm_G.s1 rfl (qm_x_getfR (q := (some (0, 69, 0))) (hS 61 rfl) (hR 61 13 69 rfl rfl)) ?_
          refine qm_G.s1 rfl (qm_x_iload rfl) ?_
          refine qm_G.s1 rfl (qm_x_iload rfl) ?_
          refine qm_G.s1 rfl (qm_x_iadd) ?_
          have gT8 := (hT (a + 3) (by omega)).2
          refine qm_G.s1 rfl (qm_x_iald (v := (T (a + 3))) (qm_arS hS rfl rfl) rfl (by omega) (by omega) (by decide) (Eq.trans (congrArg (J 69 0) (by omega)) (hT (a + 3) (by omega)).1)) ?_
          refine qm_G.s1 rfl (qm_x_aload rfl) ?_
          refine qm_G.s1 rfl (qm_x_iload rfl) ?_
          refine qm_G.call rfl rfl rfl ?_
          refine qm_C.go (cd := qm_P162) (lv := [(0, qm_R (some (1, 18, 0))), (1, qm_I (qm_i (((0 + 1) + 1) + 1)))]) rfl rfl ?_
          refine qm_G.s1 rfl (qm_x_aload rfl) ?_
          refine qm_G.call rfl rfl rfl ?_
          refine qm_C.go (cd := qm_P1) (lv := [(0, qm_R (some (1, 18, 0)))]) rfl rfl ?_
          refine qm_G.s1 rfl (qm_x_pushI 1 rfl) ?_
          refine qm_G.s1 rfl (qm_x_if_eq_f ⟨by decide, by decide⟩ (by decide)) ?_
          refine qm_G.s1 rfl (qm_x_aload rfl) ?_
          refine qm_G.s1 rfl (qm_x_getgI (v := 0) rfl rfl) ?_
          refine qm_G.s1 rfl (qm_x_if_ne_f ⟨by decide, by decide⟩ (by decide)) ?_
          refine qm_G.s1 rfl (qm_x_pushI 1 rfl) ?_
          refine qm_G.s1 rfl (qm_x_goto) ?_
          refine qm_G.ret rfl rfl ⟨_, rfl, ?_⟩
          refine qm_G.s1 rfl (qm_x_if_eq_f ⟨by decide, by decide⟩ (by decide)) ?_
          refine qm_G.s1 rfl (qm_x_aload rfl) ?_
          refine qm_G.s1 rfl (qm_x_getgR rfl rfl) ?_
          refine qm_G.s1 rfl (qm_x_iload rfl) ?_
          refine qm_G.cs rfl rfl rfl ?_
          refine qm_C.go (cd := qm_P134) (lv := [(0, qm_R (some (1, 31, 0))), (1, qm_I (qm_i (((0 + 1) + 1) + 1)))]) rfl rfl ?_
          refine qm_G.s1 rfl (qm_x_iload rfl) ?_
          refine qm_G.s1 rfl (qm_x_aload rfl) ?_
          refine qm_G.s1 rfl (qm_x_alen1 (len := 6) rfl) ?_
          refine qm_G.csv rfl rfl rfl ?_
          refine qm_C.go (cd := qm_P69) (lv := [(0, qm_I (qm_i (((0 + 1) + 1) + 1))), (1, qm_I (qm_i 6))]) rfl rfl ?_
          refine qm_G.s1 rfl (qm_x_iload rfl) ?_
          refine qm_G.s1 rfl (qm_x_iload rfl) ?_
          refine qm_G.s1 rfl (show qm_St (qm_o_sio 5) _ _ _ _ _ (qm_R (qm_sio X) :: _) _ from rfl) ?_
          refine qm_G.cs rfl rfl rfl ?_
          refine qm_C.go (cd := qm_P3) (lv := [(0, qm_I (qm_i (((0 + 1) + 1) + 1))), (1, qm_I (qm_i 6)), (2, qm_R ((qm_sio X)))]) rfl rfl ?_
          refine qm_G.s1 rfl (qm_x_iload rfl) ?_
          refine qm_G.s1 rfl (qm_x_if_lt_f ⟨by omega, by omega⟩ (by omega)) ?_
          refine qm_G.s1 rfl (qm_x_iload rfl) ?_
          refine qm_G.s1 rfl (qm_x_iload rfl) ?_
          refine qm_G.s1 rfl (qm_x_icmp_lt_t ⟨by omega, by omega⟩ ⟨by decide, by decide⟩ (by omega)) ?_
          refine qm_G.sp (lv1 := [(0, qm_I (qm_i (((0 + 1) + 1) + 1)))]) rfl rfl (qm_x_iload rfl) ?_
          refine qm_G.ret rfl rfl ⟨_, rfl, ?_⟩
          refine qm_G.s1 rfl (qm_x_popI) ?_
          refine qm_G.retv rfl ⟨rfl, ?_⟩
          refine qm_G.s1 rfl (qm_x_aload rfl) ?_
          refine qm_G.s1 rfl (qm_x_iload rfl) ?_
          refine qm_G.s1 rfl (qm_x_bald1 (len := 6) (v := 101) rfl rfl (by omega) (by omega) (by rw [show Int.toNat (((0 + 1) + 1) + 1) = 3 by omega]; rfl)) ?_
          refine qm_G.s1 rfl (qm_x_pushI 255 rfl) ?_
          refine qm_G.s1 rfl (qm_x_iand255 (by omega)) ?_
          refine qm_G.s1 rfl (qm_x_i2c (by omega)) ?_
          refine qm_G.ret rfl rfl ⟨_, rfl, ?_⟩
          refine qm_G.ret rfl rfl ⟨_, rfl, ?_⟩
          refine qm_y_icmp_eq rfl ⟨by omega, by omega⟩ ⟨by decide, by decide⟩ (fun c9 => ?_) (fun c9 => ?_)
          · refine qm_G.sp (lv1 := [(0, qm_R (some (0, 61, 0))), (1, qm_I (qm_i x)), (2, qm_R (some (1, 18, 0))), (3, qm_I (qm_i (((0 + 1) + 1) + 1)))]) rfl rfl (qm_x_iinc (lv' := [(3, qm_I (qm_i ((((0 + 1) + 1) + 1) + 1))), (0, qm_R (some (0, 61, 0))), (1, qm_I (qm_i x)), (2, qm_R (some (1, 18, 0)))]) 1 rfl rfl rfl) ?_
            refine qm_G.s1 rfl (qm_x_goto) ?_
            refine qm_G.sp (lv1 := [(0, qm_R (some (0, 61, 0))), (1, qm_I (qm_i x)), (2, qm_R (some (1, 18, 0))), (3, qm_I (qm_i ((((0 + 1) + 1) + 1) + 1)))]) rfl rfl (qm_x_iload rfl) ?_
            refine qm_G.s1 rfl (qm_x_aload rfl) ?_
            refine qm_G.call rfl rfl rfl ?_
            refine qm_C.go (cd := qm_P53) (lv := [(0, qm_R (some (1, 18, 0)))]) rfl rfl ?_
            refine qm_G.s1 rfl (qm_x_aload rfl) ?_
            refine qm_G.s1 rfl (qm_x_getgR rfl rfl) ?_
            refine qm_G.s1 rfl (qm_x_alen1 (len := 6) rfl) ?_
            refine qm_G.s1 rfl (qm_x_aload rfl) ?_
            refine qm_G.call rfl rfl rfl ?_
            refine qm_C.go (cd := qm_P0) (lv := [(0, qm_R (some (1, 18, 0)))]) rfl rfl ?_
            refine qm_G.s1 rfl (qm_x_pushI 1 rfl) ?_
            refine qm_G.s1 rfl (qm_x_if_eq_f ⟨by decide, by decide⟩ (by decide)) ?_
            refine qm_G.s1 rfl (qm_x_aload rfl) ?_
            refine qm_G.s1 rfl (qm_x_getgI (v := 0) rfl rfl) ?_
            refine qm_G.s1 rfl (qm_x_goto) ?_
            refine qm_G.ret rfl rfl ⟨_, rfl, ?_⟩
            refine qm_G.s1 rfl (qm_x_ishr0) ?_
            refine qm_G.ret rfl rfl ⟨_, rfl, ?_⟩
            refine qm_G.s1 rfl (qm_x_icmp_ge_f ⟨by omega, by omega⟩ ⟨by decide, by decide⟩ (by omega)) ?_
            refine qm_G.s1 rfl (qm_x_aload rfl) ?_
            refine qm_G.s1 rfl (qm_x_getfR (q := (some (0, 69, 0))) (hS 61 rfl) (hR 61 13 69 rfl rfl)) ?_
            refine qm_G.s1 rfl (qm_x_iload rfl) ?_
            refine qm_G.s1 rfl (qm_x_iload rfl) ?_
            refine qm_G.s1 rfl (qm_x_iadd) ?_
            have gT10 := (hT (a + 4) (by omega)).2
            refine qm_G.s1 rfl (qm_x_iald (v := (T (a + 4))) (qm_arS hS rfl rfl) rfl (by omega) (by omega) (by decide) (Eq.trans (congrArg (J 69 0) (by omega)) (hT (a + 4) (by omega)).1)) ?_
            refine qm_G.s1 rfl (qm_x_aload rfl) ?_
            refine qm_G.s1 rfl (qm_x_iload rfl) ?_
            refine qm_G.call rfl rfl rfl ?_
            refine qm_C.go (cd := qm_P162) (lv := [(0, qm_R (some (1, 18, 0))), (1, qm_I (qm_i ((((0 + 1) + 1) + 1) + 1)))]) rfl rfl ?_
            refine qm_G.s1 rfl (qm_x_aload rfl) ?_
            refine qm_G.call rfl rfl rfl ?_
            refine qm_C.go (cd := qm_P1) (lv := [(0, qm_R (some (1, 18, 0)))]) rfl rfl ?_
            refine qm_G.s1 rfl (qm_x_pushI 1 rfl) ?_
            refine qm_G.s1 rfl (qm_x_if_eq_f ⟨by decide, by decide⟩ (by decide)) ?_
            refine qm_G.s1 rfl (qm_x_aload rfl) ?_
            refine qm_G.s1 rfl (qm_x_getgI (v := 0) rfl rfl) ?_
            refine qm_G.s1 rfl (qm_x_if_ne_f ⟨by decide, by decide⟩ (by decide)) ?_
            refine qm_G.s1 rfl (qm_x_pushI 1 rfl) ?_
            refine qm_G.s1 rfl (qm_x_goto) ?_
            refine qm_G.ret rfl rfl ⟨_, rfl, ?_⟩
            refine qm_G.s1 rfl (qm_x_if_eq_f ⟨by decide, by decide⟩ (by decide)) ?_
            refine qm_G.s1 rfl (qm_x_aload rfl) ?_
            refine qm_G.s1 rfl (qm_x_getgR rfl rfl) ?_
            refine qm_G.s1 rfl (qm_x_iload rfl) ?_
            refine qm_G.cs rfl rfl rfl ?_
            refine qm_C.go (cd := qm_P134) (lv := [(0, qm_R (some (1, 31, 0))), (1, qm_I (qm_i ((((0 + 1) + 1) + 1) + 1)))]) rfl rfl ?_
            refine qm_G.s1 rfl (qm_x_iload rfl) ?_
            refine qm_G.s1 rfl (qm_x_aload rfl) ?_
            refine qm_G.s1 rfl (qm_x_alen1 (len := 6) rfl) ?_
            refine qm_G.csv rfl rfl rfl ?_
            refine qm_C.go (cd := qm_P69) (lv := [(0, qm_I (qm_i ((((0 + 1) + 1) + 1) + 1))), (1, qm_I (qm_i 6))]) rfl rfl ?_
            refine qm_G.s1 rfl (qm_x_iload rfl) ?_
            refine qm_G.s1 rfl (qm_x_iload rfl) ?_
            refine qm_G.s1 rfl (show qm_St (qm_o_sio 5) _ _ _ _ _ (qm_R (qm_sio X) :: _) _ from rfl) ?_
            refine qm_G.cs rfl rfl rfl ?_
            refine qm_C.go (cd := qm_P3) (lv := [(0, qm_I (qm_i ((((0 + 1) + 1) + 1) + 1))), (1, qm_I (qm_i 6)), (2, qm_R ((qm_sio X)))]) rfl rfl ?_
            refine qm_G.s1 rfl (qm_x_iload rfl) ?_
            refine qm_G.s1 rfl (qm_x_if_lt_f ⟨by omega, by omega⟩ (by omega)) ?_
            refine qm_G.s1 rfl (qm_x_iload rfl) ?_
            refine qm_G.s1 rfl (qm_x_iload rfl) ?_
            refine qm_G.s1 rfl (qm_x_icmp_lt_t ⟨by omega, by omega⟩ ⟨by decide, by decide⟩ (by omega)) ?_
            refine qm_G.sp (lv1 := [(0, qm_I (qm_i ((((0 + 1) + 1) + 1) + 1)))]) rfl rfl (qm_x_iload rfl) ?_
            refine qm_G.ret rfl rfl ⟨_, rfl, ?_⟩
            refine qm_G.s1 rfl (qm_x_popI) ?_
            refine qm_G.retv rfl ⟨rfl, ?_⟩
            refine qm_G.s1 rfl (qm_x_aload rfl) ?_
            refine qm_G.s1 rfl (qm_x_iload rfl) ?_
            refine qm_G.s1 rfl (qm_x_bald1 (len := 6) (v := 101) rfl rfl (by omega) (by omega) (by rw [show Int.toNat ((((0 + 1) + 1) + 1) + 1) = 4 by omega]; rfl)) ?_
            refine qm_G.s1 rfl (qm_x_pushI 255 rfl) ?_
            refine qm_G.s1 rfl (qm_x_iand255 (by omega)) ?_
            refine qm_G.s1 rfl (qm_x_i2c (by omega)) ?_
            refine qm_G.ret rfl rfl ⟨_, rfl, ?_⟩
            refine qm_G.ret rfl rfl ⟨_, rfl, ?_⟩
            refine qm_y_icmp_eq rfl ⟨by omega, by omega⟩ ⟨by decide, by decide⟩ (fun c11 => ?_) (fun c11 => ?_)
            · refine qm_G.sp (lv1 := [(0, qm_R (some (0, 61, 0))), (1, qm_I (qm_i x)), (2, qm_R (some (1, 18, 0))), (3, qm_I (qm_i ((((0 + 1) + 1) + 1) + 1)))]) rfl rfl (qm_x_iinc (lv' := [(3, qm_I (qm_i (((((0 + 1) + 1) + 1) + 1) + 1))), (0, qm_R (some (0, 61, 0))), (1, qm_I (qm_i x)), (2, qm_R (some (1, 18, 0)))]) 1 rfl rfl rfl) ?_
              refine qm_G.s1 rfl (qm_x_goto) ?_
              refine qm_G.sp (lv1 := [(0, qm_R (some (0, 61, 0))), (1, qm_I (qm_i x)), (2, qm_R (some (1, 18, 0))), (3, qm_I (qm_i (((((0 + 1) + 1) + 1) + 1) + 1)))]) rfl rfl (qm_x_iload rfl) ?_
              refine qm_G.s1 rfl (qm_x_aload rfl) ?_
              refine qm_G.call rfl rfl rfl ?_
              refine qm_C.go (cd := qm_P53) (lv := [(0, qm_R (some (1, 18, 0)))]) rfl rfl ?_
              refine qm_G.s1 rfl (qm_x_aload rfl) ?_
              refine qm_G.s1 rfl (qm_x_getgR rfl rfl) ?_
              refine qm_G.s1 rfl (qm_x_alen1 (len := 6) rfl) ?_
              refine qm_G.s1 rfl (qm_x_aload rfl) ?_
              refine qm_G.call rfl rfl rfl ?_
              refine qm_C.go (cd := qm_P0) (lv := [(0, qm_R (some (1, 18, 0)))]) rfl rfl ?_
              refine qm_G.s1 rfl (qm_x_pushI 1 rfl) ?_
              refine qm_G.s1 rfl (qm_x_if_eq_f ⟨by decide, by decide⟩ (by decide)) ?_
              refine qm_G.s1 rfl (qm_x_aload rfl) ?_
              refine qm_G.s1 rfl (qm_x_getgI (v := 0) rfl rfl) ?_
              refine qm_G.s1 rfl (qm_x_goto) ?_
              refine qm_G.ret rfl rfl ⟨_, rfl, ?_⟩
              refine qm_G.s1 rfl (qm_x_ishr0) ?_
              refine qm_G.ret rfl rfl ⟨_, rfl, ?_⟩
              refine qm_G.s1 rfl (qm_x_icmp_ge_f ⟨by omega, by omega⟩ ⟨by decide, by decide⟩ (by omega)) ?_
              refine qm_G.s1 rfl (qm_x_aload rfl) ?_
              refine qm_G.s1 rfl (qm_x_getfR (q := (some (0, 69, 0))) (hS 61 rfl) (hR 61 13 69 rfl rfl)) ?_
              refine qm_G.s1 rfl (qm_x_iload rfl) ?_
              refine qm_G.s1 rfl (qm_x_iload rfl) ?_
              refine qm_G.s1 rfl (qm_x_iadd) ?_
              have gT12 := (hT (a + 5) (by omega)).2
              refine qm_G.s1 rfl (qm_x_iald (v := (T (a + 5))) (qm_arS hS rfl rfl) rfl (by omega) (by omega) (by decide) (Eq.trans (congrArg (J 69 0) (by omega)) (hT (a + 5) (by omega)).1)) ?_
              refine qm_G.s1 rfl (qm_x_aload rfl) ?_
              refine qm_G.s1 rfl (qm_x_iload rfl) ?_
              refine qm_G.call rfl rfl rfl ?_
              refine qm_C.go (cd := qm_P162) (lv := [(0, qm_R (some (1, 18, 0))), (1, qm_I (qm_i (((((0 + 1) + 1) + 1) + 1) + 1)))]) rfl rfl ?_
              refine qm_G.s1 rfl (qm_x_aload rfl) ?_
              refine qm_G.call rfl rfl rfl ?_
              refine qm_C.go (cd := qm_P1) (lv := [(0, qm_R (some (1, 18, 0)))]) rfl rfl ?_
              refine qm_G.s1 rfl (qm_x_pushI 1 rfl) ?_
              refine qm_G.s1 rfl (qm_x_if_eq_f ⟨by decide, by decide⟩ (by decide)) ?_
              refine qm_G.s1 rfl (qm_x_aload rfl) ?_
              refine qm_G.s1 rfl (qm_x_getgI (v := 0) rfl rfl) ?_
              refine qm_G.s1 rfl (qm_x_if_ne_f ⟨by decide, by decide⟩ (by decide)) ?_
              refine qm_G.s1 rfl (qm_x_pushI 1 rfl) ?_
              refine qm_G.s1 rfl (qm_x_goto) ?_
              refine qm_G.ret rfl rfl ⟨_, rfl, ?_⟩
              refine qm_G.s1 rfl (qm_x_if_eq_f ⟨by decide, by decide⟩ (by decide)) ?_
              refine qm_G.s1 rfl (qm_x_aload rfl) ?_
              refine qm_G.s1 rfl (qm_x_getgR rfl rfl) ?_
              refine qm_G.s1 rfl (qm_x_iload rfl) ?_
              refine qm_G.cs rfl rfl rfl ?_
              refine qm_C.go (cd := qm_P134) (lv := [(0, qm_R (some (1, 31, 0))), (1, qm_I (qm_i (((((0 + 1) + 1) + 1) + 1) + 1)))]) rfl rfl ?_
              refine qm_G.s1 rfl (qm_x_iload rfl) ?_
              refine qm_G.s1 rfl (qm_x_aload rfl) ?_
              refine qm_G.s1 rfl (qm_x_alen1 (len := 6) rfl) ?_
              refine qm_G.csv rfl rfl rfl ?_
              refine qm_C.go (cd := qm_P69) (lv := [(0, qm_I (qm_i (((((0 + 1) + 1) + 1) + 1) + 1))), (1, qm_I (qm_i 6))]) rfl rfl ?_
              refine qm_G.s1 rfl (qm_x_iload rfl) ?_
              refine qm_G.s1 rfl (qm_x_iload rfl) ?_
              refine qm_G.s1 rfl (show qm_St (qm_o_sio 5) _ _ _ _ _ (qm_R (qm_sio X) :: _) _ from rfl) ?_
              refine qm_G.cs rfl rfl rfl ?_
              refine qm_C.go (cd := qm_P3) (lv := [(0, qm_I (qm_i (((((0 + 1) + 1) + 1) + 1) + 1))), (1, qm_I (qm_i 6)), (2, qm_R ((qm_sio X)))]) rfl rfl ?_
              refine qm_G.s1 rfl (qm_x_iload rfl) ?_
              refine qm_G.s1 rfl (qm_x_if_lt_f ⟨by omega, by omega⟩ (by omega)) ?_
              refine qm_G.s1 rfl (qm_x_iload rfl) ?_
              refine qm_G.s1 rfl (qm_x_iload rfl) ?_
              refine qm_G.s1 rfl (qm_x_icmp_lt_t ⟨by omega, by omega⟩ ⟨by decide, by decide⟩ (by omega)) ?_
              refine qm_G.sp (lv1 := [(0, qm_I (qm_i (((((0 + 1) + 1) + 1) + 1) + 1)))]) rfl rfl (qm_x_iload rfl) ?_
              refine qm_G.ret rfl rfl ⟨_, rfl, ?_⟩
              refine qm_G.s1 rfl (qm_x_popI) ?_
              refine qm_G.retv rfl ⟨rfl, ?_⟩
              refine qm_G.s1 rfl (qm_x_aload rfl) ?_
              refine qm_G.s1 rfl (qm_x_iload rfl) ?_
              refine qm_G.s1 rfl (qm_x_bald1 (len := 6) (v := 116) rfl rfl (by omega) (by omega) (by rw [show Int.toNat (((((0 + 1) + 1) + 1) + 1) + 1) = 5 by omega]; rfl)) ?_
              refine qm_G.s1 rfl (qm_x_pushI 255 rfl) ?_
              refine qm_G.s1 rfl (qm_x_iand255 (by omega)) ?_
              refine qm_G.s1 rfl (qm_x_i2c (by omega)) ?_
              refine qm_G.ret rfl rfl ⟨_, rfl, ?_⟩
              refine qm_G.ret rfl rfl ⟨_, rfl, ?_⟩
              refine qm_y_icmp_eq rfl ⟨by omega, by omega⟩ ⟨by decide, by decide⟩ (fun c13 => ?_) (fun c13 => ?_)
              · refine qm_G.sp (lv1 := [(0, qm_R (some (0, 61, 0))), (1, qm_I (qm_i x)), (2, qm_R (some (1, 18, 0))), (3, qm_I (qm_i (((((0 + 1) + 1) + 1) + 1) + 1)))]) rfl rfl (qm_x_iinc (lv' := [(3, qm_I (qm_i ((((((0 + 1) + 1) + 1) + 1) + 1) + 1))), (0, qm_R (some (0, 61, 0))), (1, qm_I (qm_i x)), (2, qm_R (some (1, 18, 0)))]) 1 rfl rfl rfl) ?_
                refine qm_G.s1 rfl (qm_x_goto) ?_
                refine qm_G.sp (lv1 := [(0, qm_R (some (0, 61, 0))), (1, qm_I (qm_i x)), (2, qm_R (some (1, 18, 0))), (3, qm_I (qm_i ((((((0 + 1) + 1) + 1) + 1) + 1) + 1)))]) rfl rfl (qm_x_iload rfl) ?_
                refine qm_G.s1 rfl (qm_x_aload rfl) ?_
                refine qm_G.call rfl rfl rfl ?_
                refine qm_C.go (cd := qm_P53) (lv := [(0, qm_R (some (1, 18, 0)))]) rfl rfl ?_
                refine qm_G.s1 rfl (qm_x_aload rfl) ?_
                refine qm_G.s1 rfl (qm_x_getgR rfl rfl) ?_
                refine qm_G.s1 rfl (qm_x_alen1 (len := 6) rfl) ?_
                refine qm_G.s1 rfl (qm_x_aload rfl) ?_
                refine qm_G.call rfl rfl rfl ?_
                refine qm_C.go (cd := qm_P0) (lv := [(0, qm_R (some (1, 18, 0)))]) rfl rfl ?_
                refine qm_G.s1 rfl (qm_x_pushI 1 rfl) ?_
                refine qm_G.s1 rfl (qm_x_if_eq_f ⟨by decide, by decide⟩ (by decide)) ?_
                refine qm_G.s1 rfl (qm_x_aload rfl) ?_
                refine qm_G.s1 rfl (qm_x_getgI (v := 0) rfl rfl) ?_
                refine qm_G.s1 rfl (qm_x_goto) ?_
                refine qm_G.ret rfl rfl ⟨_, rfl, ?_⟩
                refine qm_G.s1 rfl (qm_x_ishr0) ?_
                refine qm_G.ret rfl rfl ⟨_, rfl, ?_⟩
                refine qm_G.s1 rfl (qm_x_icmp_ge_t ⟨by omega, by omega⟩ ⟨by decide, by decide⟩ (by omega)) ?_
                refine qm_G.sp (lv1 := []) rfl rfl (qm_x_pushI 1 rfl) ?_
                refine qm_G.ret rfl rfl (k1 ?_)
                refine ⟨by show e = a + 6; omega, fun j hj => ?_⟩
                change j < 6 at hj
                rcases (show j = 0 ∨ j = 1 ∨ j = 2 ∨ j = 3 ∨ j = 4 ∨ j = 5 by omega) with c9 | c9 | c9 | c9 | c9 | c9
                · subst c9; exact (show T (a + 0) = 115 by omega)
                · subst c9; exact (show T (a + 1) = 116 by omega)
                · subst c9; exact (show T (a + 2) = 114 by omega)
                · subst c9; exact (show T (a + 3) = 101 by omega)
                · subst c9; exact (show T (a + 4) = 101 by omega)
                · subst c9; exact (show T (a + 5) = 116 by omega)
              · refine qm_G.s1 rfl (qm_x_pushI 0 rfl) ?_
                exact qm_G.ret rfl rfl (k0 (fun h => by have h9 : T (a + 5) = 116 := h.2 5 (by decide); omega))
            · refine qm_G.s1 rfl (qm_x_pushI 0 rfl) ?_
              exact qm_G.ret rfl rfl (k0 (fun h => by have h9 : T (a + 4) = 101 := h.2 4 (by decide); omega))
          · refine qm_G.s1 rfl (qm_x_pushI 0 rfl) ?_
            exact qm_G.ret rfl rfl (k0 (fun h => by have h9 : T (a + 3) = 101 := h.2 3 (by decide); omega))
        · refine qm_G.s1 rfl (qm_x_pushI 0 rfl) ?_
          exact qm_G.ret rfl rfl (k0 (fun h => by have h9 : T (a + 2) = 114 := h.2 2 (by decide); omega))
      · refine qm_G.s1 rfl (qm_x_pushI 0 rfl) ?_
        exact qm_G.ret rfl rfl (k0 (fun h => by have h9 : T (a + 1) = 116 := h.2 1 (by decide); omega))
    · refine qm_G.s1 rfl (qm_x_pushI 0 rfl) ?_
      exact qm_G.ret rfl rfl (k0 (fun h => by have h9 : T (a + 0) = 115 := h.2 0 (by decide); omega))
  · refine qm_G.s1 rfl (qm_x_pushI 0 rfl) ?_
    exact qm_G.ret rfl rfl (k0 (fun h => by have h9 : e = a + 6 := h.1; omega))
theorem qm_m_wl {S : List qm_Sh} {K : qm_J} {L : qm_Ct Int64} {D : qm_Ct UInt64} {R : qm_Ct (Option qm_Rf)} {X : Nat × (Nat → Int32)} {Q : Option qm_V → qm_Hp → Prop} {T : Nat → Int} {ln : Int} {J : qm_J} {n x : Int} {a e : Nat} (hS : qm_Sd S) (hR : qm_Rd R) (hT : ∀ i, i < 100 → J 69 0 i = T i ∧ 0 ≤ T i ∧ T i ≤ 127) (rl : 0 ≤ ln ∧ ln ≤ 100) (hl : J 61 0 12 = ln) (hx : x = (a : Int)) (h16 : J 61 0 16 = (e : Int)) (h1 : a ≤ e ∧ e ≤ 100) (k : qm_G qm_P qm_P197 55 [(0, qm_R (some (0, 61, 0))), (1, qm_I (qm_i n)), (2, qm_I (qm_i x)), (3, qm_I (qm_i (qm_wk T a e : Int)))] [] (qm_H S J K L D R X) Q) : qm_G qm_P qm_P197 31 [(0, qm_R (some (0, 61, 0))), (1, qm_I (qm_i n)), (2, qm_I (qm_i x)), (3, qm_I (qm_i 0))] [] (qm_H S J K L D R X) Q := by
  refine qm_G.pk (lv1 := [(0, qm_R (some (0, 61, 0))), (1, qm_I (qm_i n)), (2, qm_I (qm_i x)), (3, qm_I (qm_i 0))]) rfl rfl rfl ?_
  refine qm_G.sp (lv1 := [(0, qm_R (some (0, 61, 0))), (1, qm_I (qm_i n)), (2, qm_I (qm_i x)), (3, qm_I (qm_i 0))]) rfl rfl (qm_x_iload rfl) ?_
  refine qm_G.s1 rfl (qm_x_pushI 7 rfl) ?_
  refine qm_G.s1 rfl (qm_x_icmp_ge_f ⟨by decide, by decide⟩ ⟨by decide, by decide⟩ (by decide)) ?_
  refine qm_G.s1 rfl (qm_x_aload rfl) ?_
  refine qm_G.s1 rfl (qm_x_iload rfl) ?_
  refine qm_G.s1 rfl (qm_x_iload rfl) ?_
  refine qm_G.cs rfl rfl rfl ?_
  refine qm_C.go (cd := qm_P29) (lv := [(0, qm_I (qm_i 0))]) rfl rfl ?_
  refine qm_G.s1 rfl (qm_x_iload rfl) ?_
  refine qm_G.s1 rfl (qm_x_tsw (t := 40) rfl) ?_
  refine qm_G.sp (lv1 := []) rfl rfl (qm_x_push) ?_
  refine qm_G.ret rfl rfl ⟨_, rfl, ?_⟩
  refine qm_G.cm rfl rfl (hS 61 rfl) rfl ?_
  refine qm_m_isw0 hS hR hT rl hl hx h16 h1 (fun c0 => ⟨_, rfl, ?_⟩) (fun c0 => ⟨_, rfl, ?_⟩)
  · refine qm_G.s1 rfl (qm_x_if_ne_t ⟨by decide, by decide⟩ (by decide)) ?_
    refine qm_G.pk (lv1 := [(0, qm_R (some (0, 61, 0))), (1, qm_I (qm_i n)), (2, qm_I (qm_i x)), (3, qm_I (qm_i 0))]) rfl rfl rfl ?_
    rw [qm_wk_eq (k := 0) (by decide) (fun _ => c0) (fun j hj => ?_)] at k
    · exact k
    · exact absurd hj (Nat.not_lt_zero j)
  · refine qm_G.s1 rfl (qm_x_if_ne_f ⟨by decide, by decide⟩ (by decide)) ?_
    refine qm_G.s1 rfl (qm_x_iinc (lv' := [(3, qm_I (qm_i (0 + 1))), (0, qm_R (some (0, 61, 0))), (1, qm_I (qm_i n)), (2, qm_I (qm_i x))]) 1 rfl rfl rfl) ?_
    refine qm_G.s1 rfl (qm_x_goto) ?_
    refine qm_G.sp (lv1 := [(0, qm_R (some (0, 61, 0))), (1, qm_I (qm_i n)), (2, qm_I (qm_i x)), (3, qm_I (qm_i (0 + 1)))]) rfl rfl (qm_x_iload rfl) ?_
    refine qm_G.s1 rfl (qm_x_pushI 7 rfl) ?_
    refine qm_G.s1 rfl (qm_x_icmp_ge_f ⟨by omega, by omega⟩ ⟨by decide, by decide⟩ (by omega)) ?_
    refine qm_G.s1 rfl (qm_x_aload rfl) ?_
    refine qm_G.s1 rfl (qm_x_iload rfl) ?_
    refine qm_G.s1 rfl (qm_x_iload rfl) ?_
    refine qm_G.cs rfl rfl rfl ?_
    refine qm_C.go (cd := qm_P29) (lv := [(0, qm_I (qm_i (0 + 1)))]) rfl rfl ?_
    refine qm_G.s1 rfl (qm_x_iload rfl) ?_
    refine qm_G.s1 rfl (qm_x_tsw (t := 43) rfl) ?_
    refine qm_G.sp (lv1 := []) rfl rfl (qm_x_push) ?_
    refine qm_G.ret rfl rfl ⟨_, rfl, ?_⟩
    refine qm_G.cm rfl rfl (hS 61 rfl) rfl ?_
    refine qm_m_isw1 hS hR hT rl hl hx h16 h1 (fun c1 => ⟨_, rfl, ?_⟩) (fun c1 => ⟨_, rfl, ?_⟩)
    · refine qm_G.s1 rfl (qm_x_if_ne_t ⟨by decide, by decide⟩ (by decide)) ?_
      refine qm_G.pk (lv1 := [(0, qm_R (some (0, 61, 0))), (1, qm_I (qm_i n)), (2, qm_I (qm_i x)), (3, qm_I (qm_i (0 + 1)))]) rfl rfl rfl ?_
      rw [qm_wk_eq (k := 1) (by decide) (fun _ => c1) (fun j hj => ?_)] at k
      · exact k
      · rcases (show j = 0 by omega) with c9
        · subst c9; exact c0
    · refine qm_G.s1 rfl (qm_x_if_ne_f ⟨by decide, by decide⟩ (by decide)) ?_
      refine qm_G.s1 rfl (qm_x_iinc (lv' := [(3, qm_I (qm_i ((0 + 1) + 1))), (0, qm_R (some (0, 61, 0))), (1, qm_I (qm_i n)), (2, qm_I (qm_i x))]) 1 rfl rfl rfl) ?_
      refine qm_G.s1 rfl (qm_x_goto) ?_
      refine qm_G.sp (lv1 := [(0, qm_R (some (0, 61, 0))), (1, qm_I (qm_i n)), (2, qm_I (qm_i x)), (3, qm_I (qm_i ((0 + 1) + 1)))]) rfl rfl (qm_x_iload rfl) ?_
      refine qm_G.s1 rfl (qm_x_pushI 7 rfl) ?_
      refine qm_G.s1 rfl (qm_x_icmp_ge_f ⟨by omega, by omega⟩ ⟨by decide, by decide⟩ (by omega)) ?_
      refine qm_G.s1 rfl (qm_x_aload rfl) ?_
      refine qm_G.s1 rfl (qm_x_iload rfl) ?_
      refine qm_G.s1 rfl (qm_x_iload rfl) ?_
      refine qm_G.cs rfl rfl rfl ?_
      refine qm_C.go (cd := qm_P29) (lv := [(0, qm_I (qm_i ((0 + 1) + 1)))]) rfl rfl ?_
      refine qm_G.s1 rfl (qm_x_iload rfl) ?_
      refine qm_G.s1 rfl (qm_x_tsw (t := 46) rfl) ?_
      refine qm_G.sp (lv1 := []) rfl rfl (qm_x_push) ?_
      refine qm_G.ret rfl rfl ⟨_, rfl, ?_⟩
      refine qm_G.cm rfl rfl (hS 61 rfl) rfl ?_
      refine qm_m_isw2 hS hR hT rl hl hx h16 h1 (fun c2 => ⟨_, rfl, ?_⟩) (fun c2 => ⟨_, rfl, ?_⟩)
      · refine qm_G.s1 rfl (qm_x_if_ne_t ⟨by decide, by decide⟩ (by decide)) ?_
        refine qm_G.pk (lv1 := [(0, qm_R (some (0, 61, 0))), (1, qm_I (qm_i n)), (2, qm_I (qm_i x)), (3, qm_I (qm_i ((0 + 1) + 1)))]) rfl rfl rfl ?_
        rw [qm_wk_eq (k := 2) (by decide) (fun _ => c2) (fun j hj => ?_)] at k
        · exact k
        · rcases (show j = 0 ∨ j = 1 by omega) with c9 | c9
          · subst c9; exact c0
          · subst c9; exact c1
      · refine qm_G.s1 rfl (qm_x_if_ne_f ⟨by decide, by decide⟩ (by decide)) ?_
        refine qm_G.s1 rfl (qm_x_iinc (lv' := [(3, qm_I (qm_i (((0 + 1) + 1) + 1))), (0, qm_R (some (0, 61, 0))), (1, qm_I (qm_i n)), (2, qm_I (qm_i x))]) 1 rfl rfl rfl) ?_
        refine qm_G.s1 rfl (qm_x_goto) ?_
        refine qm_G.sp (lv1 := [(0, qm_R (some (0, 61, 0))), (1, qm_I (qm_i n)), (2, qm_I (qm_i x)), (3, qm_I (qm_i (((0 + 1) + 1) + 1)))]) rfl rfl (qm_x_iload rfl) ?_
        refine qm_G.s1 rfl (qm_x_pushI 7 rfl) ?_
        refine qm_G.s1 rfl (qm_x_icmp_ge_f ⟨by omega, by omega⟩ ⟨by decide, by decide⟩ (by omega)) ?_
        refine qm_G.s1 rfl (qm_x_aload rfl) ?_
        refine qm_G.s1 rfl (qm_x_iload rfl) ?_
        refine qm_G.s1 rfl (qm_x_iload rfl) ?_
        refine qm_G.cs rfl rfl rfl ?_
        refine qm_C.go (cd := qm_P29) (lv := [(0, qm_I (qm_i (((0 + 1) + 1) + 1)))]) rfl rfl ?_
        refine qm_G.s1 rfl (qm_x_iload rfl) ?_
        refine qm_G.s1 rfl (qm_x_tsw (t := 49) rfl) ?_
        refine qm_G.sp (lv1 := []) rfl rfl (qm_x_push) ?_
        refine qm_G.ret rfl rfl ⟨_, rfl, ?_⟩
        refine qm_G.cm rfl rfl (hS 61 rfl) rfl ?_
        refine qm_m_isw3 hS hR hT rl hl hx h16 h1 (fun c3 => ⟨_, rfl, ?_⟩) (fun c3 => ⟨_, rfl, ?_⟩)
        · refine qm_G.s1 rfl (qm_x_if_ne_t ⟨by decide, by decide⟩ (by decide)) ?_
          refine qm_G.pk (lv1 := [(0, qm_R (some (0, 61, 0))), (1, qm_I (qm_i n)), (2, qm_I (qm_i x)), (3, qm_I (qm_i (((0 + 1) + 1) + 1)))]) rfl rfl rfl ?_
          rw [qm_wk_eq (k := 3) (by decide) (fun _ => c3) (fun j hj => ?_)] at k
          · exact k
          · rcases (show j = 0 ∨ j = 1 ∨ j = 2 by omega) with c9 | c9 | c9
            · subst c9; exact c0
            · subst c9; exact c1
            · subst c9; exact c2
        · refine qm_G.s1 rfl (qm_x_if_ne_f ⟨by decide, by decide⟩ (by decide)) ?_
          refine qm_G.s1 rfl (qm_x_iinc (lv' := [(3, qm_I (qm_i ((((0 + 1) + 1) + 1) + 1))), (0, qm_R (some (0, 61, 0))), (1, qm_I (qm_i n)), (2, qm_I (qm_i x))]) 1 rfl rfl rfl) ?_
          refine qm_G.s1 rfl (qm_x_goto) ?_
          refine qm_G.sp (lv1 := [(0, qm_R (some (0, 61, 0))), (1, qm_I (qm_i n)), (2, qm_I (qm_i x)), (3, qm_I (qm_i ((((0 + 1) + 1) + 1) + 1)))]) rfl rfl (qm_x_iload rfl) ?_
          refine qm_G.s1 rfl (qm_x_pushI 7 rfl) ?_
          refine qm_G.s1 rfl (qm_x_icmp_ge_f ⟨by omega, by omega⟩ ⟨by decide, by decide⟩ (by omega)) ?_
          refine qm_G.s1 rfl (qm_x_aload rfl) ?_
          refine qm_G.s1 rfl (qm_x_iload rfl) ?_
          refine qm_G.s1 rfl (qm_x_iload rfl) ?_
          refine qm_G.cs rfl rfl rfl ?_
          refine qm_C.go (cd := qm_P29) (lv := [(0, qm_I (qm_i ((((0 + 1) + 1) + 1) + 1)))]) rfl rfl ?_
          refine qm_G.s1 rfl (qm_x_iload rfl) ?_
          refine qm_G.s1 rfl (qm_x_tsw (t := 52) rfl) ?_
          refine qm_G.sp (lv1 := []) rfl rfl (qm_x_push) ?_
          refine qm_G.ret rfl rfl ⟨_, rfl, ?_⟩
          refine qm_G.cm rfl rfl (hS 61 rfl) rfl ?_
          refine qm_m_isw4 hS hR hT rl hl hx h16 h1 (fun c4 => ⟨_, rfl, ?_⟩) (fun c4 => ⟨_, rfl, ?_⟩)
          · refine qm_G.s1 rfl (qm_x_if_ne_t ⟨by decide, by decide⟩ (by decide)) ?_
            refine qm_G.pk (lv1 := [(0, qm_R (some (0, 61, 0))), (1, qm_I (qm_i n)), (2, qm_I (qm_i x)), (3, qm_I (qm_i ((((0 + 1) + 1) + 1) + 1)))]) rfl rfl rfl ?_
            rw [qm_wk_eq (k := 4) (by decide) (fun _ => c4) (fun j hj => ?_)] at k
            · exact k
            · rcases (show j = 0 ∨ j = 1 ∨ j = 2 ∨ j = 3 by omega) with c9 | c9 | c9 | c9
              · subst c9; exact c0
              · subst c9; exact c1
              · subst c9; exact c2
              · subst c9; exact c3
          · refine qm_G.s1 rfl (qm_x_if_ne_f ⟨by decide, by decide⟩ (by decide)) ?_
            refine qm_G.s1 rfl (qm_x_iinc (lv' := [(3, qm_I (qm_i (((((0 + 1) + 1) + 1) + 1) + 1))), (0, qm_R (some (0, 61, 0))), (1, qm_I (qm_i n)), (2, qm_I (qm_i x))]) 1 rfl rfl rfl) ?_
            refine qm_G.s1 rfl (qm_x_goto) ?_
            refine qm_G.sp (lv1 := [(0, qm_R (some (0, 61, 0))), (1, qm_I (qm_i n)), (2, qm_I (qm_i x)), (3, qm_I (qm_i (((((0 + 1) + 1) + 1) + 1) + 1)))]) rfl rfl (qm_x_iload rfl) ?_
            refine qm_G.s1 rfl (qm_x_pushI 7 rfl) ?_
            refine qm_G.s1 rfl (qm_x_icmp_ge_f ⟨by omega, by omega⟩ ⟨by decide, by decide⟩ (by omega)) ?_
            refine qm_G.s1 rfl (qm_x_aload rfl) ?_
            refine qm_G.s1 rfl (qm_x_iload rfl) ?_
            refine qm_G.s1 rfl (qm_x_iload rfl) ?_
            refine qm_G.cs rfl rfl rfl ?_
            refine qm_C.go (cd := qm_P29) (lv := [(0, qm_I (qm_i (((((0 + 1) + 1) + 1) + 1) + 1)))]) rfl rfl ?_
            refine qm_G.s1 rfl (qm_x_iload rfl) ?_
            refine qm_G.s1 rfl (qm_x_tsw (t := 55) rfl) ?_
            refine qm_G.sp (lv1 := []) rfl rfl (qm_x_push) ?_
            refine qm_G.ret rfl rfl ⟨_, rfl, ?_⟩
            refine qm_G.cm rfl rfl (hS 61 rfl) rfl ?_
            refine qm_m_isw5 hS hR hT rl hl hx h16 h1 (fun c5 => ⟨_, rfl, ?_⟩) (fun c5 => ⟨_, rfl, ?_⟩)
            · refine qm_G.s1 rfl (qm_x_if_ne_t ⟨by decide, by decide⟩ (by decide)) ?_
              refine qm_G.pk (lv1 := [(0, qm_R (some (0, 61, 0))), (1, qm_I (qm_i n)), (2, qm_I (qm_i x)), (3, qm_I (qm_i (((((0 + 1) + 1) + 1) + 1) + 1)))]) rfl rfl rfl ?_
              rw [qm_wk_eq (k := 5) (by decide) (fun _ => c5) (fun j hj => ?_)] at k
              · exact k
              · rcases (show j = 0 ∨ j = 1 ∨ j = 2 ∨ j = 3 ∨ j = 4 by omega) with c9 | c9 | c9 | c9 | c9
                · subst c9; exact c0
                · subst c9; exact c1
                · subst c9; exact c2
                · subst c9; exact c3
                · subst c9; exact c4
            · refine qm_G.s1 rfl (qm_x_if_ne_f ⟨by decide, by decide⟩ (by decide)) ?_
              refine qm_G.s1 rfl (qm_x_iinc (lv' := [(3, qm_I (qm_i ((((((0 + 1) + 1) + 1) + 1) + 1) + 1))), (0, qm_R (some (0, 61, 0))), (1, qm_I (qm_i n)), (2, qm_I (qm_i x))]) 1 rfl rfl rfl) ?_
              refine qm_G.s1 rfl (qm_x_goto) ?_
              refine qm_G.sp (lv1 := [(0, qm_R (some (0, 61, 0))), (1, qm_I (qm_i n)), (2, qm_I (qm_i x)), (3, qm_I (qm_i ((((((0 + 1) + 1) + 1) + 1) + 1) + 1)))]) rfl rfl (qm_x_iload rfl) ?_
              refine qm_G.s1 rfl (qm_x_pushI 7 rfl) ?_
              refine qm_G.s1 rfl (qm_x_icmp_ge_f ⟨by omega, by omega⟩ ⟨by decide, by decide⟩ (by omega)) ?_
              refine qm_G.s1 rfl (qm_x_aload rfl) ?_
              refine qm_G.s1 rfl (qm_x_iload rfl) ?_
              refine qm_G.s1 rfl (qm_x_iload rfl) ?_
              refine qm_G.cs rfl rfl rfl ?_
              refine qm_C.go (cd := qm_P29) (lv := [(0, qm_I (qm_i ((((((0 + 1) + 1) + 1) + 1) + 1) + 1)))]) rfl rfl ?_
              refine qm_G.s1 rfl (qm_x_iload rfl) ?_
              refine qm_G.s1 rfl (qm_x_tsw (t := 58) rfl) ?_
              refine qm_G.sp (lv1 := []) rfl rfl (qm_x_push) ?_
              refine qm_G.ret rfl rfl ⟨_, rfl, ?_⟩
              refine qm_G.cm rfl rfl (hS 61 rfl) rfl ?_
              refine qm_m_isw6 hS hR hT rl hl hx h16 h1 (fun c6 => ⟨_, rfl, ?_⟩) (fun c6 => ⟨_, rfl, ?_⟩)
              · refine qm_G.s1 rfl (qm_x_if_ne_t ⟨by decide, by decide⟩ (by decide)) ?_
                refine qm_G.pk (lv1 := [(0, qm_R (some (0, 61, 0))), (1, qm_I (qm_i n)), (2, qm_I (qm_i x)), (3, qm_I (qm_i ((((((0 + 1) + 1) + 1) + 1) + 1) + 1)))]) rfl rfl rfl ?_
                rw [qm_wk_eq (k := 6) (by decide) (fun _ => c6) (fun j hj => ?_)] at k
                · exact k
                · rcases (show j = 0 ∨ j = 1 ∨ j = 2 ∨ j = 3 ∨ j = 4 ∨ j = 5 by omega) with c9 | c9 | c9 | c9 | c9 | c9
                  · subst c9; exact c0
                  · subst c9; exact c1
                  · subst c9; exact c2
                  · subst c9; exact c3
                  · subst c9; exact c4
                  · subst c9; exact c5
              · refine qm_G.s1 rfl (qm_x_if_ne_f ⟨by decide, by decide⟩ (by decide)) ?_
                refine qm_G.s1 rfl (qm_x_iinc (lv' := [(3, qm_I (qm_i (((((((0 + 1) + 1) + 1) + 1) + 1) + 1) + 1))), (0, qm_R (some (0, 61, 0))), (1, qm_I (qm_i n)), (2, qm_I (qm_i x))]) 1 rfl rfl rfl) ?_
                refine qm_G.s1 rfl (qm_x_goto) ?_
                refine qm_G.sp (lv1 := [(0, qm_R (some (0, 61, 0))), (1, qm_I (qm_i n)), (2, qm_I (qm_i x)), (3, qm_I (qm_i (((((((0 + 1) + 1) + 1) + 1) + 1) + 1) + 1)))]) rfl rfl (qm_x_iload rfl) ?_
                refine qm_G.s1 rfl (qm_x_pushI 7 rfl) ?_
                refine qm_G.s1 rfl (qm_x_icmp_ge_t ⟨by omega, by omega⟩ ⟨by decide, by decide⟩ (by omega)) ?_
                refine qm_G.pk (lv1 := [(0, qm_R (some (0, 61, 0))), (1, qm_I (qm_i n)), (2, qm_I (qm_i x)), (3, qm_I (qm_i (((((((0 + 1) + 1) + 1) + 1) + 1) + 1) + 1)))]) rfl rfl rfl ?_
                rw [qm_wk_eq (k := 7) (by decide) (fun h => absurd h (by decide)) (fun j hj => ?_)] at k
                · exact k
                · rcases (show j = 0 ∨ j = 1 ∨ j = 2 ∨ j = 3 ∨ j = 4 ∨ j = 5 ∨ j = 6 by omega) with c9 | c9 | c9 | c9 | c9 | c9 | c9
                  · subst c9; exact c0
                  · subst c9; exact c1
                  · subst c9; exact c2
                  · subst c9; exact c3
                  · subst c9; exact c4
                  · subst c9; exact c5
                  · subst c9; exact c6
theorem qm_m_dig {S : List qm_Sh} {K : qm_J} {L : qm_Ct Int64} {D : qm_Ct UInt64} {R : qm_Ct (Option qm_Rf)} {X : Nat × (Nat → Int32)} {Q : Option qm_V → qm_Hp → Prop} {T : Nat → Int} {ln : Int} {J : qm_J} {n kk : Int} {a t : Nat} (hS : qm_Sd S) (hR : qm_Rd R) (hT : ∀ i, i < 100 → J 69 0 i = T i ∧ 0 ≤ T i ∧ T i ≤ 127) (rl : 0 ≤ ln ∧ ln ≤ 100) (hl : J 61 0 12 = ln) (ha : (a : Int) ≤ ln) (k : ∀ J1 : qm_J, (∀ r s i, ¬ (r = 61 ∧ i = 16) → J1 r s i = J r s i) → J1 61 0 16 = (t : Int) → qm_G qm_P qm_P197 135 [(0, qm_R (some (0, 61, 0))), (1, qm_I (qm_i n)), (3, qm_I (qm_i kk)), (4, qm_I (qm_i ((t - a : Nat) : Int))), (5, qm_I (qm_i (qm_nu T a (t - a))))] [] (qm_H S J1 K L D R X) Q) : ∀ (m c : Nat) (d v x : Int) (J1 : qm_J), d = (c : Int) → c + m = 4 → v = qm_nu T a c → x = (a : Int) + c → qm_re T ln 48 57 m (a + c) = t → (∀ j, j < c → 48 ≤ T (a + j) ∧ T (a + j) ≤ 57) → x ≤ ln → (∀ r s i, ¬ (r = 61 ∧ i = 16) → J1 r s i = J r s i) → J1 61 0 16 = x → qm_G qm_P qm_P197 82 [(0, qm_R (some (0, 61, 0))), (1, qm_I (qm_i n)), (3, qm_I (qm_i kk)), (4, qm_I (qm_i d)), (5, qm_I (qm_i v))] [] (qm_H S J1 K L D R X) Q := by
  intro m
  induction m with
  | zero =>
    intro c d v x J1 hd hm hv hx ht hg hxl hf h16
    have nr := qm_nu_rng (T := T) (a := a) c (by omega) hg
    rw [← hv] at nr
    refine qm_G.pk (lv1 := [(0, qm_R (some (0, 61, 0))), (1, qm_I (qm_i n)), (3, qm_I (qm_i kk)), (4, qm_I (qm_i d)), (5, qm_I (qm_i v))]) rfl rfl rfl ?_
    refine qm_G.sp (lv1 := [(0, qm_R (some (0, 61, 0))), (1, qm_I (qm_i n)), (3, qm_I (qm_i kk)), (4, qm_I (qm_i d)), (5, qm_I (qm_i v))]) rfl rfl (qm_x_iload rfl) ?_
    refine qm_G.s1 rfl (qm_x_pushI 4 rfl) ?_
    refine qm_G.s1 rfl (qm_x_icmp_ge_t ⟨by omega, by omega⟩ ⟨by decide, by decide⟩ (by omega)) ?_
    refine qm_G.pk (lv1 := [(0, qm_R (some (0, 61, 0))), (1, qm_I (qm_i n)), (3, qm_I (qm_i kk)), (4, qm_I (qm_i d)), (5, qm_I (qm_i v))]) rfl rfl rfl ?_
    change a + c = t at ht
    have k9 := k J1 hf (by rw [h16, ← ht]; omega)
    rw [show t - a = c by omega, ← hv, ← hd] at k9
    exact k9
  | succ m ih =>
    intro c d v x J1 hd hm hv hx ht hg hxl hf h16
    have nr := qm_nu_rng (T := T) (a := a) c (by omega) hg
    rw [← hv] at nr
    refine qm_G.pk (lv1 := [(0, qm_R (some (0, 61, 0))), (1, qm_I (qm_i n)), (3, qm_I (qm_i kk)), (4, qm_I (qm_i d)), (5, qm_I (qm_i v))]) rfl rfl rfl ?_
    refine qm_G.sp (lv1 := [(0, qm_R (some (0, 61, 0))), (1, qm_I (qm_i n)), (3, qm_I (qm_i kk)), (4, qm_I (qm_i d)), (5, qm_I (qm_i v))]) rfl rfl (qm_x_iload rfl) ?_
    refine qm_G.s1 rfl (qm_x_pushI 4 rfl) ?_
    refine qm_G.s1 rfl (qm_x_icmp_ge_f ⟨by omega, by omega⟩ ⟨by decide, by decide⟩ (by omega)) ?_
    refine qm_G.s1 rfl (qm_x_aload rfl) ?_
    refine qm_G.s1 rfl (qm_x_pushI 48 rfl) ?_
    refine qm_G.s1 rfl (qm_x_pushI 57 rfl) ?_
    refine qm_G.cm rfl rfl (hS 61 rfl) rfl ?_
    refine qm_C.go (cd := qm_P81) (lv := [(0, qm_R (some (0, 61, 0))), (1, qm_I (qm_i 48)), (2, qm_I (qm_i 57))]) rfl rfl ?_
    refine qm_G.s1 rfl (qm_x_aload rfl) ?_
    refine qm_G.s1 rfl (qm_x_getfI (v := x) (hS 61 rfl) h16) ?_
    refine qm_G.s1 rfl (qm_x_aload rfl) ?_
    refine qm_G.s1 rfl (qm_x_getfI (v := ln) (hS 61 rfl) ((hf 61 0 12 (by omega)).trans hl)) ?_
    refine qm_y_icmp_ge rfl ⟨by omega, by omega⟩ ⟨by omega, by omega⟩ (fun c1 => ?_) (fun c1 => ?_)
    · refine qm_G.sp (lv1 := []) rfl rfl (qm_x_pushI 0 rfl) ?_
      refine qm_G.ret rfl rfl ⟨_, rfl, ?_⟩
      refine qm_G.s1 rfl (qm_x_if_eq_t ⟨by decide, by decide⟩ (by decide)) ?_
      refine qm_G.pk (lv1 := [(0, qm_R (some (0, 61, 0))), (1, qm_I (qm_i n)), (3, qm_I (qm_i kk)), (4, qm_I (qm_i d)), (5, qm_I (qm_i v))]) rfl rfl rfl ?_
      rw [qm_re_n (by omega)] at ht
      have k9 := k J1 hf (by rw [h16, ← ht]; omega)
      rw [show t - a = c by omega, ← hv, ← hd] at k9
      exact k9
    · refine qm_G.s1 rfl (qm_x_aload rfl) ?_
      refine qm_G.s1 rfl (qm_x_getfR (q := (some (0, 69, 0))) (hS 61 rfl) (hR 61 13 69 rfl rfl)) ?_
      refine qm_G.s1 rfl (qm_x_aload rfl) ?_
      refine qm_G.s1 rfl (qm_x_getfI (v := x) (hS 61 rfl) h16) ?_
      have gT2 := (hT (a + c) (by omega)).2
      refine qm_G.s1 rfl (qm_x_iald (v := (T (a + c))) (qm_arS hS rfl rfl) rfl (by omega) (by omega) (by decide) (Eq.trans (congrArg (J1 69 0) (by omega)) ((hf 69 0 (a + c) (by omega)).trans (hT (a + c) (by omega)).1))) ?_
      refine qm_G.s1 rfl (qm_x_iload rfl) ?_
      refine qm_G.s1 rfl (qm_x_iload rfl) ?_
      refine qm_G.cs rfl rfl rfl ?_
      refine qm_v_within11 ⟨by omega, by omega⟩ ⟨by decide, by decide⟩ ⟨by decide, by decide⟩ (fun c3 => ⟨_, rfl, ?_⟩) (fun c3 => ⟨_, rfl, ?_⟩)
      · refine qm_G.s1 rfl (qm_x_if_eq_f ⟨by decide, by decide⟩ (by decide)) ?_
        refine qm_G.s1 rfl (qm_x_pushI 1 rfl) ?_
        refine qm_G.s1 rfl (qm_x_goto) ?_
        refine qm_G.ret rfl rfl ⟨_, rfl, ?_⟩
        refine qm_G.s1 rfl (qm_x_if_eq_f ⟨by decide, by decide⟩ (by decide)) ?_
        refine qm_G.s1 rfl (qm_x_pushI 10 rfl) ?_
        refine qm_G.s1 rfl (qm_x_iload rfl) ?_
        refine qm_G.s1 rfl (qm_x_imul) ?_
        refine qm_G.s1 rfl (qm_x_aload rfl) ?_
        refine qm_G.s1 rfl (qm_x_getfR (q := (some (0, 69, 0))) (hS 61 rfl) (hR 61 13 69 rfl rfl)) ?_
        refine qm_G.s1 rfl (qm_x_aload rfl) ?_
        refine qm_G.s1 rfl (qm_x_getfI (v := x) (hS 61 rfl) h16) ?_
        have gT4 := (hT (a + c) (by omega)).2
        refine qm_G.s1 rfl (qm_x_iald (v := (T (a + c))) (qm_arS hS rfl rfl) rfl (by omega) (by omega) (by decide) (Eq.trans (congrArg (J1 69 0) (by omega)) ((hf 69 0 (a + c) (by omega)).trans (hT (a + c) (by omega)).1))) ?_
        refine qm_G.s1 rfl (qm_x_iadd) ?_
        refine qm_G.s1 rfl (qm_x_pushI 48 rfl) ?_
        refine qm_G.s1 rfl (qm_x_isub) ?_
        refine qm_G.s1 rfl (qm_x_istore (lv' := [(5, qm_I (qm_i (((10 * v) + (T (a + c))) - 48))), (0, qm_R (some (0, 61, 0))), (1, qm_I (qm_i n)), (3, qm_I (qm_i kk)), (4, qm_I (qm_i d))]) rfl) ?_
        refine qm_G.s1 rfl (qm_x_aload rfl) ?_
        refine qm_G.s1 rfl (qm_x_dupR) ?_
        refine qm_G.s1 rfl (qm_x_getfI (v := x) (hS 61 rfl) h16) ?_
        refine qm_G.s1 rfl (qm_x_pushI 1 rfl) ?_
        refine qm_G.s1 rfl (qm_x_iadd) ?_
        refine qm_G.s1 rfl (qm_x_putfI (hS 61 rfl)) ?_
        refine qm_G.s1 rfl (qm_x_iinc (lv' := [(4, qm_I (qm_i (d + 1))), (5, qm_I (qm_i (((10 * v) + (T (a + c))) - 48))), (0, qm_R (some (0, 61, 0))), (1, qm_I (qm_i n)), (3, qm_I (qm_i kk))]) 1 rfl rfl rfl) ?_
        refine qm_G.s1 rfl (qm_x_goto) ?_
        refine qm_G.pk (lv1 := [(0, qm_R (some (0, 61, 0))), (1, qm_I (qm_i n)), (3, qm_I (qm_i kk)), (4, qm_I (qm_i (d + 1))), (5, qm_I (qm_i (((10 * v) + (T (a + c))) - 48)))]) rfl rfl rfl ?_
        exact ih (c + 1) _ _ _ _ (by omega) (by omega) (by rw [hv]; rfl) (by omega) (by rw [← Nat.add_assoc, ← qm_re_y (by omega)]; exact ht) (fun j hj => if c9 : j = c then (by rw [c9]; omega) else hg j (by omega)) (by omega) (fun r s i h => (qm_st_ne (by omega)).trans (hf r s i h)) qm_st_eq
      · refine qm_G.s1 rfl (qm_x_if_eq_t ⟨by decide, by decide⟩ (by decide)) ?_
        refine qm_G.sp (lv1 := []) rfl rfl (qm_x_pushI 0 rfl) ?_
        refine qm_G.ret rfl rfl ⟨_, rfl, ?_⟩
        refine qm_G.s1 rfl (qm_x_if_eq_t ⟨by decide, by decide⟩ (by decide)) ?_
        refine qm_G.pk (lv1 := [(0, qm_R (some (0, 61, 0))), (1, qm_I (qm_i n)), (3, qm_I (qm_i kk)), (4, qm_I (qm_i d)), (5, qm_I (qm_i v))]) rfl rfl rfl ?_
        rw [qm_re_n (by omega)] at ht
        have k9 := k J1 hf (by rw [h16, ← ht]; omega)
        rw [show t - a = c by omega, ← hv, ← hd] at k9
        exact k9
theorem qm_m_iso {S : List qm_Sh} {K : qm_J} {L : qm_Ct Int64} {D : qm_Ct UInt64} {R : qm_Ct (Option qm_Rf)} {X : Nat × (Nat → Int32)} {Q : Option qm_V → qm_Hp → Prop} {T : Nat → Int} {ln : Int} {J : qm_J} {n : Int} {a : Nat} (hS : qm_Sd S) (hR : qm_Rd R) (hT : ∀ i, i < 100 → J 69 0 i = T i ∧ 0 ≤ T i ∧ T i ≤ 127) (rl : 0 ≤ ln ∧ ln ≤ 100) (hl : J 61 0 12 = ln) (rn : 0 ≤ n ∧ n ≤ 11) (h16 : J 61 0 16 = (a : Int)) (ha : (a : Int) ≤ ln) (k1 : qm_ok T ln a = 7 → ∀ J1 : qm_J, (∀ r s i, ¬ (r = 61 ∧ (i = 16 ∨ i = 17)) → ¬ ((r = 70 ∨ r = 71) ∧ i = Int.toNat n) → J1 r s i = J r s i) → J1 61 0 17 = (a : Int) → Q (some (qm_I (qm_i 0))) (qm_H S J1 K L D R X)) (k2 : qm_ok T ln a ≠ 7 → ¬ qm_hdg (qm_ok T ln a) (qm_og T ln a - qm_oe T ln a) → ∀ J1 : qm_J, (∀ r s i, ¬ (r = 61 ∧ (i = 16 ∨ i = 17)) → ¬ ((r = 70 ∨ r = 71) ∧ i = Int.toNat n) → J1 r s i = J r s i) → J1 61 0 17 = (qm_oe T ln a : Int) → Q (some (qm_I (qm_i 0))) (qm_H S J1 K L D R X)) (k3 : qm_ow T ln a → ∀ J1 : qm_J, (∀ r s i, ¬ (r = 61 ∧ (i = 16 ∨ i = 17)) → ¬ ((r = 70 ∨ r = 71) ∧ i = Int.toNat n) → J1 r s i = J r s i) → J1 61 0 16 = (qm_og T ln a : Int) → J1 70 0 (Int.toNat n) = (qm_ok T ln a : Int) → J1 71 0 (Int.toNat n) = qm_ov T ln a → Q (some (qm_I (qm_i 1))) (qm_H S J1 K L D R X)) : qm_C qm_P 197 [qm_R (some (0, 61, 0)), qm_I (qm_i n)] (qm_H S J K L D R X) Q := by
  have r9 := qm_o_rng (T := T) ha
  have v9 := qm_ov_rng (T := T) ha
  have k9 : qm_ok T ln a ≤ 7 := qm_wk_le.1
  refine qm_C.go (cd := qm_P197) (lv := [(0, qm_R (some (0, 61, 0))), (1, qm_I (qm_i n))]) rfl rfl ?_
  refine qm_G.s1 rfl (qm_x_aload rfl) ?_
  refine qm_G.s1 rfl (qm_x_getfI (v := (a : Int)) (hS 61 rfl) h16) ?_
  refine qm_G.s1 rfl (qm_x_istore (lv' := [(2, qm_I (qm_i (a : Int))), (0, qm_R (some (0, 61, 0))), (1, qm_I (qm_i n))]) rfl) ?_
  refine qm_G.pk (lv1 := [(0, qm_R (some (0, 61, 0))), (1, qm_I (qm_i n)), (2, qm_I (qm_i (a : Int)))]) rfl rfl rfl ?_
  refine qm_m_let (t := qm_oe T ln a) hS hR hT rl hl (fun J1 f1 g1 => ?_) 100 a _ J rfl (by omega) (by omega) rfl (fun _ _ _ _ => rfl) h16
  have hT1 : ∀ i, i < 100 → J1 69 0 i = T i ∧ 0 ≤ T i ∧ T i ≤ 127 := fun i h => by rw [f1 69 0 i (by omega)]; exact hT i h
  have hl1 : J1 61 0 12 = ln := (f1 61 0 12 (by omega)).trans hl
  refine qm_G.sp (lv1 := [(0, qm_R (some (0, 61, 0))), (1, qm_I (qm_i n)), (2, qm_I (qm_i (a : Int)))]) rfl rfl (qm_x_pushI 0 rfl) ?_
  refine qm_G.s1 rfl (qm_x_istore (lv' := [(3, qm_I (qm_i 0)), (0, qm_R (some (0, 61, 0))), (1, qm_I (qm_i n)), (2, qm_I (qm_i (a : Int)))]) rfl) ?_
  refine qm_G.pk (lv1 := [(0, qm_R (some (0, 61, 0))), (1, qm_I (qm_i n)), (2, qm_I (qm_i (a : Int))), (3, qm_I (qm_i 0))]) rfl rfl rfl ?_
  refine qm_m_wl (a := a) (e := qm_oe T ln a) hS hR hT1 rl hl1 rfl g1 ⟨r9.1, by omega⟩ ?_
  rw [show qm_wk T a (qm_oe T ln a) = qm_ok T ln a from rfl]
  rcases (show qm_ok T ln a = 0 ∨ qm_ok T ln a = 1 ∨ qm_ok T ln a = 2 ∨ qm_ok T ln a = 3 ∨ qm_ok T ln a = 4 ∨ qm_ok T ln a = 5 ∨ qm_ok T ln a = 6 ∨ qm_ok T ln a = 7 by omega) with c9 | c9 | c9 | c9 | c9 | c9 | c9 | c9
  · rw [c9, show ((0 : Nat) : Int) = 0 from rfl]
    refine qm_G.sp (lv1 := [(0, qm_R (some (0, 61, 0))), (1, qm_I (qm_i n)), (2, qm_I (qm_i (a : Int))), (3, qm_I (qm_i 0))]) rfl rfl (qm_x_aload rfl) ?_
    refine qm_G.s1 rfl (qm_x_iload rfl) ?_
    refine qm_G.s1 rfl (qm_x_putfI (hS 61 rfl)) ?_
    refine qm_G.s1 rfl (qm_x_iload rfl) ?_
    refine qm_G.s1 rfl (qm_x_pushI 7 rfl) ?_
    refine qm_G.s1 rfl (qm_x_icmp_ne_t ⟨by decide, by decide⟩ ⟨by decide, by decide⟩ (by decide)) ?_
    refine qm_G.sp (lv1 := [(0, qm_R (some (0, 61, 0))), (1, qm_I (qm_i n)), (3, qm_I (qm_i 0))]) rfl rfl (qm_x_aload rfl) ?_
    refine qm_G.s1 rfl (qm_x_aload rfl) ?_
    refine qm_G.s1 rfl (qm_x_getfI (v := (qm_oe T ln a : Int)) (hS 61 rfl) g1) ?_
    refine qm_G.s1 rfl (qm_x_putfI (hS 61 rfl)) ?_
    refine qm_G.s1 rfl (qm_x_pushI 0 rfl) ?_
    refine qm_G.s1 rfl (qm_x_istore (lv' := [(4, qm_I (qm_i 0)), (0, qm_R (some (0, 61, 0))), (1, qm_I (qm_i n)), (3, qm_I (qm_i 0))]) rfl) ?_
    refine qm_G.s1 rfl (qm_x_pushI 0 rfl) ?_
    refine qm_G.s1 rfl (qm_x_istore (lv' := [(5, qm_I (qm_i 0)), (4, qm_I (qm_i 0)), (0, qm_R (some (0, 61, 0))), (1, qm_I (qm_i n)), (3, qm_I (qm_i 0))]) rfl) ?_
    refine qm_G.pk (lv1 := [(0, qm_R (some (0, 61, 0))), (1, qm_I (qm_i n)), (3, qm_I (qm_i 0)), (4, qm_I (qm_i 0)), (5, qm_I (qm_i 0))]) rfl rfl rfl ?_
    generalize hJ2 : (qm_set (qm_set J1 61 0 17 (a : Int)) 61 0 17 (qm_oe T ln a : Int)) = J2
    have f2 : ∀ r s i, ¬ (r = 61 ∧ (i = 16 ∨ i = 17)) → J2 r s i = J r s i := fun r s i h => by rw [← hJ2, qm_st_ne (by omega), qm_st_ne (by omega)]; exact f1 r s i (by omega)
    have h17 : J2 61 0 17 = (qm_oe T ln a : Int) := by rw [← hJ2]; exact qm_st_eq
    have hT2 : ∀ i, i < 100 → J2 69 0 i = T i ∧ 0 ≤ T i ∧ T i ≤ 127 := fun i h => by rw [f2 69 0 i (by omega)]; exact hT i h
    have hl2 : J2 61 0 12 = ln := (f2 61 0 12 (by omega)).trans hl
    refine qm_m_dig (a := qm_oe T ln a) (t := qm_og T ln a) hS hR hT2 rl hl2 (by omega) (fun J3 f3 g3 => ?_) 4 0 _ _ _ J2 rfl rfl rfl rfl rfl (fun j hj => absurd hj (Nat.not_lt_zero j)) (by omega) (fun _ _ _ _ => rfl) (by rw [← hJ2, qm_st_ne (by omega), qm_st_ne (by omega), g1]; omega)
    rw [show qm_nu T (qm_oe T ln a) (qm_og T ln a - qm_oe T ln a) = qm_ov T ln a from rfl]
    refine qm_G.sp (lv1 := [(0, qm_R (some (0, 61, 0))), (1, qm_I (qm_i n)), (3, qm_I (qm_i 0)), (4, qm_I (qm_i ((qm_og T ln a - qm_oe T ln a : Nat) : Int))), (5, qm_I (qm_i (qm_ov T ln a)))]) rfl rfl (qm_x_iload rfl) ?_
    refine qm_G.s1 rfl (qm_x_pushI 5 rfl) ?_
    refine qm_G.s1 rfl (qm_x_icmp_ne_t ⟨by decide, by decide⟩ ⟨by decide, by decide⟩ (by decide)) ?_
    refine qm_G.sp (lv1 := [(0, qm_R (some (0, 61, 0))), (1, qm_I (qm_i n)), (3, qm_I (qm_i 0)), (4, qm_I (qm_i ((qm_og T ln a - qm_oe T ln a : Nat) : Int))), (5, qm_I (qm_i (qm_ov T ln a)))]) rfl rfl (qm_x_iload rfl) ?_
    refine qm_G.s1 rfl (qm_x_iload rfl) ?_
    refine qm_G.s1 rfl (qm_x_if_eq_t ⟨by decide, by decide⟩ (by decide)) ?_
    refine qm_G.sp (lv1 := [(0, qm_R (some (0, 61, 0))), (1, qm_I (qm_i n)), (3, qm_I (qm_i 0)), (5, qm_I (qm_i (qm_ov T ln a)))]) rfl rfl (qm_x_pushI 1 rfl) ?_
    refine qm_G.s1 rfl (qm_x_goto) ?_
    rcases Int.lt_trichotomy ((qm_og T ln a - qm_oe T ln a : Nat) : Int) 1 with c1 | c1 | c1
    · refine qm_G.sp (lv1 := [(0, qm_R (some (0, 61, 0))), (1, qm_I (qm_i n)), (3, qm_I (qm_i 0)), (5, qm_I (qm_i (qm_ov T ln a)))]) rfl rfl (qm_x_icmp_ne_t ⟨by omega, by omega⟩ ⟨by decide, by decide⟩ (by omega)) ?_
      refine qm_G.sp (lv1 := [(0, qm_R (some (0, 61, 0))), (1, qm_I (qm_i n)), (3, qm_I (qm_i 0)), (5, qm_I (qm_i (qm_ov T ln a)))]) rfl rfl (qm_x_pushI 0 rfl) ?_
      refine qm_G.sp (lv1 := [(0, qm_R (some (0, 61, 0))), (1, qm_I (qm_i n)), (3, qm_I (qm_i 0)), (5, qm_I (qm_i (qm_ov T ln a)))]) rfl rfl (qm_x_istore (lv' := [(6, qm_I (qm_i 0)), (0, qm_R (some (0, 61, 0))), (1, qm_I (qm_i n)), (3, qm_I (qm_i 0)), (5, qm_I (qm_i (qm_ov T ln a)))]) rfl) ?_
      refine qm_G.s1 rfl (qm_x_iload rfl) ?_
      refine qm_G.s1 rfl (qm_x_if_ne_f ⟨by decide, by decide⟩ (by decide)) ?_
      refine qm_G.s1 rfl (qm_x_pushI 0 rfl) ?_
      exact qm_G.ret rfl rfl (k2 (by omega) (fun h => by rw [c9] at h; unfold qm_hdg at h; omega) J3 (fun r s i h h2 => (f3 r s i (by omega)).trans (f2 r s i h)) ((f3 61 0 17 (by omega)).trans h17))
    · refine qm_G.sp (lv1 := [(0, qm_R (some (0, 61, 0))), (1, qm_I (qm_i n)), (3, qm_I (qm_i 0)), (5, qm_I (qm_i (qm_ov T ln a)))]) rfl rfl (qm_x_icmp_ne_f ⟨by omega, by omega⟩ ⟨by decide, by decide⟩ (by omega)) ?_
      refine qm_G.s1 rfl (qm_x_pushI 1 rfl) ?_
      refine qm_G.s1 rfl (qm_x_goto) ?_
      refine qm_G.sp (lv1 := [(0, qm_R (some (0, 61, 0))), (1, qm_I (qm_i n)), (3, qm_I (qm_i 0)), (5, qm_I (qm_i (qm_ov T ln a)))]) rfl rfl (qm_x_istore (lv' := [(6, qm_I (qm_i 1)), (0, qm_R (some (0, 61, 0))), (1, qm_I (qm_i n)), (3, qm_I (qm_i 0)), (5, qm_I (qm_i (qm_ov T ln a)))]) rfl) ?_
      refine qm_G.s1 rfl (qm_x_iload rfl) ?_
      refine qm_G.s1 rfl (qm_x_if_ne_t ⟨by decide, by decide⟩ (by decide)) ?_
      refine qm_G.sp (lv1 := [(0, qm_R (some (0, 61, 0))), (1, qm_I (qm_i n)), (3, qm_I (qm_i 0)), (5, qm_I (qm_i (qm_ov T ln a)))]) rfl rfl (qm_x_aload rfl) ?_
      refine qm_G.s1 rfl (qm_x_getfR (q := (some (0, 70, 0))) (hS 61 rfl) (hR 61 14 70 rfl rfl)) ?_
      refine qm_G.s1 rfl (qm_x_iload rfl) ?_
      refine qm_G.s1 rfl (qm_x_iload rfl) ?_
      refine qm_G.s1 rfl (qm_x_iast (qm_arS hS rfl rfl) rfl (by omega) (by omega) (by decide)) ?_
      refine qm_G.s1 rfl (qm_x_aload rfl) ?_
      refine qm_G.s1 rfl (qm_x_getfR (q := (some (0, 71, 0))) (hS 61 rfl) (hR 61 15 71 rfl rfl)) ?_
      refine qm_G.s1 rfl (qm_x_iload rfl) ?_
      refine qm_G.s1 rfl (qm_x_iload rfl) ?_
      refine qm_G.s1 rfl (qm_x_iast (qm_arS hS rfl rfl) rfl (by omega) (by omega) (by decide)) ?_
      refine qm_G.s1 rfl (qm_x_pushI 1 rfl) ?_
      refine qm_G.ret rfl rfl (k3 ⟨by omega, by rw [c9]; unfold qm_hdg; omega⟩ _ (fun r s i h h2 => ?_) ?_ ?_ qm_st_eq)
      · rw [qm_st_ne (by omega), qm_st_ne (by omega)]; exact (f3 r s i (by omega)).trans (f2 r s i h)
      · rw [qm_st_ne (by omega), qm_st_ne (by omega)]; exact g3
      · rw [qm_st_ne (by omega), c9]; exact qm_st_eq
    · refine qm_G.sp (lv1 := [(0, qm_R (some (0, 61, 0))), (1, qm_I (qm_i n)), (3, qm_I (qm_i 0)), (5, qm_I (qm_i (qm_ov T ln a)))]) rfl rfl (qm_x_icmp_ne_t ⟨by omega, by omega⟩ ⟨by decide, by decide⟩ (by omega)) ?_
      refine qm_G.sp (lv1 := [(0, qm_R (some (0, 61, 0))), (1, qm_I (qm_i n)), (3, qm_I (qm_i 0)), (5, qm_I (qm_i (qm_ov T ln a)))]) rfl rfl (qm_x_pushI 0 rfl) ?_
      refine qm_G.sp (lv1 := [(0, qm_R (some (0, 61, 0))), (1, qm_I (qm_i n)), (3, qm_I (qm_i 0)), (5, qm_I (qm_i (qm_ov T ln a)))]) rfl rfl (qm_x_istore (lv' := [(6, qm_I (qm_i 0)), (0, qm_R (some (0, 61, 0))), (1, qm_I (qm_i n)), (3, qm_I (qm_i 0)), (5, qm_I (qm_i (qm_ov T ln a)))]) rfl) ?_
      refine qm_G.s1 rfl (qm_x_iload rfl) ?_
      refine qm_G.s1 rfl (qm_x_if_ne_f ⟨by decide, by decide⟩ (by decide)) ?_
      refine qm_G.s1 rfl (qm_x_pushI 0 rfl) ?_
      exact qm_G.ret rfl rfl (k2 (by omega) (fun h => by rw [c9] at h; unfold qm_hdg at h; omega) J3 (fun r s i h h2 => (f3 r s i (by omega)).trans (f2 r s i h)) ((f3 61 0 17 (by omega)).trans h17))
  · rw [c9, show ((1 : Nat) : Int) = 1 from rfl]
    refine qm_G.sp (lv1 := [(0, qm_R (some (0, 61, 0))), (1, qm_I (qm_i n)), (2, qm_I (qm_i (a : Int))), (3, qm_I (qm_i 1))]) rfl rfl (qm_x_aload rfl) ?_
    refine qm_G.s1 rfl (qm_x_iload rfl) ?_
    refine qm_G.s1 rfl (qm_x_putfI (hS 61 rfl)) ?_
    refine qm_G.s1 rfl (qm_x_iload rfl) ?_
    refine qm_G.s1 rfl (qm_x_pushI 7 rfl) ?_
    refine qm_G.s1 rfl (qm_x_icmp_ne_t ⟨by decide, by decide⟩ ⟨by decide, by decide⟩ (by decide)) ?_
    refine qm_G.sp (lv1 := [(0, qm_R (some (0, 61, 0))), (1, qm_I (qm_i n)), (3, qm_I (qm_i 1))]) rfl rfl (qm_x_aload rfl) ?_
    refine qm_G.s1 rfl (qm_x_aload rfl) ?_
    refine qm_G.s1 rfl (qm_x_getfI (v := (qm_oe T ln a : Int)) (hS 61 rfl) g1) ?_
    refine qm_G.s1 rfl (qm_x_putfI (hS 61 rfl)) ?_
    refine qm_G.s1 rfl (qm_x_pushI 0 rfl) ?_
    refine qm_G.s1 rfl (qm_x_istore (lv' := [(4, qm_I (qm_i 0)), (0, qm_R (some (0, 61, 0))), (1, qm_I (qm_i n)), (3, qm_I (qm_i 1))]) rfl) ?_
    refine qm_G.s1 rfl (qm_x_pushI 0 rfl) ?_
    refine qm_G.s1 rfl (qm_x_istore (lv' := [(5, qm_I (qm_i 0)), (4, qm_I (qm_i 0)), (0, qm_R (some (0, 61, 0))), (1, qm_I (qm_i n)), (3, qm_I (qm_i 1))]) rfl) ?_
    refine qm_G.pk (lv1 := [(0, qm_R (some (0, 61, 0))), (1, qm_I (qm_i n)), (3, qm_I (qm_i 1)), (4, qm_I (qm_i 0)), (5, qm_I (qm_i 0))]) rfl rfl rfl ?_
    generalize hJ2 : (qm_set (qm_set J1 61 0 17 (a : Int)) 61 0 17 (qm_oe T ln a : Int)) = J2
    have f2 : ∀ r s i, ¬ (r = 61 ∧ (i = 16 ∨ i = 17)) → J2 r s i = J r s i := fun r s i h => by rw [← hJ2, qm_st_ne (by omega), qm_st_ne (by omega)]; exact f1 r s i (by omega)
    have h17 : J2 61 0 17 = (qm_oe T ln a : Int) := by rw [← hJ2]; exact qm_st_eq
    have hT2 : ∀ i, i < 100 → J2 69 0 i = T i ∧ 0 ≤ T i ∧ T i ≤ 127 := fun i h => by rw [f2 69 0 i (by omega)]; exact hT i h
    have hl2 : J2 61 0 12 = ln := (f2 61 0 12 (by omega)).trans hl
    refine qm_m_dig (a := qm_oe T ln a) (t := qm_og T ln a) hS hR hT2 rl hl2 (by omega) (fun J3 f3 g3 => ?_) 4 0 _ _ _ J2 rfl rfl rfl rfl rfl (fun j hj => absurd hj (Nat.not_lt_zero j)) (by omega) (fun _ _ _ _ => rfl) (by rw [← hJ2, qm_st_ne (by omega), qm_st_ne (by omega), g1]; omega)
    rw [show qm_nu T (qm_oe T ln a) (qm_og T ln a - qm_oe T ln a) = qm_ov T ln a from rfl]
    refine qm_G.sp (lv1 := [(0, qm_R (some (0, 61, 0))), (1, qm_I (qm_i n)), (3, qm_I (qm_i 1)), (4, qm_I (qm_i ((qm_og T ln a - qm_oe T ln a : Nat) : Int))), (5, qm_I (qm_i (qm_ov T ln a)))]) rfl rfl (qm_x_iload rfl) ?_
    refine qm_G.s1 rfl (qm_x_pushI 5 rfl) ?_
    refine qm_G.s1 rfl (qm_x_icmp_ne_t ⟨by decide, by decide⟩ ⟨by decide, by decide⟩ (by decide)) ?_
    refine qm_G.sp (lv1 := [(0, qm_R (some (0, 61, 0))), (1, qm_I (qm_i n)), (3, qm_I (qm_i 1)), (4, qm_I (qm_i ((qm_og T ln a - qm_oe T ln a : Nat) : Int))), (5, qm_I (qm_i (qm_ov T ln a)))]) rfl rfl (qm_x_iload rfl) ?_
    refine qm_G.s1 rfl (qm_x_iload rfl) ?_
    refine qm_G.s1 rfl (qm_x_if_eq_f ⟨by decide, by decide⟩ (by decide)) ?_
    refine qm_G.s1 rfl (qm_x_iload rfl) ?_
    refine qm_G.s1 rfl (qm_x_pushI 1 rfl) ?_
    refine qm_G.s1 rfl (qm_x_icmp_eq_t ⟨by decide, by decide⟩ ⟨by decide, by decide⟩ (by decide)) ?_
    refine qm_G.sp (lv1 := [(0, qm_R (some (0, 61, 0))), (1, qm_I (qm_i n)), (3, qm_I (qm_i 1)), (5, qm_I (qm_i (qm_ov T ln a)))]) rfl rfl (qm_x_pushI 1 rfl) ?_
    refine qm_G.s1 rfl (qm_x_goto) ?_
    rcases Int.lt_trichotomy ((qm_og T ln a - qm_oe T ln a : Nat) : Int) 1 with c2 | c2 | c2
    · refine qm_G.sp (lv1 := [(0, qm_R (some (0, 61, 0))), (1, qm_I (qm_i n)), (3, qm_I (qm_i 1)), (5, qm_I (qm_i (qm_ov T ln a)))]) rfl rfl (qm_x_icmp_ne_t ⟨by omega, by omega⟩ ⟨by decide, by decide⟩ (by omega)) ?_
      refine qm_G.sp (lv1 := [(0, qm_R (some (0, 61, 0))), (1, qm_I (qm_i n)), (3, qm_I (qm_i 1)), (5, qm_I (qm_i (qm_ov T ln a)))]) rfl rfl (qm_x_pushI 0 rfl) ?_
      refine qm_G.sp (lv1 := [(0, qm_R (some (0, 61, 0))), (1, qm_I (qm_i n)), (3, qm_I (qm_i 1)), (5, qm_I (qm_i (qm_ov T ln a)))]) rfl rfl (qm_x_istore (lv' := [(6, qm_I (qm_i 0)), (0, qm_R (some (0, 61, 0))), (1, qm_I (qm_i n)), (3, qm_I (qm_i 1)), (5, qm_I (qm_i (qm_ov T ln a)))]) rfl) ?_
      refine qm_G.s1 rfl (qm_x_iload rfl) ?_
      refine qm_G.s1 rfl (qm_x_if_ne_f ⟨by decide, by decide⟩ (by decide)) ?_
      refine qm_G.s1 rfl (qm_x_pushI 0 rfl) ?_
      exact qm_G.ret rfl rfl (k2 (by omega) (fun h => by rw [c9] at h; unfold qm_hdg at h; omega) J3 (fun r s i h h2 => (f3 r s i (by omega)).trans (f2 r s i h)) ((f3 61 0 17 (by omega)).trans h17))
    · refine qm_G.sp (lv1 := [(0, qm_R (some (0, 61, 0))), (1, qm_I (qm_i n)), (3, qm_I (qm_i 1)), (5, qm_I (qm_i (qm_ov T ln a)))]) rfl rfl (qm_x_icmp_ne_f ⟨by omega, by omega⟩ ⟨by decide, by decide⟩ (by omega)) ?_
      refine qm_G.s1 rfl (qm_x_pushI 1 rfl) ?_
      refine qm_G.s1 rfl (qm_x_goto) ?_
      refine qm_G.sp (lv1 := [(0, qm_R (some (0, 61, 0))), (1, qm_I (qm_i n)), (3, qm_I (qm_i 1)), (5, qm_I (qm_i (qm_ov T ln a)))]) rfl rfl (qm_x_istore (lv' := [(6, qm_I (qm_i 1)), (0, qm_R (some (0, 61, 0))), (1, qm_I (qm_i n)), (3, qm_I (qm_i 1)), (5, qm_I (qm_i (qm_ov T ln a)))]) rfl) ?_
      refine qm_G.s1 rfl (qm_x_iload rfl) ?_
      refine qm_G.s1 rfl (qm_x_if_ne_t ⟨by decide, by decide⟩ (by decide)) ?_
      refine qm_G.sp (lv1 := [(0, qm_R (some (0, 61, 0))), (1, qm_I (qm_i n)), (3, qm_I (qm_i 1)), (5, qm_I (qm_i (qm_ov T ln a)))]) rfl rfl (qm_x_aload rfl) ?_
      refine qm_G.s1 rfl (qm_x_getfR (q := (some (0, 70, 0))) (hS 61 rfl) (hR 61 14 70 rfl rfl)) ?_
      refine qm_G.s1 rfl (qm_x_iload rfl) ?_
      refine qm_G.s1 rfl (qm_x_iload rfl) ?_
      refine qm_G.s1 rfl (qm_x_iast (qm_arS hS rfl rfl) rfl (by omega) (by omega) (by decide)) ?_
      refine qm_G.s1 rfl (qm_x_aload rfl) ?_
      refine qm_G.s1 rfl (qm_x_getfR (q := (some (0, 71, 0))) (hS 61 rfl) (hR 61 15 71 rfl rfl)) ?_
      refine qm_G.s1 rfl (qm_x_iload rfl) ?_
      refine qm_G.s1 rfl (qm_x_iload rfl) ?_
      refine qm_G.s1 rfl (qm_x_iast (qm_arS hS rfl rfl) rfl (by omega) (by omega) (by decide)) ?_
      refine qm_G.s1 rfl (qm_x_pushI 1 rfl) ?_
      refine qm_G.ret rfl rfl (k3 ⟨by omega, by rw [c9]; unfold qm_hdg; omega⟩ _ (fun r s i h h2 => ?_) ?_ ?_ qm_st_eq)
      · rw [qm_st_ne (by omega), qm_st_ne (by omega)]; exact (f3 r s i (by omega)).trans (f2 r s i h)
      · rw [qm_st_ne (by omega), qm_st_ne (by omega)]; exact g3
      · rw [qm_st_ne (by omega), c9]; exact qm_st_eq
    · refine qm_G.sp (lv1 := [(0, qm_R (some (0, 61, 0))), (1, qm_I (qm_i n)), (3, qm_I (qm_i 1)), (5, qm_I (qm_i (qm_ov T ln a)))]) rfl rfl (qm_x_icmp_ne_t ⟨by omega, by omega⟩ ⟨by decide, by decide⟩ (by omega)) ?_
      refine qm_G.sp (lv1 := [(0, qm_R (some (0, 61, 0))), (1, qm_I (qm_i n)), (3, qm_I (qm_i 1)), (5, qm_I (qm_i (qm_ov T ln a)))]) rfl rfl (qm_x_pushI 0 rfl) ?_
      refine qm_G.sp (lv1 := [(0, qm_R (some (0, 61, 0))), (1, qm_I (qm_i n)), (3, qm_I (qm_i 1)), (5, qm_I (qm_i (qm_ov T ln a)))]) rfl rfl (qm_x_istore (lv' := [(6, qm_I (qm_i 0)), (0, qm_R (some (0, 61, 0))), (1, qm_I (qm_i n)), (3, qm_I (qm_i 1)), (5, qm_I (qm_i (qm_ov T ln a)))]) rfl) ?_
      refine qm_G.s1 rfl (qm_x_iload rfl) ?_
      refine qm_G.s1 rfl (qm_x_if_ne_f ⟨by decide, by decide⟩ (by decide)) ?_
      refine qm_G.s1 rfl (qm_x_pushI 0 rfl) ?_
      exact qm_G.ret rfl rfl (k2 (by omega) (fun h => by rw [c9] at h; unfold qm_hdg at h; omega) J3 (fun r s i h h2 => (f3 r s i (by omega)).trans (f2 r s i h)) ((f3 61 0 17 (by omega)).trans h17))
  · rw [c9, show ((2 : Nat) : Int) = 2 from rfl]
    refine qm_G.sp (lv1 := [(0, qm_R (some (0, 61, 0))), (1, qm_I (qm_i n)), (2, qm_I (qm_i (a : Int))), (3, qm_I (qm_i 2))]) rfl rfl (qm_x_aload rfl) ?_
    refine qm_G.s1 rfl (qm_x_iload rfl) ?_
    refine qm_G.s1 rfl (qm_x_putfI (hS 61 rfl)) ?_
    refine qm_G.s1 rfl (qm_x_iload rfl) ?_
    refine qm_G.s1 rfl (qm_x_pushI 7 rfl) ?_
    refine qm_G.s1 rfl (qm_x_icmp_ne_t ⟨by decide, by decide⟩ ⟨by decide, by decide⟩ (by decide)) ?_
    refine qm_G.sp (lv1 := [(0, qm_R (some (0, 61, 0))), (1, qm_I (qm_i n)), (3, qm_I (qm_i 2))]) rfl rfl (qm_x_aload rfl) ?_
    refine qm_G.s1 rfl (qm_x_aload rfl) ?_
    refine qm_G.s1 rfl (qm_x_getfI (v := (qm_oe T ln a : Int)) (hS 61 rfl) g1) ?_
    refine qm_G.s1 rfl (qm_x_putfI (hS 61 rfl)) ?_
    refine qm_G.s1 rfl (qm_x_pushI 0 rfl) ?_
    refine qm_G.s1 rfl (qm_x_istore (lv' := [(4, qm_I (qm_i 0)), (0, qm_R (some (0, 61, 0))), (1, qm_I (qm_i n)), (3, qm_I (qm_i 2))]) rfl) ?_
    refine qm_G.s1 rfl (qm_x_pushI 0 rfl) ?_
    refine qm_G.s1 rfl (qm_x_istore (lv' := [(5, qm_I (qm_i 0)), (4, qm_I (qm_i 0)), (0, qm_R (some (0, 61, 0))), (1, qm_I (qm_i n)), (3, qm_I (qm_i 2))]) rfl) ?_
    refine qm_G.pk (lv1 := [(0, qm_R (some (0, 61, 0))), (1, qm_I (qm_i n)), (3, qm_I (qm_i 2)), (4, qm_I (qm_i 0)), (5, qm_I (qm_i 0))]) rfl rfl rfl ?_
    generalize hJ2 : (qm_set (qm_set J1 61 0 17 (a : Int)) 61 0 17 (qm_oe T ln a : Int)) = J2
    have f2 : ∀ r s i, ¬ (r = 61 ∧ (i = 16 ∨ i = 17)) → J2 r s i = J r s i := fun r s i h => by rw [← hJ2, qm_st_ne (by omega), qm_st_ne (by omega)]; exact f1 r s i (by omega)
    have h17 : J2 61 0 17 = (qm_oe T ln a : Int) := by rw [← hJ2]; exact qm_st_eq
    have hT2 : ∀ i, i < 100 → J2 69 0 i = T i ∧ 0 ≤ T i ∧ T i ≤ 127 := fun i h => by rw [f2 69 0 i (by omega)]; exact hT i h
    have hl2 : J2 61 0 12 = ln := (f2 61 0 12 (by omega)).trans hl
    refine qm_m_dig (a := qm_oe T ln a) (t := qm_og T ln a) hS hR hT2 rl hl2 (by omega) (fun J3 f3 g3 => ?_) 4 0 _ _ _ J2 rfl rfl rfl rfl rfl (fun j hj => absurd hj (Nat.not_lt_zero j)) (by omega) (fun _ _ _ _ => rfl) (by rw [← hJ2, qm_st_ne (by omega), qm_st_ne (by omega), g1]; omega)
    rw [show qm_nu T (qm_oe T ln a) (qm_og T ln a - qm_oe T ln a) = qm_ov T ln a from rfl]
    refine qm_G.sp (lv1 := [(0, qm_R (some (0, 61, 0))), (1, qm_I (qm_i n)), (3, qm_I (qm_i 2)), (4, qm_I (qm_i ((qm_og T ln a - qm_oe T ln a : Nat) : Int))), (5, qm_I (qm_i (qm_ov T ln a)))]) rfl rfl (qm_x_iload rfl) ?_
    refine qm_G.s1 rfl (qm_x_pushI 5 rfl) ?_
    refine qm_G.s1 rfl (qm_x_icmp_ne_t ⟨by decide, by decide⟩ ⟨by decide, by decide⟩ (by decide)) ?_
    refine qm_G.sp (lv1 := [(0, qm_R (some (0, 61, 0))), (1, qm_I (qm_i n)), (3, qm_I (qm_i 2)), (4, qm_I (qm_i ((qm_og T ln a - qm_oe T ln a : Nat) : Int))), (5, qm_I (qm_i (qm_ov T ln a)))]) rfl rfl (qm_x_iload rfl) ?_
    refine qm_G.s1 rfl (qm_x_iload rfl) ?_
    refine qm_G.s1 rfl (qm_x_if_eq_f ⟨by decide, by decide⟩ (by decide)) ?_
    refine qm_G.s1 rfl (qm_x_iload rfl) ?_
    refine qm_G.s1 rfl (qm_x_pushI 1 rfl) ?_
    refine qm_G.s1 rfl (qm_x_icmp_eq_f ⟨by decide, by decide⟩ ⟨by decide, by decide⟩ (by decide)) ?_
    refine qm_G.s1 rfl (qm_x_iload rfl) ?_
    refine qm_G.s1 rfl (qm_x_pushI 6 rfl) ?_
    refine qm_G.s1 rfl (qm_x_icmp_ne_t ⟨by decide, by decide⟩ ⟨by decide, by decide⟩ (by decide)) ?_
    refine qm_G.sp (lv1 := [(0, qm_R (some (0, 61, 0))), (1, qm_I (qm_i n)), (3, qm_I (qm_i 2)), (5, qm_I (qm_i (qm_ov T ln a)))]) rfl rfl (qm_x_pushI 0 rfl) ?_
    rcases Int.lt_trichotomy ((qm_og T ln a - qm_oe T ln a : Nat) : Int) 0 with c3 | c3 | c3
    · omega
    · refine qm_G.sp (lv1 := [(0, qm_R (some (0, 61, 0))), (1, qm_I (qm_i n)), (3, qm_I (qm_i 2)), (5, qm_I (qm_i (qm_ov T ln a)))]) rfl rfl (qm_x_icmp_ne_f ⟨by omega, by omega⟩ ⟨by decide, by decide⟩ (by omega)) ?_
      refine qm_G.s1 rfl (qm_x_pushI 1 rfl) ?_
      refine qm_G.s1 rfl (qm_x_goto) ?_
      refine qm_G.sp (lv1 := [(0, qm_R (some (0, 61, 0))), (1, qm_I (qm_i n)), (3, qm_I (qm_i 2)), (5, qm_I (qm_i (qm_ov T ln a)))]) rfl rfl (qm_x_istore (lv' := [(6, qm_I (qm_i 1)), (0, qm_R (some (0, 61, 0))), (1, qm_I (qm_i n)), (3, qm_I (qm_i 2)), (5, qm_I (qm_i (qm_ov T ln a)))]) rfl) ?_
      refine qm_G.s1 rfl (qm_x_iload rfl) ?_
      refine qm_G.s1 rfl (qm_x_if_ne_t ⟨by decide, by decide⟩ (by decide)) ?_
      refine qm_G.sp (lv1 := [(0, qm_R (some (0, 61, 0))), (1, qm_I (qm_i n)), (3, qm_I (qm_i 2)), (5, qm_I (qm_i (qm_ov T ln a)))]) rfl rfl (qm_x_aload rfl) ?_
      refine qm_G.s1 rfl (qm_x_getfR (q := (some (0, 70, 0))) (hS 61 rfl) (hR 61 14 70 rfl rfl)) ?_
      refine qm_G.s1 rfl (qm_x_iload rfl) ?_
      refine qm_G.s1 rfl (qm_x_iload rfl) ?_
      refine qm_G.s1 rfl (qm_x_iast (qm_arS hS rfl rfl) rfl (by omega) (by omega) (by decide)) ?_
      refine qm_G.s1 rfl (qm_x_aload rfl) ?_
      refine qm_G.s1 rfl (qm_x_getfR (q := (some (0, 71, 0))) (hS 61 rfl) (hR 61 15 71 rfl rfl)) ?_
      refine qm_G.s1 rfl (qm_x_iload rfl) ?_
      refine qm_G.s1 rfl (qm_x_iload rfl) ?_
      refine qm_G.s1 rfl (qm_x_iast (qm_arS hS rfl rfl) rfl (by omega) (by omega) (by decide)) ?_
      refine qm_G.s1 rfl (qm_x_pushI 1 rfl) ?_
      refine qm_G.ret rfl rfl (k3 ⟨by omega, by rw [c9]; unfold qm_hdg; omega⟩ _ (fun r s i h h2 => ?_) ?_ ?_ qm_st_eq)
      · rw [qm_st_ne (by omega), qm_st_ne (by omega)]; exact (f3 r s i (by omega)).trans (f2 r s i h)
      · rw [qm_st_ne (by omega), qm_st_ne (by omega)]; exact g3
      · rw [qm_st_ne (by omega), c9]; exact qm_st_eq
    · refine qm_G.sp (lv1 := [(0, qm_R (some (0, 61, 0))), (1, qm_I (qm_i n)), (3, qm_I (qm_i 2)), (5, qm_I (qm_i (qm_ov T ln a)))]) rfl rfl (qm_x_icmp_ne_t ⟨by omega, by omega⟩ ⟨by decide, by decide⟩ (by omega)) ?_
      refine qm_G.sp (lv1 := [(0, qm_R (some (0, 61, 0))), (1, qm_I (qm_i n)), (3, qm_I (qm_i 2)), (5, qm_I (qm_i (qm_ov T ln a)))]) rfl rfl (qm_x_pushI 0 rfl) ?_
      refine qm_G.sp (lv1 := [(0, qm_R (some (0, 61, 0))), (1, qm_I (qm_i n)), (3, qm_I (qm_i 2)), (5, qm_I (qm_i (qm_ov T ln a)))]) rfl rfl (qm_x_istore (lv' := [(6, qm_I (qm_i 0)), (0, qm_R (some (0, 61, 0))), (1, qm_I (qm_i n)), (3, qm_I (qm_i 2)), (5, qm_I (qm_i (qm_ov T ln a)))]) rfl) ?_
      refine qm_G.s1 rfl (qm_x_iload rfl) ?_
      refine qm_G.s1 rfl (qm_x_if_ne_f ⟨by decide, by decide⟩ (by decide)) ?_
      refine qm_G.s1 rfl (qm_x_pushI 0 rfl) ?_
      exact qm_G.ret rfl rfl (k2 (by omega) (fun h => by rw [c9] at h; unfold qm_hdg at h; omega) J3 (fun r s i h h2 => (f3 r s i (by omega)).trans (f2 r s i h)) ((f3 61 0 17 (by omega)).trans h17))
  · rw [c9, show ((3 : Nat) : Int) = 3 from rfl]
    refine qm_G.sp (lv1 := [(0, qm_R (some (0, 61, 0))), (1, qm_I (qm_i n)), (2, qm_I (qm_i (a : Int))), (3, qm_I (qm_i 3))]) rfl rfl (qm_x_aload rfl) ?_
    refine qm_G.s1 rfl (qm_x_iload rfl) ?_
    refine qm_G.s1 rfl (qm_x_putfI (hS 61 rfl)) ?_
    refine qm_G.s1 rfl (qm_x_iload rfl) ?_
    refine qm_G.s1 rfl (qm_x_pushI 7 rfl) ?_
    refine qm_G.s1 rfl (qm_x_icmp_ne_t ⟨by decide, by decide⟩ ⟨by decide, by decide⟩ (by decide)) ?_
    refine qm_G.sp (lv1 := [(0, qm_R (some (0, 61, 0))), (1, qm_I (qm_i n)), (3, qm_I (qm_i 3))]) rfl rfl (qm_x_aload rfl) ?_
    refine qm_G.s1 rfl (qm_x_aload rfl) ?_
    refine qm_G.s1 rfl (qm_x_getfI (v := (qm_oe T ln a : Int)) (hS 61 rfl) g1) ?_
    refine qm_G.s1 rfl (qm_x_putfI (hS 61 rfl)) ?_
    refine qm_G.s1 rfl (qm_x_pushI 0 rfl) ?_
    refine qm_G.s1 rfl (qm_x_istore (lv' := [(4, qm_I (qm_i 0)), (0, qm_R (some (0, 61, 0))), (1, qm_I (qm_i n)), (3, qm_I (qm_i 3))]) rfl) ?_
    refine qm_G.s1 rfl (qm_x_pushI 0 rfl) ?_
    refine qm_G.s1 rfl (qm_x_istore (lv' := [(5, qm_I (qm_i 0)), (4, qm_I (qm_i 0)), (0, qm_R (some (0, 61, 0))), (1, qm_I (qm_i n)), (3, qm_I (qm_i 3))]) rfl) ?_
    refine qm_G.pk (lv1 := [(0, qm_R (some (0, 61, 0))), (1, qm_I (qm_i n)), (3, qm_I (qm_i 3)), (4, qm_I (qm_i 0)), (5, qm_I (qm_i 0))]) rfl rfl rfl ?_
    generalize hJ2 : (qm_set (qm_set J1 61 0 17 (a : Int)) 61 0 17 (qm_oe T ln a : Int)) = J2
    have f2 : ∀ r s i, ¬ (r = 61 ∧ (i = 16 ∨ i = 17)) → J2 r s i = J r s i := fun r s i h => by rw [← hJ2, qm_st_ne (by omega), qm_st_ne (by omega)]; exact f1 r s i (by omega)
    have h17 : J2 61 0 17 = (qm_oe T ln a : Int) := by rw [← hJ2]; exact qm_st_eq
    have hT2 : ∀ i, i < 100 → J2 69 0 i = T i ∧ 0 ≤ T i ∧ T i ≤ 127 := fun i h => by rw [f2 69 0 i (by omega)]; exact hT i h
    have hl2 : J2 61 0 12 = ln := (f2 61 0 12 (by omega)).trans hl
    refine qm_m_dig (a := qm_oe T ln a) (t := qm_og T ln a) hS hR hT2 rl hl2 (by omega) (fun J3 f3 g3 => ?_) 4 0 _ _ _ J2 rfl rfl rfl rfl rfl (fun j hj => absurd hj (Nat.not_lt_zero j)) (by omega) (fun _ _ _ _ => rfl) (by rw [← hJ2, qm_st_ne (by omega), qm_st_ne (by omega), g1]; omega)
    rw [show qm_nu T (qm_oe T ln a) (qm_og T ln a - qm_oe T ln a) = qm_ov T ln a from rfl]
    refine qm_G.sp (lv1 := [(0, qm_R (some (0, 61, 0))), (1, qm_I (qm_i n)), (3, qm_I (qm_i 3)), (4, qm_I (qm_i ((qm_og T ln a - qm_oe T ln a : Nat) : Int))), (5, qm_I (qm_i (qm_ov T ln a)))]) rfl rfl (qm_x_iload rfl) ?_
    refine qm_G.s1 rfl (qm_x_pushI 5 rfl) ?_
    refine qm_G.s1 rfl (qm_x_icmp_ne_t ⟨by decide, by decide⟩ ⟨by decide, by decide⟩ (by decide)) ?_
    refine qm_G.sp (lv1 := [(0, qm_R (some (0, 61, 0))), (1, qm_I (qm_i n)), (3, qm_I (qm_i 3)), (4, qm_I (qm_i ((qm_og T ln a - qm_oe T ln a : Nat) : Int))), (5, qm_I (qm_i (qm_ov T ln a)))]) rfl rfl (qm_x_iload rfl) ?_
    refine qm_G.s1 rfl (qm_x_iload rfl) ?_
    refine qm_G.s1 rfl (qm_x_if_eq_f ⟨by decide, by decide⟩ (by decide)) ?_
    refine qm_G.s1 rfl (qm_x_iload rfl) ?_
    refine qm_G.s1 rfl (qm_x_pushI 1 rfl) ?_
    refine qm_G.s1 rfl (qm_x_icmp_eq_f ⟨by decide, by decide⟩ ⟨by decide, by decide⟩ (by decide)) ?_
    refine qm_G.s1 rfl (qm_x_iload rfl) ?_
    refine qm_G.s1 rfl (qm_x_pushI 6 rfl) ?_
    refine qm_G.s1 rfl (qm_x_icmp_ne_t ⟨by decide, by decide⟩ ⟨by decide, by decide⟩ (by decide)) ?_
    refine qm_G.sp (lv1 := [(0, qm_R (some (0, 61, 0))), (1, qm_I (qm_i n)), (3, qm_I (qm_i 3)), (5, qm_I (qm_i (qm_ov T ln a)))]) rfl rfl (qm_x_pushI 0 rfl) ?_
    rcases Int.lt_trichotomy ((qm_og T ln a - qm_oe T ln a : Nat) : Int) 0 with c4 | c4 | c4
    · omega
    · refine qm_G.sp (lv1 := [(0, qm_R (some (0, 61, 0))), (1, qm_I (qm_i n)), (3, qm_I (qm_i 3)), (5, qm_I (qm_i (qm_ov T ln a)))]) rfl rfl (qm_x_icmp_ne_f ⟨by omega, by omega⟩ ⟨by decide, by decide⟩ (by omega)) ?_
      refine qm_G.s1 rfl (qm_x_pushI 1 rfl) ?_
      refine qm_G.s1 rfl (qm_x_goto) ?_
      refine qm_G.sp (lv1 := [(0, qm_R (some (0, 61, 0))), (1, qm_I (qm_i n)), (3, qm_I (qm_i 3)), (5, qm_I (qm_i (qm_ov T ln a)))]) rfl rfl (qm_x_istore (lv' := [(6, qm_I (qm_i 1)), (0, qm_R (some (0, 61, 0))), (1, qm_I (qm_i n)), (3, qm_I (qm_i 3)), (5, qm_I (qm_i (qm_ov T ln a)))]) rfl) ?_
      refine qm_G.s1 rfl (qm_x_iload rfl) ?_
      refine qm_G.s1 rfl (qm_x_if_ne_t ⟨by decide, by decide⟩ (by decide)) ?_
      refine qm_G.sp (lv1 := [(0, qm_R (some (0, 61, 0))), (1, qm_I (qm_i n)), (3, qm_I (qm_i 3)), (5, qm_I (qm_i (qm_ov T ln a)))]) rfl rfl (qm_x_aload rfl) ?_
      refine qm_G.s1 rfl (qm_x_getfR (q := (some (0, 70, 0))) (hS 61 rfl) (hR 61 14 70 rfl rfl)) ?_
      refine qm_G.s1 rfl (qm_x_iload rfl) ?_
      refine qm_G.s1 rfl (qm_x_iload rfl) ?_
      refine qm_G.s1 rfl (qm_x_iast (qm_arS hS rfl rfl) rfl (by omega) (by omega) (by decide)) ?_
      refine qm_G.s1 rfl (qm_x_aload rfl) ?_
      refine qm_G.s1 rfl (qm_x_getfR (q := (some (0, 71, 0))) (hS 61 rfl) (hR 61 15 71 rfl rfl)) ?_
      refine qm_G.s1 rfl (qm_x_iload rfl) ?_
      refine qm_G.s1 rfl (qm_x_iload rfl) ?_
      refine qm_G.s1 rfl (qm_x_iast (qm_arS hS rfl rfl) rfl (by omega) (by omega) (by decide)) ?_
      refine qm_G.s1 rfl (qm_x_pushI 1 rfl) ?_
      refine qm_G.ret rfl rfl (k3 ⟨by omega, by rw [c9]; unfold qm_hdg; omega⟩ _ (fun r s i h h2 => ?_) ?_ ?_ qm_st_eq)
      · rw [qm_st_ne (by omega), qm_st_ne (by omega)]; exact (f3 r s i (by omega)).trans (f2 r s i h)
      · rw [qm_st_ne (by omega), qm_st_ne (by omega)]; exact g3
      · rw [qm_st_ne (by omega), c9]; exact qm_st_eq
    · refine qm_G.sp (lv1 := [(0, qm_R (some (0, 61, 0))), (1, qm_I (qm_i n)), (3, qm_I (qm_i 3)), (5, qm_I (qm_i (qm_ov T ln a)))]) rfl rfl (qm_x_icmp_ne_t ⟨by omega, by omega⟩ ⟨by decide, by decide⟩ (by omega)) ?_
      refine qm_G.sp (lv1 := [(0, qm_R (some (0, 61, 0))), (1, qm_I (qm_i n)), (3, qm_I (qm_i 3)), (5, qm_I (qm_i (qm_ov T ln a)))]) rfl rfl (qm_x_pushI 0 rfl) ?_
      refine qm_G.sp (lv1 := [(0, qm_R (some (0, 61, 0))), (1, qm_I (qm_i n)), (3, qm_I (qm_i 3)), (5, qm_I (qm_i (qm_ov T ln a)))]) rfl rfl (qm_x_istore (lv' := [(6, qm_I (qm_i 0)), (0, qm_R (some (0, 61, 0))), (1, qm_I (qm_i n)), (3, qm_I (qm_i 3)), (5, qm_I (qm_i (qm_ov T ln a)))]) rfl) ?_
      refine qm_G.s1 rfl (qm_x_iload rfl) ?_
      refine qm_G.s1 rfl (qm_x_if_ne_f ⟨by decide, by decide⟩ (by decide)) ?_
      refine qm_G.s1 rfl (qm_x_pushI 0 rfl) ?_
      exact qm_G.ret rfl rfl (k2 (by omega) (fun h => by rw [c9] at h; unfold qm_hdg at h; omega) J3 (fun r s i h h2 => (f3 r s i (by omega)).trans (f2 r s i h)) ((f3 61 0 17 (by omega)).trans h17))
  · rw [c9, show ((4 : Nat) : Int) = 4 from rfl]
    refine qm_G.sp (lv1 := [(0, qm_R (some (0, 61, 0))), (1, qm_I (qm_i n)), (2, qm_I (qm_i (a : Int))), (3, qm_I (qm_i 4))]) rfl rfl (qm_x_aload rfl) ?_
    refine qm_G.s1 rfl (qm_x_iload rfl) ?_
    refine qm_G.s1 rfl (qm_x_putfI (hS 61 rfl)) ?_
    refine qm_G.s1 rfl (qm_x_iload rfl) ?_
    refine qm_G.s1 rfl (qm_x_pushI 7 rfl) ?_
    refine qm_G.s1 rfl (qm_x_icmp_ne_t ⟨by decide, by decide⟩ ⟨by decide, by decide⟩ (by decide)) ?_
    refine qm_G.sp (lv1 := [(0, qm_R (some (0, 61, 0))), (1, qm_I (qm_i n)), (3, qm_I (qm_i 4))]) rfl rfl (qm_x_aload rfl) ?_
    refine qm_G.s1 rfl (qm_x_aload rfl) ?_
    refine qm_G.s1 rfl (qm_x_getfI (v := (qm_oe T ln a : Int)) (hS 61 rfl) g1) ?_
    refine qm_G.s1 rfl (qm_x_putfI (hS 61 rfl)) ?_
    refine qm_G.s1 rfl (qm_x_pushI 0 rfl) ?_
    refine qm_G.s1 rfl (qm_x_istore (lv' := [(4, qm_I (qm_i 0)), (0, qm_R (some (0, 61, 0))), (1, qm_I (qm_i n)), (3, qm_I (qm_i 4))]) rfl) ?_
    refine qm_G.s1 rfl (qm_x_pushI 0 rfl) ?_
    refine qm_G.s1 rfl (qm_x_istore (lv' := [(5, qm_I (qm_i 0)), (4, qm_I (qm_i 0)), (0, qm_R (some (0, 61, 0))), (1, qm_I (qm_i n)), (3, qm_I (qm_i 4))]) rfl) ?_
    refine qm_G.pk (lv1 := [(0, qm_R (some (0, 61, 0))), (1, qm_I (qm_i n)), (3, qm_I (qm_i 4)), (4, qm_I (qm_i 0)), (5, qm_I (qm_i 0))]) rfl rfl rfl ?_
    generalize hJ2 : (qm_set (qm_set J1 61 0 17 (a : Int)) 61 0 17 (qm_oe T ln a : Int)) = J2
    have f2 : ∀ r s i, ¬ (r = 61 ∧ (i = 16 ∨ i = 17)) → J2 r s i = J r s i := fun r s i h => by rw [← hJ2, qm_st_ne (by omega), qm_st_ne (by omega)]; exact f1 r s i (by omega)
    have h17 : J2 61 0 17 = (qm_oe T ln a : Int) := by rw [← hJ2]; exact qm_st_eq
    have hT2 : ∀ i, i < 100 → J2 69 0 i = T i ∧ 0 ≤ T i ∧ T i ≤ 127 := fun i h => by rw [f2 69 0 i (by omega)]; exact hT i h
    have hl2 : J2 61 0 12 = ln := (f2 61 0 12 (by omega)).trans hl
    refine qm_m_dig (a := qm_oe T ln a) (t := qm_og T ln a) hS hR hT2 rl hl2 (by omega) (fun J3 f3 g3 => ?_) 4 0 _ _ _ J2 rfl rfl rfl rfl rfl (fun j hj => absurd hj (Nat.not_lt_zero j)) (by omega) (fun _ _ _ _ => rfl) (by rw [← hJ2, qm_st_ne (by omega), qm_st_ne (by omega), g1]; omega)
    rw [show qm_nu T (qm_oe T ln a) (qm_og T ln a - qm_oe T ln a) = qm_ov T ln a from rfl]
    refine qm_G.sp (lv1 := [(0, qm_R (some (0, 61, 0))), (1, qm_I (qm_i n)), (3, qm_I (qm_i 4)), (4, qm_I (qm_i ((qm_og T ln a - qm_oe T ln a : Nat) : Int))), (5, qm_I (qm_i (qm_ov T ln a)))]) rfl rfl (qm_x_iload rfl) ?_
    refine qm_G.s1 rfl (qm_x_pushI 5 rfl) ?_
    refine qm_G.s1 rfl (qm_x_icmp_ne_t ⟨by decide, by decide⟩ ⟨by decide, by decide⟩ (by decide)) ?_
    refine qm_G.sp (lv1 := [(0, qm_R (some (0, 61, 0))), (1, qm_I (qm_i n)), (3, qm_I (qm_i 4)), (4, qm_I (qm_i ((qm_og T ln a - qm_oe T ln a : Nat) : Int))), (5, qm_I (qm_i (qm_ov T ln a)))]) rfl rfl (qm_x_iload rfl) ?_
    refine qm_G.s1 rfl (qm_x_iload rfl) ?_
    refine qm_G.s1 rfl (qm_x_if_eq_f ⟨by decide, by decide⟩ (by decide)) ?_
    refine qm_G.s1 rfl (qm_x_iload rfl) ?_
    refine qm_G.s1 rfl (qm_x_pushI 1 rfl) ?_
    refine qm_G.s1 rfl (qm_x_icmp_eq_f ⟨by decide, by decide⟩ ⟨by decide, by decide⟩ (by decide)) ?_
    refine qm_G.s1 rfl (qm_x_iload rfl) ?_
    refine qm_G.s1 rfl (qm_x_pushI 6 rfl) ?_
    refine qm_G.s1 rfl (qm_x_icmp_ne_t ⟨by decide, by decide⟩ ⟨by decide, by decide⟩ (by decide)) ?_
    refine qm_G.sp (lv1 := [(0, qm_R (some (0, 61, 0))), (1, qm_I (qm_i n)), (3, qm_I (qm_i 4)), (5, qm_I (qm_i (qm_ov T ln a)))]) rfl rfl (qm_x_pushI 0 rfl) ?_
    rcases Int.lt_trichotomy ((qm_og T ln a - qm_oe T ln a : Nat) : Int) 0 with c5 | c5 | c5
    · omega
    · refine qm_G.sp (lv1 := [(0, qm_R (some (0, 61, 0))), (1, qm_I (qm_i n)), (3, qm_I (qm_i 4)), (5, qm_I (qm_i (qm_ov T ln a)))]) rfl rfl (qm_x_icmp_ne_f ⟨by omega, by omega⟩ ⟨by decide, by decide⟩ (by omega)) ?_
      refine qm_G.s1 rfl (qm_x_pushI 1 rfl) ?_
      refine qm_G.s1 rfl (qm_x_goto) ?_
      refine qm_G.sp (lv1 := [(0, qm_R (some (0, 61, 0))), (1, qm_I (qm_i n)), (3, qm_I (qm_i 4)), (5, qm_I (qm_i (qm_ov T ln a)))]) rfl rfl (qm_x_istore (lv' := [(6, qm_I (qm_i 1)), (0, qm_R (some (0, 61, 0))), (1, qm_I (qm_i n)), (3, qm_I (qm_i 4)), (5, qm_I (qm_i (qm_ov T ln a)))]) rfl) ?_
      refine qm_G.s1 rfl (qm_x_iload rfl) ?_
      refine qm_G.s1 rfl (qm_x_if_ne_t ⟨by decide, by decide⟩ (by decide)) ?_
      refine qm_G.sp (lv1 := [(0, qm_R (some (0, 61, 0))), (1, qm_I (qm_i n)), (3, qm_I (qm_i 4)), (5, qm_I (qm_i (qm_ov T ln a)))]) rfl rfl (qm_x_aload rfl) ?_
      refine qm_G.s1 rfl (qm_x_getfR (q := (some (0, 70, 0))) (hS 61 rfl) (hR 61 14 70 rfl rfl)) ?_
      refine qm_G.s1 rfl (qm_x_iload rfl) ?_
      refine qm_G.s1 rfl (qm_x_iload rfl) ?_
      refine qm_G.s1 rfl (qm_x_iast (qm_arS hS rfl rfl) rfl (by omega) (by omega) (by decide)) ?_
      refine qm_G.s1 rfl (qm_x_aload rfl) ?_
      refine qm_G.s1 rfl (qm_x_getfR (q := (some (0, 71, 0))) (hS 61 rfl) (hR 61 15 71 rfl rfl)) ?_
      refine qm_G.s1 rfl (qm_x_iload rfl) ?_
      refine qm_G.s1 rfl (qm_x_iload rfl) ?_
      refine qm_G.s1 rfl (qm_x_iast (qm_arS hS rfl rfl) rfl (by omega) (by omega) (by decide)) ?_
      refine qm_G.s1 rfl (qm_x_pushI 1 rfl) ?_
      refine qm_G.ret rfl rfl (k3 ⟨by omega, by rw [c9]; unfold qm_hdg; omega⟩ _ (fun r s i h h2 => ?_) ?_ ?_ qm_st_eq)
      · rw [qm_st_ne (by omega), qm_st_ne (by omega)]; exact (f3 r s i (by omega)).trans (f2 r s i h)
      · rw [qm_st_ne (by omega), qm_st_ne (by omega)]; exact g3
      · rw [qm_st_ne (by omega), c9]; exact qm_st_eq
    · refine qm_G.sp (lv1 := [(0, qm_R (some (0, 61, 0))), (1, qm_I (qm_i n)), (3, qm_I (qm_i 4)), (5, qm_I (qm_i (qm_ov T ln a)))]) rfl rfl (qm_x_icmp_ne_t ⟨by omega, by omega⟩ ⟨by decide, by decide⟩ (by omega)) ?_
      refine qm_G.sp (lv1 := [(0, qm_R (some (0, 61, 0))), (1, qm_I (qm_i n)), (3, qm_I (qm_i 4)), (5, qm_I (qm_i (qm_ov T ln a)))]) rfl rfl (qm_x_pushI 0 rfl) ?_
      refine qm_G.sp (lv1 := [(0, qm_R (some (0, 61, 0))), (1, qm_I (qm_i n)), (3, qm_I (qm_i 4)), (5, qm_I (qm_i (qm_ov T ln a)))]) rfl rfl (qm_x_istore (lv' := [(6, qm_I (qm_i 0)), (0, qm_R (some (0, 61, 0))), (1, qm_I (qm_i n)), (3, qm_I (qm_i 4)), (5, qm_I (qm_i (qm_ov T ln a)))]) rfl) ?_
      refine qm_G.s1 rfl (qm_x_iload rfl) ?_
      refine qm_G.s1 rfl (qm_x_if_ne_f ⟨by decide, by decide⟩ (by decide)) ?_
      refine qm_G.s1 rfl (qm_x_pushI 0 rfl) ?_
      exact qm_G.ret rfl rfl (k2 (by omega) (fun h => by rw [c9] at h; unfold qm_hdg at h; omega) J3 (fun r s i h h2 => (f3 r s i (by omega)).trans (f2 r s i h)) ((f3 61 0 17 (by omega)).trans h17))
  · rw [c9, show ((5 : Nat) : Int) = 5 from rfl]
    refine qm_G.sp (lv1 := [(0, qm_R (some (0, 61, 0))), (1, qm_I (qm_i n)), (2, qm_I (qm_i (a : Int))), (3, qm_I (qm_i 5))]) rfl rfl (qm_x_aload rfl) ?_
    refine qm_G.s1 rfl (qm_x_iload rfl) ?_
    refine qm_G.s1 rfl (qm_x_putfI (hS 61 rfl)) ?_
    refine qm_G.s1 rfl (qm_x_iload rfl) ?_
    refine qm_G.s1 rfl (qm_x_pushI 7 rfl) ?_
    refine qm_G.s1 rfl (qm_x_icmp_ne_t ⟨by decide, by decide⟩ ⟨by decide, by decide⟩ (by decide)) ?_
    refine qm_G.sp (lv1 := [(0, qm_R (some (0, 61, 0))), (1, qm_I (qm_i n)), (3, qm_I (qm_i 5))]) rfl rfl (qm_x_aload rfl) ?_
    refine qm_G.s1 rfl (qm_x_aload rfl) ?_
    refine qm_G.s1 rfl (qm_x_getfI (v := (qm_oe T ln a : Int)) (hS 61 rfl) g1) ?_
    refine qm_G.s1 rfl (qm_x_putfI (hS 61 rfl)) ?_
    refine qm_G.s1 rfl (qm_x_pushI 0 rfl) ?_
    refine qm_G.s1 rfl (qm_x_istore (lv' := [(4, qm_I (qm_i 0)), (0, qm_R (some (0, 61, 0))), (1, qm_I (qm_i n)), (3, qm_I (qm_i 5))]) rfl) ?_
    refine qm_G.s1 rfl (qm_x_pushI 0 rfl) ?_
    refine qm_G.s1 rfl (qm_x_istore (lv' := [(5, qm_I (qm_i 0)), (4, qm_I (qm_i 0)), (0, qm_R (some (0, 61, 0))), (1, qm_I (qm_i n)), (3, qm_I (qm_i 5))]) rfl) ?_
    refine qm_G.pk (lv1 := [(0, qm_R (some (0, 61, 0))), (1, qm_I (qm_i n)), (3, qm_I (qm_i 5)), (4, qm_I (qm_i 0)), (5, qm_I (qm_i 0))]) rfl rfl rfl ?_
    generalize hJ2 : (qm_set (qm_set J1 61 0 17 (a : Int)) 61 0 17 (qm_oe T ln a : Int)) = J2
    have f2 : ∀ r s i, ¬ (r = 61 ∧ (i = 16 ∨ i = 17)) → J2 r s i = J r s i := fun r s i h => by rw [← hJ2, qm_st_ne (by omega), qm_st_ne (by omega)]; exact f1 r s i (by omega)
    have h17 : J2 61 0 17 = (qm_oe T ln a : Int) := by rw [← hJ2]; exact qm_st_eq
    have hT2 : ∀ i, i < 100 → J2 69 0 i = T i ∧ 0 ≤ T i ∧ T i ≤ 127 := fun i h => by rw [f2 69 0 i (by omega)]; exact hT i h
    have hl2 : J2 61 0 12 = ln := (f2 61 0 12 (by omega)).trans hl
    refine qm_m_dig (a := qm_oe T ln a) (t := qm_og T ln a) hS hR hT2 rl hl2 (by omega) (fun J3 f3 g3 => ?_) 4 0 _ _ _ J2 rfl rfl rfl rfl rfl (fun j hj => absurd hj (Nat.not_lt_zero j)) (by omega) (fun _ _ _ _ => rfl) (by rw [← hJ2, qm_st_ne (by omega), qm_st_ne (by omega), g1]; omega)
    rw [show qm_nu T (qm_oe T ln a) (qm_og T ln a - qm_oe T ln a) = qm_ov T ln a from rfl]
    refine qm_G.sp (lv1 := [(0, qm_R (some (0, 61, 0))), (1, qm_I (qm_i n)), (3, qm_I (qm_i 5)), (4, qm_I (qm_i ((qm_og T ln a - qm_oe T ln a : Nat) : Int))), (5, qm_I (qm_i (qm_ov T ln a)))]) rfl rfl (qm_x_iload rfl) ?_
    refine qm_G.s1 rfl (qm_x_pushI 5 rfl) ?_
    refine qm_G.s1 rfl (qm_x_icmp_ne_f ⟨by decide, by decide⟩ ⟨by decide, by decide⟩ (by decide)) ?_
    refine qm_G.s1 rfl (qm_x_iload rfl) ?_
    refine qm_G.s1 rfl (qm_x_pushI 2 rfl) ?_
    refine qm_y_icmp_le rfl ⟨by omega, by omega⟩ ⟨by decide, by decide⟩ (fun c6 => ?_) (fun c6 => ?_)
    · refine qm_G.sp (lv1 := [(0, qm_R (some (0, 61, 0))), (1, qm_I (qm_i n)), (3, qm_I (qm_i 5)), (5, qm_I (qm_i (qm_ov T ln a)))]) rfl rfl (qm_x_pushI 0 rfl) ?_
      refine qm_G.s1 rfl (qm_x_goto) ?_
      refine qm_G.sp (lv1 := [(0, qm_R (some (0, 61, 0))), (1, qm_I (qm_i n)), (3, qm_I (qm_i 5)), (5, qm_I (qm_i (qm_ov T ln a)))]) rfl rfl (qm_x_istore (lv' := [(6, qm_I (qm_i 0)), (0, qm_R (some (0, 61, 0))), (1, qm_I (qm_i n)), (3, qm_I (qm_i 5)), (5, qm_I (qm_i (qm_ov T ln a)))]) rfl) ?_
      refine qm_G.s1 rfl (qm_x_iload rfl) ?_
      refine qm_G.s1 rfl (qm_x_if_ne_f ⟨by decide, by decide⟩ (by decide)) ?_
      refine qm_G.s1 rfl (qm_x_pushI 0 rfl) ?_
      exact qm_G.ret rfl rfl (k2 (by omega) (fun h => by rw [c9] at h; unfold qm_hdg at h; omega) J3 (fun r s i h h2 => (f3 r s i (by omega)).trans (f2 r s i h)) ((f3 61 0 17 (by omega)).trans h17))
    · refine qm_G.s1 rfl (qm_x_pushI 1 rfl) ?_
      refine qm_G.s1 rfl (qm_x_goto) ?_
      refine qm_G.sp (lv1 := [(0, qm_R (some (0, 61, 0))), (1, qm_I (qm_i n)), (3, qm_I (qm_i 5)), (5, qm_I (qm_i (qm_ov T ln a)))]) rfl rfl (qm_x_istore (lv' := [(6, qm_I (qm_i 1)), (0, qm_R (some (0, 61, 0))), (1, qm_I (qm_i n)), (3, qm_I (qm_i 5)), (5, qm_I (qm_i (qm_ov T ln a)))]) rfl) ?_
      refine qm_G.s1 rfl (qm_x_iload rfl) ?_
      refine qm_G.s1 rfl (qm_x_if_ne_t ⟨by decide, by decide⟩ (by decide)) ?_
      refine qm_G.sp (lv1 := [(0, qm_R (some (0, 61, 0))), (1, qm_I (qm_i n)), (3, qm_I (qm_i 5)), (5, qm_I (qm_i (qm_ov T ln a)))]) rfl rfl (qm_x_aload rfl) ?_
      refine qm_G.s1 rfl (qm_x_getfR (q := (some (0, 70, 0))) (hS 61 rfl) (hR 61 14 70 rfl rfl)) ?_
      refine qm_G.s1 rfl (qm_x_iload rfl) ?_
      refine qm_G.s1 rfl (qm_x_iload rfl) ?_
      refine qm_G.s1 rfl (qm_x_iast (qm_arS hS rfl rfl) rfl (by omega) (by omega) (by decide)) ?_
      refine qm_G.s1 rfl (qm_x_aload rfl) ?_
      refine qm_G.s1 rfl (qm_x_getfR (q := (some (0, 71, 0))) (hS 61 rfl) (hR 61 15 71 rfl rfl)) ?_
      refine qm_G.s1 rfl (qm_x_iload rfl) ?_
      refine qm_G.s1 rfl (qm_x_iload rfl) ?_
      refine qm_G.s1 rfl (qm_x_iast (qm_arS hS rfl rfl) rfl (by omega) (by omega) (by decide)) ?_
      refine qm_G.s1 rfl (qm_x_pushI 1 rfl) ?_
      refine qm_G.ret rfl rfl (k3 ⟨by omega, by rw [c9]; unfold qm_hdg; omega⟩ _ (fun r s i h h2 => ?_) ?_ ?_ qm_st_eq)
      · rw [qm_st_ne (by omega), qm_st_ne (by omega)]; exact (f3 r s i (by omega)).trans (f2 r s i h)
      · rw [qm_st_ne (by omega), qm_st_ne (by omega)]; exact g3
      · rw [qm_st_ne (by omega), c9]; exact qm_st_eq
  · rw [c9, show ((6 : Nat) : Int) = 6 from rfl]
    refine qm_G.sp (lv1 := [(0, qm_R (some (0, 61, 0))), (1, qm_I (qm_i n)), (2, qm_I (qm_i (a : Int))), (3, qm_I (qm_i 6))]) rfl rfl (qm_x_aload rfl) ?_
    refine qm_G.s1 rfl (qm_x_iload rfl) ?_
    refine qm_G.s1 rfl (qm_x_putfI (hS 61 rfl)) ?_
    refine qm_G.s1 rfl (qm_x_iload rfl) ?_
    refine qm_G.s1 rfl (qm_x_pushI 7 rfl) ?_
    refine qm_G.s1 rfl (qm_x_icmp_ne_t ⟨by decide, by decide⟩ ⟨by decide, by decide⟩ (by decide)) ?_
    refine qm_G.sp (lv1 := [(0, qm_R (some (0, 61, 0))), (1, qm_I (qm_i n)), (3, qm_I (qm_i 6))]) rfl rfl (qm_x_aload rfl) ?_
    refine qm_G.s1 rfl (qm_x_aload rfl) ?_
    refine qm_G.s1 rfl (qm_x_getfI (v := (qm_oe T ln a : Int)) (hS 61 rfl) g1) ?_
    refine qm_G.s1 rfl (qm_x_putfI (hS 61 rfl)) ?_
    refine qm_G.s1 rfl (qm_x_pushI 0 rfl) ?_
    refine qm_G.s1 rfl (qm_x_istore (lv' := [(4, qm_I (qm_i 0)), (0, qm_R (some (0, 61, 0))), (1, qm_I (qm_i n)), (3, qm_I (qm_i 6))]) rfl) ?_
    refine qm_G.s1 rfl (qm_x_pushI 0 rfl) ?_
    refine qm_G.s1 rfl (qm_x_istore (lv' := [(5, qm_I (qm_i 0)), (4, qm_I (qm_i 0)), (0, qm_R (some (0, 61, 0))), (1, qm_I (qm_i n)), (3, qm_I (qm_i 6))]) rfl) ?_
    refine qm_G.pk (lv1 := [(0, qm_R (some (0, 61, 0))), (1, qm_I (qm_i n)), (3, qm_I (qm_i 6)), (4, qm_I (qm_i 0)), (5, qm_I (qm_i 0))]) rfl rfl rfl ?_
    generalize hJ2 : (qm_set (qm_set J1 61 0 17 (a : Int)) 61 0 17 (qm_oe T ln a : Int)) = J2
    have f2 : ∀ r s i, ¬ (r = 61 ∧ (i = 16 ∨ i = 17)) → J2 r s i = J r s i := fun r s i h => by rw [← hJ2, qm_st_ne (by omega), qm_st_ne (by omega)]; exact f1 r s i (by omega)
    have h17 : J2 61 0 17 = (qm_oe T ln a : Int) := by rw [← hJ2]; exact qm_st_eq
    have hT2 : ∀ i, i < 100 → J2 69 0 i = T i ∧ 0 ≤ T i ∧ T i ≤ 127 := fun i h => by rw [f2 69 0 i (by omega)]; exact hT i h
    have hl2 : J2 61 0 12 = ln := (f2 61 0 12 (by omega)).trans hl
    refine qm_m_dig (a := qm_oe T ln a) (t := qm_og T ln a) hS hR hT2 rl hl2 (by omega) (fun J3 f3 g3 => ?_) 4 0 _ _ _ J2 rfl rfl rfl rfl rfl (fun j hj => absurd hj (Nat.not_lt_zero j)) (by omega) (fun _ _ _ _ => rfl) (by rw [← hJ2, qm_st_ne (by omega), qm_st_ne (by omega), g1]; omega)
    rw [show qm_nu T (qm_oe T ln a) (qm_og T ln a - qm_oe T ln a) = qm_ov T ln a from rfl]
    refine qm_G.sp (lv1 := [(0, qm_R (some (0, 61, 0))), (1, qm_I (qm_i n)), (3, qm_I (qm_i 6)), (4, qm_I (qm_i ((qm_og T ln a - qm_oe T ln a : Nat) : Int))), (5, qm_I (qm_i (qm_ov T ln a)))]) rfl rfl (qm_x_iload rfl) ?_
    refine qm_G.s1 rfl (qm_x_pushI 5 rfl) ?_
    refine qm_G.s1 rfl (qm_x_icmp_ne_t ⟨by decide, by decide⟩ ⟨by decide, by decide⟩ (by decide)) ?_
    refine qm_G.sp (lv1 := [(0, qm_R (some (0, 61, 0))), (1, qm_I (qm_i n)), (3, qm_I (qm_i 6)), (4, qm_I (qm_i ((qm_og T ln a - qm_oe T ln a : Nat) : Int))), (5, qm_I (qm_i (qm_ov T ln a)))]) rfl rfl (qm_x_iload rfl) ?_
    refine qm_G.s1 rfl (qm_x_iload rfl) ?_
    refine qm_G.s1 rfl (qm_x_if_eq_f ⟨by decide, by decide⟩ (by decide)) ?_
    refine qm_G.s1 rfl (qm_x_iload rfl) ?_
    refine qm_G.s1 rfl (qm_x_pushI 1 rfl) ?_
    refine qm_G.s1 rfl (qm_x_icmp_eq_f ⟨by decide, by decide⟩ ⟨by decide, by decide⟩ (by decide)) ?_
    refine qm_G.s1 rfl (qm_x_iload rfl) ?_
    refine qm_G.s1 rfl (qm_x_pushI 6 rfl) ?_
    refine qm_G.s1 rfl (qm_x_icmp_ne_f ⟨by decide, by decide⟩ ⟨by decide, by decide⟩ (by decide)) ?_
    refine qm_G.sp (lv1 := [(0, qm_R (some (0, 61, 0))), (1, qm_I (qm_i n)), (3, qm_I (qm_i 6)), (5, qm_I (qm_i (qm_ov T ln a)))]) rfl rfl (qm_x_pushI 1 rfl) ?_
    refine qm_G.s1 rfl (qm_x_goto) ?_
    rcases Int.lt_trichotomy ((qm_og T ln a - qm_oe T ln a : Nat) : Int) 1 with c7 | c7 | c7
    · refine qm_G.sp (lv1 := [(0, qm_R (some (0, 61, 0))), (1, qm_I (qm_i n)), (3, qm_I (qm_i 6)), (5, qm_I (qm_i (qm_ov T ln a)))]) rfl rfl (qm_x_icmp_ne_t ⟨by omega, by omega⟩ ⟨by decide, by decide⟩ (by omega)) ?_
      refine qm_G.sp (lv1 := [(0, qm_R (some (0, 61, 0))), (1, qm_I (qm_i n)), (3, qm_I (qm_i 6)), (5, qm_I (qm_i (qm_ov T ln a)))]) rfl rfl (qm_x_pushI 0 rfl) ?_
      refine qm_G.sp (lv1 := [(0, qm_R (some (0, 61, 0))), (1, qm_I (qm_i n)), (3, qm_I (qm_i 6)), (5, qm_I (qm_i (qm_ov T ln a)))]) rfl rfl (qm_x_istore (lv' := [(6, qm_I (qm_i 0)), (0, qm_R (some (0, 61, 0))), (1, qm_I (qm_i n)), (3, qm_I (qm_i 6)), (5, qm_I (qm_i (qm_ov T ln a)))]) rfl) ?_
      refine qm_G.s1 rfl (qm_x_iload rfl) ?_
      refine qm_G.s1 rfl (qm_x_if_ne_f ⟨by decide, by decide⟩ (by decide)) ?_
      refine qm_G.s1 rfl (qm_x_pushI 0 rfl) ?_
      exact qm_G.ret rfl rfl (k2 (by omega) (fun h => by rw [c9] at h; unfold qm_hdg at h; omega) J3 (fun r s i h h2 => (f3 r s i (by omega)).trans (f2 r s i h)) ((f3 61 0 17 (by omega)).trans h17))
    · refine qm_G.sp (lv1 := [(0, qm_R (some (0, 61, 0))), (1, qm_I (qm_i n)), (3, qm_I (qm_i 6)), (5, qm_I (qm_i (qm_ov T ln a)))]) rfl rfl (qm_x_icmp_ne_f ⟨by omega, by omega⟩ ⟨by decide, by decide⟩ (by omega)) ?_
      refine qm_G.s1 rfl (qm_x_pushI 1 rfl) ?_
      refine qm_G.s1 rfl (qm_x_goto) ?_
      refine qm_G.sp (lv1 := [(0, qm_R (some (0, 61, 0))), (1, qm_I (qm_i n)), (3, qm_I (qm_i 6)), (5, qm_I (qm_i (qm_ov T ln a)))]) rfl rfl (qm_x_istore (lv' := [(6, qm_I (qm_i 1)), (0, qm_R (some (0, 61, 0))), (1, qm_I (qm_i n)), (3, qm_I (qm_i 6)), (5, qm_I (qm_i (qm_ov T ln a)))]) rfl) ?_
      refine qm_G.s1 rfl (qm_x_iload rfl) ?_
      refine qm_G.s1 rfl (qm_x_if_ne_t ⟨by decide, by decide⟩ (by decide)) ?_
      refine qm_G.sp (lv1 := [(0, qm_R (some (0, 61, 0))), (1, qm_I (qm_i n)), (3, qm_I (qm_i 6)), (5, qm_I (qm_i (qm_ov T ln a)))]) rfl rfl (qm_x_aload rfl) ?_
      refine qm_G.s1 rfl (qm_x_getfR (q := (some (0, 70, 0))) (hS 61 rfl) (hR 61 14 70 rfl rfl)) ?_
      refine qm_G.s1 rfl (qm_x_iload rfl) ?_
      refine qm_G.s1 rfl (qm_x_iload rfl) ?_
      refine qm_G.s1 rfl (qm_x_iast (qm_arS hS rfl rfl) rfl (by omega) (by omega) (by decide)) ?_
      refine qm_G.s1 rfl (qm_x_aload rfl) ?_
      refine qm_G.s1 rfl (qm_x_getfR (q := (some (0, 71, 0))) (hS 61 rfl) (hR 61 15 71 rfl rfl)) ?_
      refine qm_G.s1 rfl (qm_x_iload rfl) ?_
      refine qm_G.s1 rfl (qm_x_iload rfl) ?_
      refine qm_G.s1 rfl (qm_x_iast (qm_arS hS rfl rfl) rfl (by omega) (by omega) (by decide)) ?_
      refine qm_G.s1 rfl (qm_x_pushI 1 rfl) ?_
      refine qm_G.ret rfl rfl (k3 ⟨by omega, by rw [c9]; unfold qm_hdg; omega⟩ _ (fun r s i h h2 => ?_) ?_ ?_ qm_st_eq)
      · rw [qm_st_ne (by omega), qm_st_ne (by omega)]; exact (f3 r s i (by omega)).trans (f2 r s i h)
      · rw [qm_st_ne (by omega), qm_st_ne (by omega)]; exact g3
      · rw [qm_st_ne (by omega), c9]; exact qm_st_eq
    · refine qm_G.sp (lv1 := [(0, qm_R (some (0, 61, 0))), (1, qm_I (qm_i n)), (3, qm_I (qm_i 6)), (5, qm_I (qm_i (qm_ov T ln a)))]) rfl rfl (qm_x_icmp_ne_t ⟨by omega, by omega⟩ ⟨by decide, by decide⟩ (by omega)) ?_
      refine qm_G.sp (lv1 := [(0, qm_R (some (0, 61, 0))), (1, qm_I (qm_i n)), (3, qm_I (qm_i 6)), (5, qm_I (qm_i (qm_ov T ln a)))]) rfl rfl (qm_x_pushI 0 rfl) ?_
      refine qm_G.sp (lv1 := [(0, qm_R (some (0, 61, 0))), (1, qm_I (qm_i n)), (3, qm_I (qm_i 6)), (5, qm_I (qm_i (qm_ov T ln a)))]) rfl rfl (qm_x_istore (lv' := [(6, qm_I (qm_i 0)), (0, qm_R (some (0, 61, 0))), (1, qm_I (qm_i n)), (3, qm_I (qm_i 6)), (5, qm_I (qm_i (qm_ov T ln a)))]) rfl) ?_
      refine qm_G.s1 rfl (qm_x_iload rfl) ?_
      refine qm_G.s1 rfl (qm_x_if_ne_f ⟨by decide, by decide⟩ (by decide)) ?_
      refine qm_G.s1 rfl (qm_x_pushI 0 rfl) ?_
      exact qm_G.ret rfl rfl (k2 (by omega) (fun h => by rw [c9] at h; unfold qm_hdg at h; omega) J3 (fun r s i h h2 => (f3 r s i (by omega)).trans (f2 r s i h)) ((f3 61 0 17 (by omega)).trans h17))
  · rw [c9, show ((7 : Nat) : Int) = 7 from rfl]
    refine qm_G.sp (lv1 := [(0, qm_R (some (0, 61, 0))), (1, qm_I (qm_i n)), (2, qm_I (qm_i (a : Int))), (3, qm_I (qm_i 7))]) rfl rfl (qm_x_aload rfl) ?_
    refine qm_G.s1 rfl (qm_x_iload rfl) ?_
    refine qm_G.s1 rfl (qm_x_putfI (hS 61 rfl)) ?_
    refine qm_G.s1 rfl (qm_x_iload rfl) ?_
    refine qm_G.s1 rfl (qm_x_pushI 7 rfl) ?_
    refine qm_G.s1 rfl (qm_x_icmp_ne_f ⟨by decide, by decide⟩ ⟨by decide, by decide⟩ (by decide)) ?_
    refine qm_G.s1 rfl (qm_x_pushI 0 rfl) ?_
    refine qm_G.ret rfl rfl (k1 c9 _ (fun r s i h h2 => ?_) qm_st_eq)
    rw [qm_st_ne (by omega)]; exact f1 r s i (by omega)
