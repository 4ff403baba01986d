/-! AN ORDER IS DONE -/
abbrev qm_MS : Type := (Nat → Int) × UInt64 × UInt64
def qm_up (m : Nat → Int) (i : Nat) (v : Int) : Nat → Int := fun j => if j = i then v else m j
theorem qm_up_s {J : qm_J} {m : Nat → Int} {j : Nat} {v : Int} (h : ∀ i, J 62 0 i = m i) : ∀ i, qm_set J 62 0 j v 62 0 i = qm_up m j v i := fun i => by
  unfold qm_up
  by_cases c : i = j
  · subst c
    rw [if_pos rfl, qm_st_eq]
  · rw [if_neg c, qm_st_ne (by omega)]; exact h i
def qm_dlw (m : Nat → Int) (a b : UInt64) (st P W C q : Int) : qm_MS × Int := if q = 6 ∨ st < -m 1 ∨ m 1 < st then ((m, a, b), 0) else if ¬ qm_sm W ∨ ¬ qm_sm C then ((m, a, b), 0) else ((qm_up (qm_up m 10 st) 11 C, FP.dadd a (FP.dmul (FP.dsub (FP.i2d (qm_i P)) a) 4598175219545276416), FP.dadd (FP.dmul b 4604930618986332160) (FP.dmul (FP.dmul (FP.dsub (FP.i2d (qm_i P)) a) (FP.dsub (FP.i2d (qm_i P)) a)) 4598175219545276416)), 1)
def qm_do : Nat → Int → qm_MS → qm_MS × Int
  | 0, v, (m, a, b) => if 0 ≤ v ∧ v ≤ 6 then ((qm_up m 8 v, a, b), 1) else ((m, a, b), 0)
  | 1, v, (m, a, b) => if 0 ≤ v ∧ v ≤ 6 then ((qm_up m 9 v, a, b), 1) else ((m, a, b), 0)
  | 2, _, (m, a, b) => qm_dlw m a b (m 10 + 1) (m 0 - m 8) ((m 0 - m 8) * m 5) (m 11 - (m 0 - m 8) * m 5) (m 8)
  | 3, _, (m, a, b) => qm_dlw m a b (m 10 - 1) (m 0 + m 9) ((m 0 + m 9) * m 5) (m 11 + (m 0 + m 9) * m 5) (m 9)
  | 4, _, (m, a, b) => ((qm_up (qm_up m 8 6) 9 6, a, b), 1)
  | 5, v, (m, a, b) => if 100 ≤ v ∧ v ≤ 9999 then ((qm_up m 0 v, a, b), 1) else ((m, a, b), 0)
  | _, v, (m, a, b) => if 0 ≤ v ∧ v ≤ 2 then ((qm_up m 6 v, a, b), 1) else ((m, a, b), 0)
def qm_Cl (J : qm_J) (D : qm_Ct UInt64) (s : qm_MS) : Prop := J 3 0 0 = s.1 0 ∧ J 3 0 1 = s.1 1 ∧ J 3 0 5 = s.1 5 ∧ J 2 0 5 = s.1 6 ∧ J 10 0 0 = s.1 8 ∧ J 10 0 1 = s.1 9 ∧ J 9 0 1 = s.1 10 ∧ J 9 0 2 = s.1 11 ∧ D 9 0 3 = s.2.1 ∧ D 9 0 4 = s.2.2
def qm_Cm (J : qm_J) (D : qm_Ct UInt64) (s : qm_MS) : Prop := (∀ i, J 62 0 i = s.1 i) ∧ D 61 0 2 = s.2.1 ∧ D 61 0 3 = s.2.2
def qm_Rg (c : Nat) (s : qm_MS) : Prop := (100 ≤ s.1 0 ∧ s.1 0 ≤ 9999) ∧ (1 ≤ s.1 1 ∧ s.1 1 ≤ 8) ∧ (1 ≤ s.1 5 ∧ s.1 5 ≤ 1000000) ∧ (0 ≤ s.1 6 ∧ s.1 6 ≤ 2) ∧ (0 ≤ s.1 8 ∧ s.1 8 ≤ 6) ∧ (0 ≤ s.1 9 ∧ s.1 9 ≤ 6) ∧ (-8 ≤ s.1 10 ∧ s.1 10 ≤ 8) ∧ (-2147483648 ≤ s.1 11 ∧ s.1 11 ≤ 2147483647) ∧ qm_Mid s.2.1 ∧ qm_Spr c s.2.2
def qm_Cf (J J1 : qm_J) : Prop := ∀ r s i, ¬ (r = 3 ∧ i = 0) → ¬ (r = 2 ∧ i = 5) → r ≠ 10 → ¬ (r = 9 ∧ (i = 1 ∨ i = 2)) → J1 r s i = J r s i
def qm_Df (D D1 : qm_Ct UInt64) : Prop := ∀ r s i, ¬ (r = 9 ∧ (i = 3 ∨ i = 4)) → D1 r s i = D r s i
def qm_Cg (J J1 : qm_J) : Prop := ∀ r s i, ¬ (r = 62 ∧ s = 0) → J1 r s i = J r s i
def qm_Dg (D D1 : qm_Ct UInt64) : Prop := ∀ r s i, ¬ (r = 61 ∧ (i = 2 ∨ i = 3)) → D1 r s i = D r s i
theorem qm_Spr.up {c : Nat} {d : UInt64} (h : qm_Spr c d) : qm_Spr (c + 1) d := h.imp id (fun h => ⟨Nat.le_trans (Nat.mul_le_mul_right _ (by omega)) h.1, h.2⟩)
theorem qm_W9 {P q : Int} (hP : 94 ≤ P ∧ P ≤ 10005) (hq : 1 ≤ q ∧ q ≤ 1000000) : 0 ≤ P * q ∧ P * q ≤ 10005000000 := ⟨Int.mul_nonneg (by omega) (by omega), Int.le_trans (Int.mul_le_mul (show P ≤ 10005 by omega) (show q ≤ 1000000 by omega) (by omega) (by omega)) (by decide)⟩
theorem qm_dlw_rg {c : Nat} {m : Nat → Int} {a b : UInt64} {st P W C q : Int} (h : qm_Rg c (m, a, b)) (hc : c ≤ 900) (hP : 94 ≤ P ∧ P ≤ 10005) : qm_Rg (c + 1) (qm_dlw m a b st P W C q).1 := by
  obtain ⟨r0, r1, r5, r6, r8, r9, r10, r11, ha, hb⟩ := h
  have hr1 : 1 ≤ m 1 ∧ m 1 ≤ 8 := r1
  unfold qm_dlw
  split
  · exact ⟨r0, r1, r5, r6, r8, r9, r10, r11, ha, hb.up⟩
  · rename_i c1
    split
    · exact ⟨r0, r1, r5, r6, r8, r9, r10, r11, ha, hb.up⟩
    · rename_i c2
      have hsm : qm_sm C := Decidable.byContradiction (fun h => c2 (Or.inr h))
      obtain ⟨t1, t2, t3, t4, t5, t6, t7, t8, t9⟩ := qm_trn hP hc ha hb
      exact ⟨r0, r1, r5, r6, r8, r9, (show -8 ≤ st ∧ st ≤ 8 by omega), hsm, t8, t9⟩
theorem qm_do_rg {c k : Nat} {m : Nat → Int} {a b : UInt64} {v : Int} (h : qm_Rg c (m, a, b)) (hc : c ≤ 900) : qm_Rg (c + 1) (qm_do k v (m, a, b)).1 := by
  have h0 := h
  obtain ⟨r0, r1, r5, r6, r8, r9, r10, r11, ha, hb⟩ := h
  have g0 : 100 ≤ m 0 ∧ m 0 ≤ 9999 := r0
  have g8 : 0 ≤ m 8 ∧ m 8 ≤ 6 := r8
  have g9 : 0 ≤ m 9 ∧ m 9 ≤ 6 := r9
  have same : qm_Rg (c + 1) (m, a, b) := ⟨r0, r1, r5, r6, r8, r9, r10, r11, ha, hb.up⟩
  rcases (show k = 0 ∨ k = 1 ∨ k = 2 ∨ k = 3 ∨ k = 4 ∨ k = 5 ∨ 6 ≤ k by omega) with e | e | e | e | e | e | e
  · subst e
    show qm_Rg (c + 1) ((if 0 ≤ v ∧ v ≤ 6 then ((qm_up m 8 v, a, b), 1) else ((m, a, b), 0) : qm_MS × Int)).1
    split
    · rename_i cv
      exact ⟨r0, r1, r5, r6, cv, r9, r10, r11, ha, hb.up⟩
    · exact same
  · subst e
    show qm_Rg (c + 1) ((if 0 ≤ v ∧ v ≤ 6 then ((qm_up m 9 v, a, b), 1) else ((m, a, b), 0) : qm_MS × Int)).1
    split
    · rename_i cv
      exact ⟨r0, r1, r5, r6, r8, cv, r10, r11, ha, hb.up⟩
    · exact same
  · subst e
    exact qm_dlw_rg h0 hc (by omega)
  · subst e
    exact qm_dlw_rg h0 hc (by omega)
  · subst e
    exact ⟨r0, r1, r5, r6, (show (0 : Int) ≤ 6 ∧ (6 : Int) ≤ 6 by decide), (show (0 : Int) ≤ 6 ∧ (6 : Int) ≤ 6 by decide), r10, r11, ha, hb.up⟩
  · subst e
    show qm_Rg (c + 1) ((if 100 ≤ v ∧ v ≤ 9999 then ((qm_up m 0 v, a, b), 1) else ((m, a, b), 0) : qm_MS × Int)).1
    split
    · rename_i cv
      exact ⟨cv, r1, r5, r6, r8, r9, r10, r11, ha, hb.up⟩
    · exact same
  · obtain ⟨k6, rfl⟩ : ∃ j, k = j + 6 := ⟨k - 6, by omega⟩
    show qm_Rg (c + 1) ((if 0 ≤ v ∧ v ≤ 2 then ((qm_up m 6 v, a, b), 1) else ((m, a, b), 0) : qm_MS × Int)).1
    split
    · rename_i cv
      exact ⟨r0, r1, r5, cv, r8, r9, r10, r11, ha, hb.up⟩
    · exact same
theorem qm_d_do0 {S : List qm_Sh} {J K : qm_J} {L : qm_Ct Int64} {D : qm_Ct UInt64} {R : qm_Ct (Option qm_Rf)} {X : Nat × (Nat → Int32)} {Q : Option qm_V → qm_Hp → Prop} {m : Nat → Int} {a b : UInt64} {v : Int} {c : Nat} (hS : qm_Sd S) (hR : qm_Rd R) (hC : qm_Cl J D (m, a, b)) (hr : qm_Rg c (m, a, b)) (hc : c ≤ 900) (rv : 0 ≤ v ∧ v ≤ 9999) (k : ∀ (J1 : qm_J) (D1 : qm_Ct UInt64), qm_Cf J J1 → qm_Df D D1 → qm_Cl J1 D1 (qm_do 0 v (m, a, b)).1 → Q (some (qm_I (qm_i (qm_do 0 v (m, a, b)).2))) (qm_H S J1 K L D1 R X)) : qm_C qm_P 173 [qm_R (some (0, 0, 0)), qm_R (some (1, 5, 0)), qm_I (qm_i v)] (qm_H S J K L D R X) Q := by
  have e0 : J 3 0 0 = m 0 := hC.1
  have e1 : J 3 0 1 = m 1 := hC.2.1
  have e5 : J 3 0 5 = m 5 := hC.2.2.1
  have e6 : J 2 0 5 = m 6 := hC.2.2.2.1
  have e8 : J 10 0 0 = m 8 := hC.2.2.2.2.1
  have e9 : J 10 0 1 = m 9 := hC.2.2.2.2.2.1
  have e10 : J 9 0 1 = m 10 := hC.2.2.2.2.2.2.1
  have e11 : J 9 0 2 = m 11 := hC.2.2.2.2.2.2.2.1
  have ea : D 9 0 3 = a := hC.2.2.2.2.2.2.2.2.1
  have eb : D 9 0 4 = b := hC.2.2.2.2.2.2.2.2.2
  have r0 : 100 ≤ m 0 ∧ m 0 ≤ 9999 := hr.1
  have r1 : 1 ≤ m 1 ∧ m 1 ≤ 8 := hr.2.1
  have r5 : 1 ≤ m 5 ∧ m 5 ≤ 1000000 := hr.2.2.1
  have r6 : 0 ≤ m 6 ∧ m 6 ≤ 2 := hr.2.2.2.1
  have r8 : 0 ≤ m 8 ∧ m 8 ≤ 6 := hr.2.2.2.2.1
  have r9 : 0 ≤ m 9 ∧ m 9 ≤ 6 := hr.2.2.2.2.2.1
  have r10 : -8 ≤ m 10 ∧ m 10 ≤ 8 := hr.2.2.2.2.2.2.1
  have r11 : -2147483648 ≤ m 11 ∧ m 11 ≤ 2147483647 := hr.2.2.2.2.2.2.2.1
  have hm9 : qm_Mid a := hr.2.2.2.2.2.2.2.2.1
  have hs9 : qm_Spr c b := hr.2.2.2.2.2.2.2.2.2
  refine qm_C.go (cd := qm_P173) (lv := [(0, qm_R (some (0, 0, 0))), (1, qm_R (some (1, 5, 0))), (2, qm_I (qm_i v))]) rfl rfl ?_
  refine qm_G.s1 rfl (qm_x_aload rfl) ?_
  refine qm_G.s1 rfl (qm_x_ifnonnull1) ?_
  refine qm_G.sp (lv1 := [(0, qm_R (some (0, 0, 0))), (1, qm_R (some (1, 5, 0))), (2, qm_I (qm_i v))]) rfl rfl (qm_x_push) ?_
  refine qm_G.s1 rfl (qm_x_aload rfl) ?_
  refine qm_G.call rfl rfl rfl ?_
  refine qm_C.go (cd := qm_P13) (lv := [(0, qm_R (some (1, 5, 0)))]) rfl rfl ?_
  refine qm_G.s1 rfl (qm_x_aload rfl) ?_
  refine qm_G.s1 rfl (qm_x_getgI (v := 0) rfl rfl) ?_
  refine qm_G.ret rfl rfl ⟨_, rfl, ?_⟩
  refine qm_G.s1 rfl (qm_x_iald1 (v := 1) rfl rfl (by decide) (by decide) rfl) ?_
  refine qm_G.s1 rfl (qm_x_tsw (t := 56) rfl) ?_
  refine qm_G.sp (lv1 := [(0, qm_R (some (0, 0, 0))), (2, qm_I (qm_i v))]) rfl rfl (qm_x_aload rfl) ?_
  refine qm_G.s1 rfl (qm_x_pushI 0 rfl) ?_
  refine qm_G.s1 rfl (qm_x_iload rfl) ?_
  refine qm_G.cm rfl rfl (hS 0 rfl) rfl ?_
  refine qm_C.go (cd := qm_P118) (lv := [(0, qm_R (some (0, 0, 0))), (1, qm_I (qm_i 0)), (2, qm_I (qm_i v))]) rfl rfl ?_
  refine qm_G.s1 rfl (qm_x_iload rfl) ?_
  refine qm_G.cs rfl rfl rfl ?_
  refine qm_C.go (cd := qm_P18) (lv := [(0, qm_I (qm_i 0))]) rfl rfl ?_
  refine qm_G.s1 rfl (qm_x_iload rfl) ?_
  refine qm_G.s1 rfl (qm_x_if_eq_t ⟨by decide, by decide⟩ (by decide)) ?_
  refine qm_G.sp (lv1 := []) rfl rfl (qm_x_pushI 1 rfl) ?_
  refine qm_G.s1 rfl (qm_x_goto) ?_
  refine qm_G.ret rfl rfl ⟨_, rfl, ?_⟩
  refine qm_G.s1 rfl (qm_x_if_ne_t ⟨by decide, by decide⟩ (by decide)) ?_
  refine qm_G.sp (lv1 := [(0, qm_R (some (0, 0, 0))), (1, qm_I (qm_i 0)), (2, qm_I (qm_i v))]) rfl rfl (qm_x_iload rfl) ?_
  refine qm_G.cs rfl rfl rfl ?_
  refine qm_C.go (cd := qm_P74) (lv := [(0, qm_I (qm_i v))]) rfl rfl ?_
  refine qm_G.s1 rfl (qm_x_iload rfl) ?_
  refine qm_G.s1 rfl (qm_x_pushI 0 rfl) ?_
  refine qm_G.s1 rfl (qm_x_pushI 6 rfl) ?_
  refine qm_G.cs rfl rfl rfl ?_
  refine qm_v_within10 ⟨by omega, by omega⟩ ⟨by decide, by decide⟩ ⟨by decide, by decide⟩ (fun c1 => ⟨_, rfl, ?_⟩) (fun c1 => ⟨_, rfl, ?_⟩)
  · refine qm_G.ret rfl rfl ⟨_, rfl, ?_⟩
    refine qm_G.s1 rfl (qm_x_if_ne_t ⟨by decide, by decide⟩ (by decide)) ?_
    refine qm_G.sp (lv1 := [(0, qm_R (some (0, 0, 0))), (1, qm_I (qm_i 0)), (2, qm_I (qm_i v))]) rfl rfl (qm_x_aload rfl) ?_
    refine qm_G.s1 rfl (qm_x_getfR (q := (some (0, 1, 0))) (hS 0 rfl) (hR 0 0 1 rfl rfl)) ?_
    refine qm_G.s1 rfl (qm_x_getfR (q := (some (0, 9, 0))) (hS 1 rfl) (hR 1 1 9 rfl rfl)) ?_
    refine qm_G.s1 rfl (qm_x_getfR (q := (some (0, 10, 0))) (hS 9 rfl) (hR 9 0 10 rfl rfl)) ?_
    refine qm_G.s1 rfl (qm_x_iload rfl) ?_
    refine qm_G.s1 rfl (qm_x_iald (v := (m 8)) (qm_arS hS rfl rfl) rfl (by decide) (by decide) (by decide) e8) ?_
    refine qm_G.s1 rfl (qm_x_istore (lv' := [(3, qm_I (qm_i (m 8))), (0, qm_R (some (0, 0, 0))), (1, qm_I (qm_i 0)), (2, qm_I (qm_i v))]) rfl) ?_
    refine qm_G.s1 rfl (qm_x_aload rfl) ?_
    refine qm_G.s1 rfl (qm_x_getfR (q := (some (0, 1, 0))) (hS 0 rfl) (hR 0 0 1 rfl rfl)) ?_
    refine qm_G.s1 rfl (qm_x_getfR (q := (some (0, 9, 0))) (hS 1 rfl) (hR 1 1 9 rfl rfl)) ?_
    refine qm_G.s1 rfl (qm_x_getfR (q := (some (0, 10, 0))) (hS 9 rfl) (hR 9 0 10 rfl rfl)) ?_
    refine qm_G.s1 rfl (qm_x_iload rfl) ?_
    refine qm_G.s1 rfl (qm_x_iload rfl) ?_
    refine qm_G.s1 rfl (qm_x_iast (qm_arS hS rfl rfl) rfl (by decide) (by decide) (by decide)) ?_
    refine qm_G.s1 rfl (qm_x_iload rfl) ?_
    refine qm_G.ret rfl rfl ⟨_, rfl, ?_⟩
    refine qm_G.cs rfl rfl rfl ?_
    refine qm_C.go (cd := qm_P20) (lv := [(0, qm_I (qm_i (m 8)))]) rfl rfl ?_
    refine qm_G.s1 rfl (qm_x_iload rfl) ?_
    refine qm_G.s1 rfl (qm_x_if_lt_f ⟨by omega, by omega⟩ (by omega)) ?_
    refine qm_G.s1 rfl (qm_x_pushI 1 rfl) ?_
    refine qm_G.s1 rfl (qm_x_goto) ?_
    refine qm_G.ret rfl rfl ⟨_, rfl, ?_⟩
    rw [show qm_do 0 v (m, a, b) = ((qm_up m 8 v, a, b), 1) from if_pos ⟨by omega, by omega⟩] at k
    exact qm_G.ret rfl rfl (k _ _ (fun r s i a b c d => qm_st_ne (by omega)) (fun r s i a => rfl) ⟨((qm_st_ne (by omega)).trans (e0)), ((qm_st_ne (by omega)).trans (e1)), ((qm_st_ne (by omega)).trans (e5)), ((qm_st_ne (by omega)).trans (e6)), (qm_st_eq), ((qm_st_ne (by omega)).trans (e9)), ((qm_st_ne (by omega)).trans (e10)), ((qm_st_ne (by omega)).trans (e11)), (ea), (eb)⟩)
  · refine qm_G.ret rfl rfl ⟨_, rfl, ?_⟩
    refine qm_G.s1 rfl (qm_x_if_ne_f ⟨by decide, by decide⟩ (by decide)) ?_
    refine qm_G.s1 rfl (qm_x_pushI (-2) rfl) ?_
    refine qm_G.ret rfl rfl ⟨_, rfl, ?_⟩
    refine qm_G.cs rfl rfl rfl ?_
    refine qm_C.go (cd := qm_P20) (lv := [(0, qm_I (qm_i (-2)))]) rfl rfl ?_
    refine qm_G.s1 rfl (qm_x_iload rfl) ?_
    refine qm_G.s1 rfl (qm_x_if_lt_t ⟨by decide, by decide⟩ (by decide)) ?_
    refine qm_G.sp (lv1 := []) rfl rfl (qm_x_pushI 0 rfl) ?_
    refine qm_G.ret rfl rfl ⟨_, rfl, ?_⟩
    rw [show qm_do 0 v (m, a, b) = ((m, a, b), 0) from if_neg (by omega)] at k
    exact qm_G.ret rfl rfl (k _ _ (fun r s i a b c d => rfl) (fun r s i a => rfl) ⟨(e0), (e1), (e5), (e6), (e8), (e9), (e10), (e11), (ea), (eb)⟩)
theorem qm_d_do1 {S : List qm_Sh} {J K : qm_J} {L : qm_Ct Int64} {D : qm_Ct UInt64} {R : qm_Ct (Option qm_Rf)} {X : Nat × (Nat → Int32)} {Q : Option qm_V → qm_Hp → Prop} {m : Nat → Int} {a b : UInt64} {v : Int} {c : Nat} (hS : qm_Sd S) (hR : qm_Rd R) (hC : qm_Cl J D (m, a, b)) (hr : qm_Rg c (m, a, b)) (hc : c ≤ 900) (rv : 0 ≤ v ∧ v ≤ 9999) (k : ∀ (J1 : qm_J) (D1 : qm_Ct UInt64), qm_Cf J J1 → qm_Df D D1 → qm_Cl J1 D1 (qm_do 1 v (m, a, b)).1 → Q (some (qm_I (qm_i (qm_do 1 v (m, a, b)).2))) (qm_H S J1 K L D1 R X)) : qm_C qm_P 173 [qm_R (some (0, 0, 0)), qm_R (some (1, 6, 0)), qm_I (qm_i v)] (qm_H S J K L D R X) Q := by
  have e0 : J 3 0 0 = m 0 := hC.1
  have e1 : J 3 0 1 = m 1 := hC.2.1
  have e5 : J 3 0 5 = m 5 := hC.2.2.1
  have e6 : J 2 0 5 = m 6 := hC.2.2.2.1
  have e8 : J 10 0 0 = m 8 := hC.2.2.2.2.1
  have e9 : J 10 0 1 = m 9 := hC.2.2.2.2.2.1
  have e10 : J 9 0 1 = m 10 := hC.2.2.2.2.2.2.1
  have e11 : J 9 0 2 = m 11 := hC.2.2.2.2.2.2.2.1
  have ea : D 9 0 3 = a := hC.2.2.2.2.2.2.2.2.1
  have eb : D 9 0 4 = b := hC.2.2.2.2.2.2.2.2.2
  have r0 : 100 ≤ m 0 ∧ m 0 ≤ 9999 := hr.1
  have r1 : 1 ≤ m 1 ∧ m 1 ≤ 8 := hr.2.1
  have r5 : 1 ≤ m 5 ∧ m 5 ≤ 1000000 := hr.2.2.1
  have r6 : 0 ≤ m 6 ∧ m 6 ≤ 2 := hr.2.2.2.1
  have r8 : 0 ≤ m 8 ∧ m 8 ≤ 6 := hr.2.2.2.2.1
  have r9 : 0 ≤ m 9 ∧ m 9 ≤ 6 := hr.2.2.2.2.2.1
  have r10 : -8 ≤ m 10 ∧ m 10 ≤ 8 := hr.2.2.2.2.2.2.1
  have r11 : -2147483648 ≤ m 11 ∧ m 11 ≤ 2147483647 := hr.2.2.2.2.2.2.2.1
  have hm9 : qm_Mid a := hr.2.2.2.2.2.2.2.2.1
  have hs9 : qm_Spr c b := hr.2.2.2.2.2.2.2.2.2
  refine qm_C.go (cd := qm_P173) (lv := [(0, qm_R (some (0, 0, 0))), (1, qm_R (some (1, 6, 0))), (2, qm_I (qm_i v))]) rfl rfl ?_
  refine qm_G.s1 rfl (qm_x_aload rfl) ?_
  refine qm_G.s1 rfl (qm_x_ifnonnull1) ?_
  refine qm_G.sp (lv1 := [(0, qm_R (some (0, 0, 0))), (1, qm_R (some (1, 6, 0))), (2, qm_I (qm_i v))]) rfl rfl (qm_x_push) ?_
  refine qm_G.s1 rfl (qm_x_aload rfl) ?_
  refine qm_G.call rfl rfl rfl ?_
  refine qm_C.go (cd := qm_P13) (lv := [(0, qm_R (some (1, 6, 0)))]) rfl rfl ?_
  refine qm_G.s1 rfl (qm_x_aload rfl) ?_
  refine qm_G.s1 rfl (qm_x_getgI (v := 1) rfl rfl) ?_
  refine qm_G.ret rfl rfl ⟨_, rfl, ?_⟩
  refine qm_G.s1 rfl (qm_x_iald1 (v := 2) rfl rfl (by decide) (by decide) rfl) ?_
  refine qm_G.s1 rfl (qm_x_tsw (t := 66) rfl) ?_
  refine qm_G.sp (lv1 := [(0, qm_R (some (0, 0, 0))), (2, qm_I (qm_i v))]) rfl rfl (qm_x_aload rfl) ?_
  refine qm_G.s1 rfl (qm_x_pushI 1 rfl) ?_
  refine qm_G.s1 rfl (qm_x_iload rfl) ?_
  refine qm_G.cm rfl rfl (hS 0 rfl) rfl ?_
  refine qm_C.go (cd := qm_P118) (lv := [(0, qm_R (some (0, 0, 0))), (1, qm_I (qm_i 1)), (2, qm_I (qm_i v))]) rfl rfl ?_
  refine qm_G.s1 rfl (qm_x_iload rfl) ?_
  refine qm_G.cs rfl rfl rfl ?_
  refine qm_C.go (cd := qm_P18) (lv := [(0, qm_I (qm_i 1))]) rfl rfl ?_
  refine qm_G.s1 rfl (qm_x_iload rfl) ?_
  refine qm_G.s1 rfl (qm_x_if_eq_f ⟨by decide, by decide⟩ (by decide)) ?_
  refine qm_G.s1 rfl (qm_x_iload rfl) ?_
  refine qm_G.s1 rfl (qm_x_pushI 1 rfl) ?_
  refine qm_G.s1 rfl (qm_x_icmp_ne_f ⟨by decide, by decide⟩ ⟨by decide, by decide⟩ (by decide)) ?_
  refine qm_G.sp (lv1 := []) rfl rfl (qm_x_pushI 1 rfl) ?_
  refine qm_G.s1 rfl (qm_x_goto) ?_
  refine qm_G.ret rfl rfl ⟨_, rfl, ?_⟩
  refine qm_G.s1 rfl (qm_x_if_ne_t ⟨by decide, by decide⟩ (by decide)) ?_
  refine qm_G.sp (lv1 := [(0, qm_R (some (0, 0, 0))), (1, qm_I (qm_i 1)), (2, qm_I (qm_i v))]) rfl rfl (qm_x_iload rfl) ?_
  refine qm_G.cs rfl rfl rfl ?_
  refine qm_C.go (cd := qm_P74) (lv := [(0, qm_I (qm_i v))]) rfl rfl ?_
  refine qm_G.s1 rfl (qm_x_iload rfl) ?_
  refine qm_G.s1 rfl (qm_x_pushI 0 rfl) ?_
  refine qm_G.s1 rfl (qm_x_pushI 6 rfl) ?_
  refine qm_G.cs rfl rfl rfl ?_
  refine qm_v_within10 ⟨by omega, by omega⟩ ⟨by decide, by decide⟩ ⟨by decide, by decide⟩ (fun c1 => ⟨_, rfl, ?_⟩) (fun c1 => ⟨_, rfl, ?_⟩)
  · refine qm_G.ret rfl rfl ⟨_, rfl, ?_⟩
    refine qm_G.s1 rfl (qm_x_if_ne_t ⟨by decide, by decide⟩ (by decide)) ?_
    refine qm_G.sp (lv1 := [(0, qm_R (some (0, 0, 0))), (1, qm_I (qm_i 1)), (2, qm_I (qm_i v))]) rfl rfl (qm_x_aload rfl) ?_
    refine qm_G.s1 rfl (qm_x_getfR (q := (some (0, 1, 0))) (hS 0 rfl) (hR 0 0 1 rfl rfl)) ?_
    refine qm_G.s1 rfl (qm_x_getfR (q := (some (0, 9, 0))) (hS 1 rfl) (hR 1 1 9 rfl rfl)) ?_
    refine qm_G.s1 rfl (qm_x_getfR (q := (some (0, 10, 0))) (hS 9 rfl) (hR 9 0 10 rfl rfl)) ?_
    refine qm_G.s1 rfl (qm_x_iload rfl) ?_
    refine qm_G.s1 rfl (qm_x_iald (v := (m 9)) (qm_arS hS rfl rfl) rfl (by decide) (by decide) (by decide) e9) ?_
    refine qm_G.s1 rfl (qm_x_istore (lv' := [(3, qm_I (qm_i (m 9))), (0, qm_R (some (0, 0, 0))), (1, qm_I (qm_i 1)), (2, qm_I (qm_i v))]) rfl) ?_
    refine qm_G.s1 rfl (qm_x_aload rfl) ?_
    refine qm_G.s1 rfl (qm_x_getfR (q := (some (0, 1, 0))) (hS 0 rfl) (hR 0 0 1 rfl rfl)) ?_
    refine qm_G.s1 rfl (qm_x_getfR (q := (some (0, 9, 0))) (hS 1 rfl) (hR 1 1 9 rfl rfl)) ?_
    refine qm_G.s1 rfl (qm_x_getfR (q := (some (0, 10, 0))) (hS 9 rfl) (hR 9 0 10 rfl rfl)) ?_
    refine qm_G.s1 rfl (qm_x_iload rfl) ?_
    refine qm_G.s1 rfl (qm_x_iload rfl) ?_
    refine qm_G.s1 rfl (qm_x_iast (qm_arS hS rfl rfl) rfl (by decide) (by decide) (by decide)) ?_
    refine qm_G.s1 rfl (qm_x_iload rfl) ?_
    refine qm_G.ret rfl rfl ⟨_, rfl, ?_⟩
    refine qm_G.cs rfl rfl rfl ?_
    refine qm_C.go (cd := qm_P20) (lv := [(0, qm_I (qm_i (m 9)))]) rfl rfl ?_
    refine qm_G.s1 rfl (qm_x_iload rfl) ?_
    refine qm_G.s1 rfl (qm_x_if_lt_f ⟨by omega, by omega⟩ (by omega)) ?_
    refine qm_G.s1 rfl (qm_x_pushI 1 rfl) ?_
    refine qm_G.s1 rfl (qm_x_goto) ?_
    refine qm_G.ret rfl rfl ⟨_, rfl, ?_⟩
    rw [show qm_do 1 v (m, a, b) = ((qm_up m 9 v, a, b), 1) from if_pos ⟨by omega, by omega⟩] at k
    exact qm_G.ret rfl rfl (k _ _ (fun r s i a b c d => qm_st_ne (by omega)) (fun r s i a => rfl) ⟨((qm_st_ne (by omega)).trans (e0)), ((qm_st_ne (by omega)).trans (e1)), ((qm_st_ne (by omega)).trans (e5)), ((qm_st_ne (by omega)).trans (e6)), ((qm_st_ne (by omega)).trans (e8)), (qm_st_eq), ((qm_st_ne (by omega)).trans (e10)), ((qm_st_ne (by omega)).trans (e11)), (ea), (eb)⟩)
  · refine qm_G.ret rfl rfl ⟨_, rfl, ?_⟩
    refine qm_G.s1 rfl (qm_x_if_ne_f ⟨by decide, by decide⟩ (by decide)) ?_
    refine qm_G.s1 rfl (qm_x_pushI (-2) rfl) ?_
    refine qm_G.ret rfl rfl ⟨_, rfl, ?_⟩
    refine qm_G.cs rfl rfl rfl ?_
    refine qm_C.go (cd := qm_P20) (lv := [(0, qm_I (qm_i (-2)))]) rfl rfl ?_
    refine qm_G.s1 rfl (qm_x_iload rfl) ?_
    refine qm_G.s1 rfl (qm_x_if_lt_t ⟨by decide, by decide⟩ (by decide)) ?_
    refine qm_G.sp (lv1 := []) rfl rfl (qm_x_pushI 0 rfl) ?_
    refine qm_G.ret rfl rfl ⟨_, rfl, ?_⟩
    rw [show qm_do 1 v (m, a, b) = ((m, a, b), 0) from if_neg (by omega)] at k
    exact qm_G.ret rfl rfl (k _ _ (fun r s i a b c d => rfl) (fun r s i a => rfl) ⟨(e0), (e1), (e5), (e6), (e8), (e9), (e10), (e11), (ea), (eb)⟩)
theorem qm_d_do2 {S : List qm_Sh} {J K : qm_J} {L : qm_Ct Int64} {D : qm_Ct UInt64} {R : qm_Ct (Option qm_Rf)} {X : Nat × (Nat → Int32)} {Q : Option qm_V → qm_Hp → Prop} {m : Nat → Int} {a b : UInt64} {v : Int} {c : Nat} (hS : qm_Sd S) (hR : qm_Rd R) (hC : qm_Cl J D (m, a, b)) (hr : qm_Rg c (m, a, b)) (hc : c ≤ 900) (rv : 0 ≤ v ∧ v ≤ 9999) (k : ∀ (J1 : qm_J) (D1 : qm_Ct UInt64), qm_Cf J J1 → qm_Df D D1 → qm_Cl J1 D1 (qm_do 2 v (m, a, b)).1 → Q (some (qm_I (qm_i (qm_do 2 v (m, a, b)).2))) (qm_H S J1 K L D1 R X)) : qm_C qm_P 173 [qm_R (some (0, 0, 0)), qm_R (some (1, 7, 0)), qm_I (qm_i v)] (qm_H S J K L D R X) Q := by
  have e0 : J 3 0 0 = m 0 := hC.1
  have e1 : J 3 0 1 = m 1 := hC.2.1
  have e5 : J 3 0 5 = m 5 := hC.2.2.1
  have e6 : J 2 0 5 = m 6 := hC.2.2.2.1
  have e8 : J 10 0 0 = m 8 := hC.2.2.2.2.1
  have e9 : J 10 0 1 = m 9 := hC.2.2.2.2.2.1
  have e10 : J 9 0 1 = m 10 := hC.2.2.2.2.2.2.1
  have e11 : J 9 0 2 = m 11 := hC.2.2.2.2.2.2.2.1
  have ea : D 9 0 3 = a := hC.2.2.2.2.2.2.2.2.1
  have eb : D 9 0 4 = b := hC.2.2.2.2.2.2.2.2.2
  have r0 : 100 ≤ m 0 ∧ m 0 ≤ 9999 := hr.1
  have r1 : 1 ≤ m 1 ∧ m 1 ≤ 8 := hr.2.1
  have r5 : 1 ≤ m 5 ∧ m 5 ≤ 1000000 := hr.2.2.1
  have r6 : 0 ≤ m 6 ∧ m 6 ≤ 2 := hr.2.2.2.1
  have r8 : 0 ≤ m 8 ∧ m 8 ≤ 6 := hr.2.2.2.2.1
  have r9 : 0 ≤ m 9 ∧ m 9 ≤ 6 := hr.2.2.2.2.2.1
  have r10 : -8 ≤ m 10 ∧ m 10 ≤ 8 := hr.2.2.2.2.2.2.1
  have r11 : -2147483648 ≤ m 11 ∧ m 11 ≤ 2147483647 := hr.2.2.2.2.2.2.2.1
  have hm9 : qm_Mid a := hr.2.2.2.2.2.2.2.2.1
  have hs9 : qm_Spr c b := hr.2.2.2.2.2.2.2.2.2
  obtain ⟨P9, eP9⟩ : ∃ P : Int, P = m 0 - m 8 := ⟨_, rfl⟩
  obtain ⟨W9, eW9⟩ : ∃ W : Int, W = P9 * m 5 := ⟨_, rfl⟩
  have hW9 : 0 ≤ W9 ∧ W9 ≤ 10005000000 := by rw [eW9]; exact qm_W9 (by omega) r5
  obtain ⟨t1, t2, t3, t4, t5, t6, t7, t8, t9⟩ := qm_trn (P := P9) ⟨by omega, by omega⟩ hc hm9 hs9
  have eD : qm_do 2 v (m, a, b) = qm_dlw m a b (m 10 + 1) P9 W9 (m 11 - W9) (m 8) := by rw [eW9, eP9]; rfl
  rw [eD] at k
  refine qm_C.go (cd := qm_P173) (lv := [(0, qm_R (some (0, 0, 0))), (1, qm_R (some (1, 7, 0))), (2, qm_I (qm_i v))]) rfl rfl ?_
  refine qm_G.s1 rfl (qm_x_aload rfl) ?_
  refine qm_G.s1 rfl (qm_x_ifnonnull1) ?_
  refine qm_G.sp (lv1 := [(0, qm_R (some (0, 0, 0))), (1, qm_R (some (1, 7, 0))), (2, qm_I (qm_i v))]) rfl rfl (qm_x_push) ?_
  refine qm_G.s1 rfl (qm_x_aload rfl) ?_
  refine qm_G.call rfl rfl rfl ?_
  refine qm_C.go (cd := qm_P13) (lv := [(0, qm_R (some (1, 7, 0)))]) rfl rfl ?_
  refine qm_G.s1 rfl (qm_x_aload rfl) ?_
  refine qm_G.s1 rfl (qm_x_getgI (v := 2) rfl rfl) ?_
  refine qm_G.ret rfl rfl ⟨_, rfl, ?_⟩
  refine qm_G.s1 rfl (qm_x_iald1 (v := 3) rfl rfl (by decide) (by decide) rfl) ?_
  refine qm_G.s1 rfl (qm_x_tsw (t := 76) rfl) ?_
  refine qm_G.sp (lv1 := [(0, qm_R (some (0, 0, 0)))]) rfl rfl (qm_x_aload rfl) ?_
  refine qm_G.s1 rfl (qm_x_pushI 0 rfl) ?_
  refine qm_G.cm rfl rfl (hS 0 rfl) rfl ?_
  refine qm_C.go (cd := qm_P155) (lv := [(0, qm_R (some (0, 0, 0))), (1, qm_I (qm_i 0))]) rfl rfl ?_
  refine qm_G.s1 rfl (qm_x_iload rfl) ?_
  refine qm_G.cs rfl rfl rfl ?_
  refine qm_C.go (cd := qm_P18) (lv := [(0, qm_I (qm_i 0))]) rfl rfl ?_
  refine qm_G.s1 rfl (qm_x_iload rfl) ?_
  refine qm_G.s1 rfl (qm_x_if_eq_t ⟨by decide, by decide⟩ (by decide)) ?_
  refine qm_G.sp (lv1 := []) rfl rfl (qm_x_pushI 1 rfl) ?_
  refine qm_G.s1 rfl (qm_x_goto) ?_
  refine qm_G.ret rfl rfl ⟨_, rfl, ?_⟩
  refine qm_G.s1 rfl (qm_x_if_ne_t ⟨by decide, by decide⟩ (by decide)) ?_
  rcases (show W9 ≤ 2147483647 ∨ 2147483648 ≤ W9 by omega) with cw | cw
  · rcases (show (-2147483648 ≤ m 11 - W9 ∧ m 11 - W9 ≤ 2147483647) ∨ m 11 - W9 < -2147483648 ∨ 2147483647 < m 11 - W9 by omega) with cc | cc | cc
    · refine qm_G.sp (lv1 := [(0, qm_R (some (0, 0, 0))), (1, qm_I (qm_i 0))]) rfl rfl (qm_x_aload rfl) ?_
      refine qm_G.s1 rfl (qm_x_getfR (q := (some (0, 1, 0))) (hS 0 rfl) (hR 0 0 1 rfl rfl)) ?_
      refine qm_G.s1 rfl (qm_x_getfR (q := (some (0, 2, 0))) (hS 1 rfl) (hR 1 0 2 rfl rfl)) ?_
      refine qm_G.s1 rfl (qm_x_getfR (q := (some (0, 3, 0))) (hS 2 rfl) (hR 2 0 3 rfl rfl)) ?_
      refine qm_G.s1 rfl (qm_x_astore (lv' := [(2, qm_R (some (0, 3, 0))), (0, qm_R (some (0, 0, 0))), (1, qm_I (qm_i 0))]) rfl) ?_
      refine qm_G.s1 rfl (qm_x_aload rfl) ?_
      refine qm_G.s1 rfl (qm_x_getfR (q := (some (0, 1, 0))) (hS 0 rfl) (hR 0 0 1 rfl rfl)) ?_
      refine qm_G.s1 rfl (qm_x_getfR (q := (some (0, 9, 0))) (hS 1 rfl) (hR 1 1 9 rfl rfl)) ?_
      refine qm_G.s1 rfl (qm_x_iload rfl) ?_
      refine qm_G.s1 rfl (qm_x_aload rfl) ?_
      refine qm_G.s1 rfl (qm_x_pushI 0 rfl) ?_
      refine qm_G.s1 rfl (qm_x_iald (v := (m 0)) (qm_arS hS rfl rfl) rfl (by decide) (by decide) (by decide) e0) ?_
      refine qm_G.s1 rfl (qm_x_aload rfl) ?_
      refine qm_G.s1 rfl (qm_x_pushI 1 rfl) ?_
      refine qm_G.s1 rfl (qm_x_iald (v := (m 1)) (qm_arS hS rfl rfl) rfl (by decide) (by decide) (by decide) e1) ?_
      refine qm_G.s1 rfl (qm_x_aload rfl) ?_
      refine qm_G.s1 rfl (qm_x_pushI 5 rfl) ?_
      refine qm_G.s1 rfl (qm_x_iald (v := (m 5)) (qm_arS hS rfl rfl) rfl (by decide) (by decide) (by decide) e5) ?_
      refine qm_G.cm rfl rfl (hS 9 rfl) rfl ?_
      refine qm_C.go (cd := qm_P96) (lv := [(0, qm_R (some (0, 9, 0))), (1, qm_I (qm_i 0)), (2, qm_I (qm_i (m 0))), (3, qm_I (qm_i (m 1))), (4, qm_I (qm_i (m 5)))]) rfl rfl ?_
      refine qm_G.s1 rfl (qm_x_iload rfl) ?_
      refine qm_G.s1 rfl (qm_x_if_ne_f ⟨by decide, by decide⟩ (by decide)) ?_
      refine qm_G.s1 rfl (qm_x_aload rfl) ?_
      refine qm_G.s1 rfl (qm_x_getfI (v := (m 10)) (hS 9 rfl) e10) ?_
      refine qm_G.s1 rfl (qm_x_pushI 1 rfl) ?_
      refine qm_G.s1 rfl (qm_x_iadd) ?_
      refine qm_G.s1 rfl (qm_x_goto) ?_
      refine qm_G.sp (lv1 := [(0, qm_R (some (0, 9, 0))), (1, qm_I (qm_i 0)), (2, qm_I (qm_i (m 0))), (3, qm_I (qm_i (m 1))), (4, qm_I (qm_i (m 5)))]) rfl rfl (qm_x_istore (lv' := [(5, qm_I (qm_i ((m 10) + 1))), (0, qm_R (some (0, 9, 0))), (1, qm_I (qm_i 0)), (2, qm_I (qm_i (m 0))), (3, qm_I (qm_i (m 1))), (4, qm_I (qm_i (m 5)))]) rfl) ?_
      refine qm_G.s1 rfl (qm_x_aload rfl) ?_
      refine qm_G.s1 rfl (qm_x_getfR (q := (some (0, 10, 0))) (hS 9 rfl) (hR 9 0 10 rfl rfl)) ?_
      refine qm_G.s1 rfl (qm_x_iload rfl) ?_
      refine qm_G.s1 rfl (qm_x_iald (v := (m 8)) (qm_arS hS rfl rfl) rfl (by decide) (by decide) (by decide) e8) ?_
      refine qm_G.s1 rfl (qm_x_pushI 6 rfl) ?_
      refine qm_y_icmp_eq rfl ⟨by omega, by omega⟩ ⟨by decide, by decide⟩ (fun c1 => ?_) (fun c1 => ?_)
      · refine qm_G.sp (lv1 := []) rfl rfl (qm_x_pushI (-3) rfl) ?_
        refine qm_G.ret rfl rfl ⟨_, rfl, ?_⟩
        refine qm_G.ret rfl rfl ⟨_, rfl, ?_⟩
        refine qm_G.cs rfl rfl rfl ?_
        refine qm_C.go (cd := qm_P20) (lv := [(0, qm_I (qm_i (-3)))]) rfl rfl ?_
        refine qm_G.s1 rfl (qm_x_iload rfl) ?_
        refine qm_G.s1 rfl (qm_x_if_lt_t ⟨by decide, by decide⟩ (by decide)) ?_
        refine qm_G.sp (lv1 := []) rfl rfl (qm_x_pushI 0 rfl) ?_
        refine qm_G.ret rfl rfl ⟨_, rfl, ?_⟩
        rw [show qm_dlw m a b (m 10 + 1) P9 W9 (m 11 - W9) (m 8) = ((m, a, b), 0) from if_pos (by omega)] at k
        exact qm_G.ret rfl rfl (k _ _ (fun r s i a b c d => rfl) (fun r s i a => rfl) ⟨(e0), (e1), (e5), (e6), (e8), (e9), (e10), (e11), (ea), (eb)⟩)
      · refine qm_G.s1 rfl (qm_x_iload rfl) ?_
        refine qm_G.s1 rfl (qm_x_iload rfl) ?_
        refine qm_G.s1 rfl (qm_x_ineg) ?_
        refine qm_G.s1 rfl (qm_x_iload rfl) ?_
        refine qm_G.cs rfl rfl rfl ?_
        refine qm_v_within10 ⟨by omega, by omega⟩ ⟨by omega, by omega⟩ ⟨by omega, by omega⟩ (fun c2 => ⟨_, rfl, ?_⟩) (fun c2 => ⟨_, rfl, ?_⟩)
        · refine qm_G.s1 rfl (qm_x_if_ne_t ⟨by decide, by decide⟩ (by decide)) ?_
          refine qm_G.sp (lv1 := [(0, qm_R (some (0, 9, 0))), (1, qm_I (qm_i 0)), (2, qm_I (qm_i (m 0))), (4, qm_I (qm_i (m 5))), (5, qm_I (qm_i ((m 10) + 1)))]) rfl rfl (qm_x_iload rfl) ?_
          refine qm_G.s1 rfl (qm_x_if_ne_f ⟨by decide, by decide⟩ (by decide)) ?_
          refine qm_G.s1 rfl (qm_x_iload rfl) ?_
          refine qm_G.s1 rfl (qm_x_aload rfl) ?_
          refine qm_G.s1 rfl (qm_x_getfR (q := (some (0, 10, 0))) (hS 9 rfl) (hR 9 0 10 rfl rfl)) ?_
          refine qm_G.s1 rfl (qm_x_pushI 0 rfl) ?_
          refine qm_G.s1 rfl (qm_x_iald (v := (m 8)) (qm_arS hS rfl rfl) rfl (by decide) (by decide) (by decide) e8) ?_
          refine qm_G.s1 rfl (qm_x_isub) ?_
          refine qm_G.s1 rfl (qm_x_goto) ?_
          refine qm_G.sp (lv1 := [(0, qm_R (some (0, 9, 0))), (1, qm_I (qm_i 0)), (4, qm_I (qm_i (m 5))), (5, qm_I (qm_i ((m 10) + 1)))]) rfl rfl (qm_x_istore (lv' := [(6, qm_I (qm_i ((m 0) - (m 8)))), (0, qm_R (some (0, 9, 0))), (1, qm_I (qm_i 0)), (4, qm_I (qm_i (m 5))), (5, qm_I (qm_i ((m 10) + 1)))]) rfl) ?_
          refine qm_G.s1 rfl (qm_x_iload rfl) ?_
          refine qm_G.s1 rfl (qm_x_i2l ⟨by omega, by omega⟩) ?_
          refine qm_G.s1 rfl (qm_x_iload rfl) ?_
          refine qm_G.s1 rfl (qm_x_i2l ⟨by omega, by omega⟩) ?_
          refine qm_G.s1 rfl (qm_x_lmule (w := W9) (by rw [eW9, show ((m 0) - (m 8)) = P9 by omega, show (m 5) = m 5 by omega])) ?_
          refine qm_G.s1 rfl (qm_x_lstore (lv' := [(7, qm_L (qm_l W9)), (6, qm_I (qm_i ((m 0) - (m 8)))), (0, qm_R (some (0, 9, 0))), (1, qm_I (qm_i 0)), (4, qm_I (qm_i (m 5))), (5, qm_I (qm_i ((m 10) + 1)))]) rfl) ?_
          refine qm_G.s1 rfl (qm_x_iload rfl) ?_
          refine qm_G.s1 rfl (qm_x_if_ne_f ⟨by decide, by decide⟩ (by decide)) ?_
          refine qm_G.s1 rfl (qm_x_aload rfl) ?_
          refine qm_G.s1 rfl (qm_x_getfI (v := (m 11)) (hS 9 rfl) e11) ?_
          refine qm_G.s1 rfl (qm_x_i2l ⟨by omega, by omega⟩) ?_
          refine qm_G.s1 rfl (qm_x_lload rfl) ?_
          refine qm_G.s1 rfl (qm_x_lsubz) ?_
          refine qm_G.s1 rfl (qm_x_goto) ?_
          refine qm_G.sp (lv1 := [(0, qm_R (some (0, 9, 0))), (5, qm_I (qm_i ((m 10) + 1))), (6, qm_I (qm_i ((m 0) - (m 8)))), (7, qm_L (qm_l W9))]) rfl rfl (qm_x_lstore (lv' := [(9, qm_L (qm_l ((m 11) - W9))), (0, qm_R (some (0, 9, 0))), (5, qm_I (qm_i ((m 10) + 1))), (6, qm_I (qm_i ((m 0) - (m 8)))), (7, qm_L (qm_l W9))]) rfl) ?_
          refine qm_G.s1 rfl (qm_x_lload rfl) ?_
          refine qm_G.cs rfl rfl rfl ?_
          refine qm_C.go (cd := qm_P51) (lv := [(0, qm_L (qm_l W9))]) rfl rfl ?_
          refine qm_G.s1 rfl (qm_x_lload rfl) ?_
          refine qm_G.s1 rfl (qm_x_lload rfl) ?_
          refine qm_G.s1 rfl (qm_x_l2i ⟨by omega, by omega⟩) ?_
          refine qm_G.s1 rfl (qm_x_i2l ⟨by omega, by omega⟩) ?_
          refine qm_G.s1 rfl (qm_x_lcmp_eq rfl) ?_
          refine qm_G.s1 rfl (qm_x_if_ne_f ⟨by decide, by decide⟩ (by decide)) ?_
          refine qm_G.s1 rfl (qm_x_pushI 1 rfl) ?_
          refine qm_G.s1 rfl (qm_x_goto) ?_
          refine qm_G.ret rfl rfl ⟨_, rfl, ?_⟩
          refine qm_G.s1 rfl (qm_x_if_eq_f ⟨by decide, by decide⟩ (by decide)) ?_
          refine qm_G.s1 rfl (qm_x_lload rfl) ?_
          refine qm_G.cs rfl rfl rfl ?_
          refine qm_C.go (cd := qm_P51) (lv := [(0, qm_L (qm_l ((m 11) - W9)))]) rfl rfl ?_
          refine qm_G.s1 rfl (qm_x_lload rfl) ?_
          refine qm_G.s1 rfl (qm_x_lload rfl) ?_
          refine qm_G.s1 rfl (qm_x_l2i ⟨by omega, by omega⟩) ?_
          refine qm_G.s1 rfl (qm_x_i2l ⟨by omega, by omega⟩) ?_
          refine qm_G.s1 rfl (qm_x_lcmp_eq rfl) ?_
          refine qm_G.s1 rfl (qm_x_if_ne_f ⟨by decide, by decide⟩ (by decide)) ?_
          refine qm_G.s1 rfl (qm_x_pushI 1 rfl) ?_
          refine qm_G.s1 rfl (qm_x_goto) ?_
          refine qm_G.ret rfl rfl ⟨_, rfl, ?_⟩
          refine qm_G.s1 rfl (qm_x_if_ne_t ⟨by decide, by decide⟩ (by decide)) ?_
          refine qm_G.sp (lv1 := [(0, qm_R (some (0, 9, 0))), (5, qm_I (qm_i ((m 10) + 1))), (6, qm_I (qm_i ((m 0) - (m 8)))), (9, qm_L (qm_l ((m 11) - W9)))]) rfl rfl (qm_x_aload rfl) ?_
          refine qm_G.s1 rfl (qm_x_iload rfl) ?_
          refine qm_G.s1 rfl (qm_x_putfI (hS 9 rfl)) ?_
          refine qm_G.s1 rfl (qm_x_aload rfl) ?_
          refine qm_G.s1 rfl (qm_x_lload rfl) ?_
          refine qm_G.s1 rfl (qm_x_l2i ⟨by omega, by omega⟩) ?_
          refine qm_G.s1 rfl (qm_x_putfI (hS 9 rfl)) ?_
          refine qm_G.s1 rfl (qm_x_aload rfl) ?_
          refine qm_G.s1 rfl (qm_x_iload rfl) ?_
          refine qm_G.s1 rfl (qm_x_i2de (y := P9) (by omega)) ?_
          refine qm_G.cmv rfl rfl (hS 9 rfl) rfl ?_
          refine qm_C.go (cd := qm_P52) (lv := [(0, qm_R (some (0, 9, 0))), (1, qm_D (FP.i2d (qm_i P9)))]) rfl rfl ?_
          refine qm_G.s1 rfl (qm_x_aload rfl) ?_
          refine qm_G.s1 rfl (qm_x_aload rfl) ?_
          refine qm_G.s1 rfl (qm_x_getfD (a := b) (hS 9 rfl) eb) ?_
          refine qm_G.s1 rfl (qm_x_push) ?_
          refine qm_G.s1 rfl (qm_x_dmuls t2) ?_
          refine qm_G.s1 rfl (qm_x_dload rfl) ?_
          refine qm_G.s1 rfl (qm_x_aload rfl) ?_
          refine qm_G.s1 rfl (qm_x_getfD (a := a) (hS 9 rfl) ea) ?_
          refine qm_G.s1 rfl (qm_x_dsubs t1) ?_
          refine qm_G.s1 rfl (qm_x_dload rfl) ?_
          refine qm_G.s1 rfl (qm_x_aload rfl) ?_
          refine qm_G.s1 rfl (qm_x_getfD (a := a) (hS 9 rfl) ea) ?_
          refine qm_G.s1 rfl (qm_x_dsubs t1) ?_
          refine qm_G.s1 rfl (qm_x_dmuls t3) ?_
          refine qm_G.s1 rfl (qm_x_push) ?_
          refine qm_G.s1 rfl (qm_x_dmuls t4) ?_
          refine qm_G.s1 rfl (qm_x_dadds t5) ?_
          refine qm_G.s1 rfl (qm_x_putfD (hS 9 rfl)) ?_
          refine qm_G.s1 rfl (qm_x_aload rfl) ?_
          refine qm_G.s1 rfl (qm_x_aload rfl) ?_
          refine qm_G.s1 rfl (qm_x_getfD (a := a) (hS 9 rfl) ea) ?_
          refine qm_G.s1 rfl (qm_x_dload rfl) ?_
          refine qm_G.s1 rfl (qm_x_aload rfl) ?_
          refine qm_G.s1 rfl (qm_x_getfD (a := a) (hS 9 rfl) ea) ?_
          refine qm_G.s1 rfl (qm_x_dsubs t1) ?_
          refine qm_G.s1 rfl (qm_x_push) ?_
          refine qm_G.s1 rfl (qm_x_dmuls t6) ?_
          refine qm_G.s1 rfl (qm_x_dadds t7) ?_
          refine qm_G.s1 rfl (qm_x_putfD (hS 9 rfl)) ?_
          refine qm_G.retv rfl ⟨rfl, ?_⟩
          refine qm_G.s1 rfl (qm_x_pushI 100 rfl) ?_
          refine qm_G.s1 rfl (qm_x_aload rfl) ?_
          refine qm_G.s1 rfl (qm_x_getfI (v := ((m 10) + 1)) (hS 9 rfl) rfl) ?_
          refine qm_G.s1 rfl (qm_x_iadd) ?_
          refine qm_G.ret rfl rfl ⟨_, rfl, ?_⟩
          refine qm_G.ret rfl rfl ⟨_, rfl, ?_⟩
          refine qm_G.cs rfl rfl rfl ?_
          refine qm_C.go (cd := qm_P20) (lv := [(0, qm_I (qm_i (100 + ((m 10) + 1))))]) rfl rfl ?_
          refine qm_G.s1 rfl (qm_x_iload rfl) ?_
          refine qm_G.s1 rfl (qm_x_if_lt_f ⟨by omega, by omega⟩ (by omega)) ?_
          refine qm_G.s1 rfl (qm_x_pushI 1 rfl) ?_
          refine qm_G.s1 rfl (qm_x_goto) ?_
          refine qm_G.ret rfl rfl ⟨_, rfl, ?_⟩
          rw [show qm_dlw m a b (m 10 + 1) P9 W9 (m 11 - W9) (m 8) = ((qm_up (qm_up m 10 (m 10 + 1)) 11 (m 11 - W9), FP.dadd a (FP.dmul (FP.dsub (FP.i2d (qm_i P9)) a) 4598175219545276416), FP.dadd (FP.dmul b 4604930618986332160) (FP.dmul (FP.dmul (FP.dsub (FP.i2d (qm_i P9)) a) (FP.dsub (FP.i2d (qm_i P9)) a)) 4598175219545276416)), 1) from (if_neg (by omega)).trans (if_neg (fun h => by unfold qm_sm at h; omega))] at k
          rw [show (m 10) + 1 = m 10 + 1 by omega]
          rw [show ((m 11) - W9) = m 11 - W9 by omega]
          exact qm_G.ret rfl rfl (k _ _ (fun r s i a b c d => (qm_st_ne (by omega)).trans (qm_st_ne (by omega))) (fun r s i a => (qm_st_ne (by omega)).trans (qm_st_ne (by omega))) ⟨((qm_st_ne (by omega)).trans ((qm_st_ne (by omega)).trans (e0))), ((qm_st_ne (by omega)).trans ((qm_st_ne (by omega)).trans (e1))), ((qm_st_ne (by omega)).trans ((qm_st_ne (by omega)).trans (e5))), ((qm_st_ne (by omega)).trans ((qm_st_ne (by omega)).trans (e6))), ((qm_st_ne (by omega)).trans ((qm_st_ne (by omega)).trans (e8))), ((qm_st_ne (by omega)).trans ((qm_st_ne (by omega)).trans (e9))), ((qm_st_ne (by omega)).trans (qm_st_eq)), (qm_st_eq), (qm_st_eq), ((qm_st_ne (by omega)).trans (qm_st_eq))⟩)
        · refine qm_G.s1 rfl (qm_x_if_ne_f ⟨by decide, by decide⟩ (by decide)) ?_
          refine qm_G.sp (lv1 := []) rfl rfl (qm_x_pushI (-3) rfl) ?_
          refine qm_G.ret rfl rfl ⟨_, rfl, ?_⟩
          refine qm_G.ret rfl rfl ⟨_, rfl, ?_⟩
          refine qm_G.cs rfl rfl rfl ?_
          refine qm_C.go (cd := qm_P20) (lv := [(0, qm_I (qm_i (-3)))]) rfl rfl ?_
          refine qm_G.s1 rfl (qm_x_iload rfl) ?_
          refine qm_G.s1 rfl (qm_x_if_lt_t ⟨by decide, by decide⟩ (by decide)) ?_
          refine qm_G.sp (lv1 := []) rfl rfl (qm_x_pushI 0 rfl) ?_
          refine qm_G.ret rfl rfl ⟨_, rfl, ?_⟩
          rw [show qm_dlw m a b (m 10 + 1) P9 W9 (m 11 - W9) (m 8) = ((m, a, b), 0) from if_pos (by omega)] at k
          exact qm_G.ret rfl rfl (k _ _ (fun r s i a b c d => rfl) (fun r s i a => rfl) ⟨(e0), (e1), (e5), (e6), (e8), (e9), (e10), (e11), (ea), (eb)⟩)
    · refine qm_G.sp (lv1 := [(0, qm_R (some (0, 0, 0))), (1, qm_I (qm_i 0))]) rfl rfl (qm_x_aload rfl) ?_
      refine qm_G.s1 rfl (qm_x_getfR (q := (some (0, 1, 0))) (hS 0 rfl) (hR 0 0 1 rfl rfl)) ?_
      refine qm_G.s1 rfl (qm_x_getfR (q := (some (0, 2, 0))) (hS 1 rfl) (hR 1 0 2 rfl rfl)) ?_
      refine qm_G.s1 rfl (qm_x_getfR (q := (some (0, 3, 0))) (hS 2 rfl) (hR 2 0 3 rfl rfl)) ?_
      refine qm_G.s1 rfl (qm_x_astore (lv' := [(2, qm_R (some (0, 3, 0))), (0, qm_R (some (0, 0, 0))), (1, qm_I (qm_i 0))]) rfl) ?_
      refine qm_G.s1 rfl (qm_x_aload rfl) ?_
      refine qm_G.s1 rfl (qm_x_getfR (q := (some (0, 1, 0))) (hS 0 rfl) (hR 0 0 1 rfl rfl)) ?_
      refine qm_G.s1 rfl (qm_x_getfR (q := (some (0, 9, 0))) (hS 1 rfl) (hR 1 1 9 rfl rfl)) ?_
      refine qm_G.s1 rfl (qm_x_iload rfl) ?_
      refine qm_G.s1 rfl (qm_x_aload rfl) ?_
      refine qm_G.s1 rfl (qm_x_pushI 0 rfl) ?_
      refine qm_G.s1 rfl (qm_x_iald (v := (m 0)) (qm_arS hS rfl rfl) rfl (by decide) (by decide) (by decide) e0) ?_
      refine qm_G.s1 rfl (qm_x_aload rfl) ?_
      refine qm_G.s1 rfl (qm_x_pushI 1 rfl) ?_
      refine qm_G.s1 rfl (qm_x_iald (v := (m 1)) (qm_arS hS rfl rfl) rfl (by decide) (by decide) (by decide) e1) ?_
      refine qm_G.s1 rfl (qm_x_aload rfl) ?_
      refine qm_G.s1 rfl (qm_x_pushI 5 rfl) ?_
      refine qm_G.s1 rfl (qm_x_iald (v := (m 5)) (qm_arS hS rfl rfl) rfl (by decide) (by decide) (by decide) e5) ?_
      refine qm_G.cm rfl rfl (hS 9 rfl) rfl ?_
      refine qm_C.go (cd := qm_P96) (lv := [(0, qm_R (some (0, 9, 0))), (1, qm_I (qm_i 0)), (2, qm_I (qm_i (m 0))), (3, qm_I (qm_i (m 1))), (4, qm_I (qm_i (m 5)))]) rfl rfl ?_
      refine qm_G.s1 rfl (qm_x_iload rfl) ?_
      refine qm_G.s1 rfl (qm_x_if_ne_f ⟨by decide, by decide⟩ (by decide)) ?_
      refine qm_G.s1 rfl (qm_x_aload rfl) ?_
      refine qm_G.s1 rfl (qm_x_getfI (v := (m 10)) (hS 9 rfl) e10) ?_
      refine qm_G.s1 rfl (qm_x_pushI 1 rfl) ?_
      refine qm_G.s1 rfl (qm_x_iadd) ?_
      refine qm_G.s1 rfl (qm_x_goto) ?_
      refine qm_G.sp (lv1 := [(0, qm_R (some (0, 9, 0))), (1, qm_I (qm_i 0)), (2, qm_I (qm_i (m 0))), (3, qm_I (qm_i (m 1))), (4, qm_I (qm_i (m 5)))]) rfl rfl (qm_x_istore (lv' := [(5, qm_I (qm_i ((m 10) + 1))), (0, qm_R (some (0, 9, 0))), (1, qm_I (qm_i 0)), (2, qm_I (qm_i (m 0))), (3, qm_I (qm_i (m 1))), (4, qm_I (qm_i (m 5)))]) rfl) ?_
      refine qm_G.s1 rfl (qm_x_aload rfl) ?_
      refine qm_G.s1 rfl (qm_x_getfR (q := (some (0, 10, 0))) (hS 9 rfl) (hR 9 0 10 rfl rfl)) ?_
      refine qm_G.s1 rfl (qm_x_iload rfl) ?_
      refine qm_G.s1 rfl (qm_x_iald (v := (m 8)) (qm_arS hS rfl rfl) rfl (by decide) (by decide) (by decide) e8) ?_
      refine qm_G.s1 rfl (qm_x_pushI 6 rfl) ?_
      refine qm_y_icmp_eq rfl ⟨by omega, by omega⟩ ⟨by decide, by decide⟩ (fun c3 => ?_) (fun c3 => ?_)
      · refine qm_G.sp (lv1 := []) rfl rfl (qm_x_pushI (-3) rfl) ?_
        refine qm_G.ret rfl rfl ⟨_, rfl, ?_⟩
        refine qm_G.ret rfl rfl ⟨_, rfl, ?_⟩
        refine qm_G.cs rfl rfl rfl ?_
        refine qm_C.go (cd := qm_P20) (lv := [(0, qm_I (qm_i (-3)))]) rfl rfl ?_
        refine qm_G.s1 rfl (qm_x_iload rfl) ?_
        refine qm_G.s1 rfl (qm_x_if_lt_t ⟨by decide, by decide⟩ (by decide)) ?_
        refine qm_G.sp (lv1 := []) rfl rfl (qm_x_pushI 0 rfl) ?_
        refine qm_G.ret rfl rfl ⟨_, rfl, ?_⟩
        rw [show qm_dlw m a b (m 10 + 1) P9 W9 (m 11 - W9) (m 8) = ((m, a, b), 0) from if_pos (by omega)] at k
        exact qm_G.ret rfl rfl (k _ _ (fun r s i a b c d => rfl) (fun r s i a => rfl) ⟨(e0), (e1), (e5), (e6), (e8), (e9), (e10), (e11), (ea), (eb)⟩)
      · refine qm_G.s1 rfl (qm_x_iload rfl) ?_
        refine qm_G.s1 rfl (qm_x_iload rfl) ?_
        refine qm_G.s1 rfl (qm_x_ineg) ?_
        refine qm_G.s1 rfl (qm_x_iload rfl) ?_
        refine qm_G.cs rfl rfl rfl ?_
        refine qm_v_within10 ⟨by omega, by omega⟩ ⟨by omega, by omega⟩ ⟨by omega, by omega⟩ (fun c4 => ⟨_, rfl, ?_⟩) (fun c4 => ⟨_, rfl, ?_⟩)
        · refine qm_G.s1 rfl (qm_x_if_ne_t ⟨by decide, by decide⟩ (by decide)) ?_
          refine qm_G.sp (lv1 := [(0, qm_R (some (0, 9, 0))), (1, qm_I (qm_i 0)), (2, qm_I (qm_i (m 0))), (4, qm_I (qm_i (m 5))), (5, qm_I (qm_i ((m 10) + 1)))]) rfl rfl (qm_x_iload rfl) ?_
          refine qm_G.s1 rfl (qm_x_if_ne_f ⟨by decide, by decide⟩ (by decide)) ?_
          refine qm_G.s1 rfl (qm_x_iload rfl) ?_
          refine qm_G.s1 rfl (qm_x_aload rfl) ?_
          refine qm_G.s1 rfl (qm_x_getfR (q := (some (0, 10, 0))) (hS 9 rfl) (hR 9 0 10 rfl rfl)) ?_
          refine qm_G.s1 rfl (qm_x_pushI 0 rfl) ?_
          refine qm_G.s1 rfl (qm_x_iald (v := (m 8)) (qm_arS hS rfl rfl) rfl (by decide) (by decide) (by decide) e8) ?_
          refine qm_G.s1 rfl (qm_x_isub) ?_
          refine qm_G.s1 rfl (qm_x_goto) ?_
          refine qm_G.sp (lv1 := [(0, qm_R (some (0, 9, 0))), (1, qm_I (qm_i 0)), (4, qm_I (qm_i (m 5))), (5, qm_I (qm_i ((m 10) + 1)))]) rfl rfl (qm_x_istore (lv' := [(6, qm_I (qm_i ((m 0) - (m 8)))), (0, qm_R (some (0, 9, 0))), (1, qm_I (qm_i 0)), (4, qm_I (qm_i (m 5))), (5, qm_I (qm_i ((m 10) + 1)))]) rfl) ?_
          refine qm_G.s1 rfl (qm_x_iload rfl) ?_
          refine qm_G.s1 rfl (qm_x_i2l ⟨by omega, by omega⟩) ?_
          refine qm_G.s1 rfl (qm_x_iload rfl) ?_
          refine qm_G.s1 rfl (qm_x_i2l ⟨by omega, by omega⟩) ?_
          refine qm_G.s1 rfl (qm_x_lmule (w := W9) (by rw [eW9, show ((m 0) - (m 8)) = P9 by omega, show (m 5) = m 5 by omega])) ?_
          refine qm_G.s1 rfl (qm_x_lstore (lv' := [(7, qm_L (qm_l W9)), (6, qm_I (qm_i ((m 0) - (m 8)))), (0, qm_R (some (0, 9, 0))), (1, qm_I (qm_i 0)), (4, qm_I (qm_i (m 5))), (5, qm_I (qm_i ((m 10) + 1)))]) rfl) ?_
          refine qm_G.s1 rfl (qm_x_iload rfl) ?_
          refine qm_G.s1 rfl (qm_x_if_ne_f ⟨by decide, by decide⟩ (by decide)) ?_
          refine qm_G.s1 rfl (qm_x_aload rfl) ?_
          refine qm_G.s1 rfl (qm_x_getfI (v := (m 11)) (hS 9 rfl) e11) ?_
          refine qm_G.s1 rfl (qm_x_i2l ⟨by omega, by omega⟩) ?_
          refine qm_G.s1 rfl (qm_x_lload rfl) ?_
          refine qm_G.s1 rfl (qm_x_lsubz) ?_
          refine qm_G.s1 rfl (qm_x_goto) ?_
          refine qm_G.sp (lv1 := [(0, qm_R (some (0, 9, 0))), (5, qm_I (qm_i ((m 10) + 1))), (6, qm_I (qm_i ((m 0) - (m 8)))), (7, qm_L (qm_l W9))]) rfl rfl (qm_x_lstore (lv' := [(9, qm_L (qm_l ((m 11) - W9))), (0, qm_R (some (0, 9, 0))), (5, qm_I (qm_i ((m 10) + 1))), (6, qm_I (qm_i ((m 0) - (m 8)))), (7, qm_L (qm_l W9))]) rfl) ?_
          refine qm_G.s1 rfl (qm_x_lload rfl) ?_
          refine qm_G.cs rfl rfl rfl ?_
          refine qm_C.go (cd := qm_P51) (lv := [(0, qm_L (qm_l W9))]) rfl rfl ?_
          refine qm_G.s1 rfl (qm_x_lload rfl) ?_
          refine qm_G.s1 rfl (qm_x_lload rfl) ?_
          refine qm_G.s1 rfl (qm_x_l2i ⟨by omega, by omega⟩) ?_
          refine qm_G.s1 rfl (qm_x_i2l ⟨by omega, by omega⟩) ?_
          refine qm_G.s1 rfl (qm_x_lcmp_eq rfl) ?_
          refine qm_G.s1 rfl (qm_x_if_ne_f ⟨by decide, by decide⟩ (by decide)) ?_
          refine qm_G.s1 rfl (qm_x_pushI 1 rfl) ?_
          refine qm_G.s1 rfl (qm_x_goto) ?_
          refine qm_G.ret rfl rfl ⟨_, rfl, ?_⟩
          refine qm_G.s1 rfl (qm_x_if_eq_f ⟨by decide, by decide⟩ (by decide)) ?_
          refine qm_G.s1 rfl (qm_x_lload rfl) ?_
          refine qm_G.cs rfl rfl rfl ?_
          refine qm_C.go (cd := qm_P51) (lv := [(0, qm_L (qm_l ((m 11) - W9)))]) rfl rfl ?_
          refine qm_G.s1 rfl (qm_x_lload rfl) ?_
          refine qm_G.s1 rfl (qm_x_lload rfl) ?_
          refine qm_G.s1 rfl (qm_x_l2ir) ?_
          have g5 : qm_sm ((qm_l ((m 11) - W9)).toInt32.toInt) := qm_i_sml _
          refine qm_G.s1 rfl (qm_x_i2l ⟨by omega, by omega⟩) ?_
          refine qm_G.s1 rfl (qm_x_lcmpz_lt ⟨by omega, by omega⟩ ⟨by omega, by omega⟩ (by omega)) ?_
          refine qm_G.s1 rfl (qm_x_if_ne_t ⟨by decide, by decide⟩ (by decide)) ?_
          refine qm_G.sp (lv1 := []) rfl rfl (qm_x_pushI 0 rfl) ?_
          refine qm_G.ret rfl rfl ⟨_, rfl, ?_⟩
          refine qm_G.s1 rfl (qm_x_if_ne_f ⟨by decide, by decide⟩ (by decide)) ?_
          refine qm_G.sp (lv1 := []) rfl rfl (qm_x_pushI (-15) rfl) ?_
          refine qm_G.ret rfl rfl ⟨_, rfl, ?_⟩
          refine qm_G.ret rfl rfl ⟨_, rfl, ?_⟩
          refine qm_G.cs rfl rfl rfl ?_
          refine qm_C.go (cd := qm_P20) (lv := [(0, qm_I (qm_i (-15)))]) rfl rfl ?_
          refine qm_G.s1 rfl (qm_x_iload rfl) ?_
          refine qm_G.s1 rfl (qm_x_if_lt_t ⟨by decide, by decide⟩ (by decide)) ?_
          refine qm_G.sp (lv1 := []) rfl rfl (qm_x_pushI 0 rfl) ?_
          refine qm_G.ret rfl rfl ⟨_, rfl, ?_⟩
          rw [show qm_dlw m a b (m 10 + 1) P9 W9 (m 11 - W9) (m 8) = ((m, a, b), 0) from (if_neg (by omega)).trans (if_pos (by unfold qm_sm; omega))] at k
          exact qm_G.ret rfl rfl (k _ _ (fun r s i a b c d => rfl) (fun r s i a => rfl) ⟨(e0), (e1), (e5), (e6), (e8), (e9), (e10), (e11), (ea), (eb)⟩)
        · refine qm_G.s1 rfl (qm_x_if_ne_f ⟨by decide, by decide⟩ (by decide)) ?_
          refine qm_G.sp (lv1 := []) rfl rfl (qm_x_pushI (-3) rfl) ?_
          refine qm_G.ret rfl rfl ⟨_, rfl, ?_⟩
          refine qm_G.ret rfl rfl ⟨_, rfl, ?_⟩
          refine qm_G.cs rfl rfl rfl ?_
          refine qm_C.go (cd := qm_P20) (lv := [(0, qm_I (qm_i (-3)))]) rfl rfl ?_
          refine qm_G.s1 rfl (qm_x_iload rfl) ?_
          refine qm_G.s1 rfl (qm_x_if_lt_t ⟨by decide, by decide⟩ (by decide)) ?_
          refine qm_G.sp (lv1 := []) rfl rfl (qm_x_pushI 0 rfl) ?_
          refine qm_G.ret rfl rfl ⟨_, rfl, ?_⟩
          rw [show qm_dlw m a b (m 10 + 1) P9 W9 (m 11 - W9) (m 8) = ((m, a, b), 0) from if_pos (by omega)] at k
          exact qm_G.ret rfl rfl (k _ _ (fun r s i a b c d => rfl) (fun r s i a => rfl) ⟨(e0), (e1), (e5), (e6), (e8), (e9), (e10), (e11), (ea), (eb)⟩)
    · exact absurd cc (by omega)
  · refine qm_G.sp (lv1 := [(0, qm_R (some (0, 0, 0))), (1, qm_I (qm_i 0))]) rfl rfl (qm_x_aload rfl) ?_
    refine qm_G.s1 rfl (qm_x_getfR (q := (some (0, 1, 0))) (hS 0 rfl) (hR 0 0 1 rfl rfl)) ?_
    refine qm_G.s1 rfl (qm_x_getfR (q := (some (0, 2, 0))) (hS 1 rfl) (hR 1 0 2 rfl rfl)) ?_
    refine qm_G.s1 rfl (qm_x_getfR (q := (some (0, 3, 0))) (hS 2 rfl) (hR 2 0 3 rfl rfl)) ?_
    refine qm_G.s1 rfl (qm_x_astore (lv' := [(2, qm_R (some (0, 3, 0))), (0, qm_R (some (0, 0, 0))), (1, qm_I (qm_i 0))]) rfl) ?_
    refine qm_G.s1 rfl (qm_x_aload rfl) ?_
    refine qm_G.s1 rfl (qm_x_getfR (q := (some (0, 1, 0))) (hS 0 rfl) (hR 0 0 1 rfl rfl)) ?_
    refine qm_G.s1 rfl (qm_x_getfR (q := (some (0, 9, 0))) (hS 1 rfl) (hR 1 1 9 rfl rfl)) ?_
    refine qm_G.s1 rfl (qm_x_iload rfl) ?_
    refine qm_G.s1 rfl (qm_x_aload rfl) ?_
    refine qm_G.s1 rfl (qm_x_pushI 0 rfl) ?_
    refine qm_G.s1 rfl (qm_x_iald (v := (m 0)) (qm_arS hS rfl rfl) rfl (by decide) (by decide) (by decide) e0) ?_
    refine qm_G.s1 rfl (qm_x_aload rfl) ?_
    refine qm_G.s1 rfl (qm_x_pushI 1 rfl) ?_
    refine qm_G.s1 rfl (qm_x_iald (v := (m 1)) (qm_arS hS rfl rfl) rfl (by decide) (by decide) (by decide) e1) ?_
    refine qm_G.s1 rfl (qm_x_aload rfl) ?_
    refine qm_G.s1 rfl (qm_x_pushI 5 rfl) ?_
    refine qm_G.s1 rfl (qm_x_iald (v := (m 5)) (qm_arS hS rfl rfl) rfl (by decide) (by decide) (by decide) e5) ?_
    refine qm_G.cm rfl rfl (hS 9 rfl) rfl ?_
    refine qm_C.go (cd := qm_P96) (lv := [(0, qm_R (some (0, 9, 0))), (1, qm_I (qm_i 0)), (2, qm_I (qm_i (m 0))), (3, qm_I (qm_i (m 1))), (4, qm_I (qm_i (m 5)))]) rfl rfl ?_
    refine qm_G.s1 rfl (qm_x_iload rfl) ?_
    refine qm_G.s1 rfl (qm_x_if_ne_f ⟨by decide, by decide⟩ (by decide)) ?_
    refine qm_G.s1 rfl (qm_x_aload rfl) ?_
    refine qm_G.s1 rfl (qm_x_getfI (v := (m 10)) (hS 9 rfl) e10) ?_
    refine qm_G.s1 rfl (qm_x_pushI 1 rfl) ?_
    refine qm_G.s1 rfl (qm_x_iadd) ?_
    refine qm_G.s1 rfl (qm_x_goto) ?_
    refine qm_G.sp (lv1 := [(0, qm_R (some (0, 9, 0))), (1, qm_I (qm_i 0)), (2, qm_I (qm_i (m 0))), (3, qm_I (qm_i (m 1))), (4, qm_I (qm_i (m 5)))]) rfl rfl (qm_x_istore (lv' := [(5, qm_I (qm_i ((m 10) + 1))), (0, qm_R (some (0, 9, 0))), (1, qm_I (qm_i 0)), (2, qm_I (qm_i (m 0))), (3, qm_I (qm_i (m 1))), (4, qm_I (qm_i (m 5)))]) rfl) ?_
    refine qm_G.s1 rfl (qm_x_aload rfl) ?_
    refine qm_G.s1 rfl (qm_x_getfR (q := (some (0, 10, 0))) (hS 9 rfl) (hR 9 0 10 rfl rfl)) ?_
    refine qm_G.s1 rfl (qm_x_iload rfl) ?_
    refine qm_G.s1 rfl (qm_x_iald (v := (m 8)) (qm_arS hS rfl rfl) rfl (by decide) (by decide) (by decide) e8) ?_
    refine qm_G.s1 rfl (qm_x_pushI 6 rfl) ?_
    refine qm_y_icmp_eq rfl ⟨by omega, by omega⟩ ⟨by decide, by decide⟩ (fun c6 => ?_) (fun c6 => ?_)
    · refine qm_G.sp (lv1 := []) rfl rfl (qm_x_pushI (-3) rfl) ?_
      refine qm_G.ret rfl rfl ⟨_, rfl, ?_⟩
      refine qm_G.ret rfl rfl ⟨_, rfl, ?_⟩
      refine qm_G.cs rfl rfl rfl ?_
      refine qm_C.go (cd := qm_P20) (lv := [(0, qm_I (qm_i (-3)))]) rfl rfl ?_
      refine qm_G.s1 rfl (qm_x_iload rfl) ?_
      refine qm_G.s1 rfl (qm_x_if_lt_t ⟨by decide, by decide⟩ (by decide)) ?_
      refine qm_G.sp (lv1 := []) rfl rfl (qm_x_pushI 0 rfl) ?_
      refine qm_G.ret rfl rfl ⟨_, rfl, ?_⟩
      rw [show qm_dlw m a b (m 10 + 1) P9 W9 (m 11 - W9) (m 8) = ((m, a, b), 0) from if_pos (by omega)] at k
      exact qm_G.ret rfl rfl (k _ _ (fun r s i a b c d => rfl) (fun r s i a => rfl) ⟨(e0), (e1), (e5), (e6), (e8), (e9), (e10), (e11), (ea), (eb)⟩)
    · refine qm_G.s1 rfl (qm_x_iload rfl) ?_
      refine qm_G.s1 rfl (qm_x_iload rfl) ?_
      refine qm_G.s1 rfl (qm_x_ineg) ?_
      refine qm_G.s1 rfl (qm_x_iload rfl) ?_
      refine qm_G.cs rfl rfl rfl ?_
      refine qm_v_within10 ⟨by omega, by omega⟩ ⟨by omega, by omega⟩ ⟨by omega, by omega⟩ (fun c7 => ⟨_, rfl, ?_⟩) (fun c7 => ⟨_, rfl, ?_⟩)
      · refine qm_G.s1 rfl (qm_x_if_ne_t ⟨by decide, by decide⟩ (by decide)) ?_
        refine qm_G.sp (lv1 := [(0, qm_R (some (0, 9, 0))), (1, qm_I (qm_i 0)), (2, qm_I (qm_i (m 0))), (4, qm_I (qm_i (m 5))), (5, qm_I (qm_i ((m 10) + 1)))]) rfl rfl (qm_x_iload rfl) ?_
        refine qm_G.s1 rfl (qm_x_if_ne_f ⟨by decide, by decide⟩ (by decide)) ?_
        refine qm_G.s1 rfl (qm_x_iload rfl) ?_
        refine qm_G.s1 rfl (qm_x_aload rfl) ?_
        refine qm_G.s1 rfl (qm_x_getfR (q := (some (0, 10, 0))) (hS 9 rfl) (hR 9 0 10 rfl rfl)) ?_
        refine qm_G.s1 rfl (qm_x_pushI 0 rfl) ?_
        refine qm_G.s1 rfl (qm_x_iald (v := (m 8)) (qm_arS hS rfl rfl) rfl (by decide) (by decide) (by decide) e8) ?_
        refine qm_G.s1 rfl (qm_x_isub) ?_
        refine qm_G.s1 rfl (qm_x_goto) ?_
        refine qm_G.sp (lv1 := [(0, qm_R (some (0, 9, 0))), (1, qm_I (qm_i 0)), (4, qm_I (qm_i (m 5))), (5, qm_I (qm_i ((m 10) + 1)))]) rfl rfl (qm_x_istore (lv' := [(6, qm_I (qm_i ((m 0) - (m 8)))), (0, qm_R (some (0, 9, 0))), (1, qm_I (qm_i 0)), (4, qm_I (qm_i (m 5))), (5, qm_I (qm_i ((m 10) + 1)))]) rfl) ?_
        refine qm_G.s1 rfl (qm_x_iload rfl) ?_
        refine qm_G.s1 rfl (qm_x_i2l ⟨by omega, by omega⟩) ?_
        refine qm_G.s1 rfl (qm_x_iload rfl) ?_
        refine qm_G.s1 rfl (qm_x_i2l ⟨by omega, by omega⟩) ?_
        refine qm_G.s1 rfl (qm_x_lmule (w := W9) (by rw [eW9, show ((m 0) - (m 8)) = P9 by omega, show (m 5) = m 5 by omega])) ?_
        refine qm_G.s1 rfl (qm_x_lstore (lv' := [(7, qm_L (qm_l W9)), (6, qm_I (qm_i ((m 0) - (m 8)))), (0, qm_R (some (0, 9, 0))), (1, qm_I (qm_i 0)), (4, qm_I (qm_i (m 5))), (5, qm_I (qm_i ((m 10) + 1)))]) rfl) ?_
        refine qm_G.s1 rfl (qm_x_iload rfl) ?_
        refine qm_G.s1 rfl (qm_x_if_ne_f ⟨by decide, by decide⟩ (by decide)) ?_
        refine qm_G.s1 rfl (qm_x_aload rfl) ?_
        refine qm_G.s1 rfl (qm_x_getfI (v := (m 11)) (hS 9 rfl) e11) ?_
        refine qm_G.s1 rfl (qm_x_i2l ⟨by omega, by omega⟩) ?_
        refine qm_G.s1 rfl (qm_x_lload rfl) ?_
        refine qm_G.s1 rfl (qm_x_lsubz) ?_
        refine qm_G.s1 rfl (qm_x_goto) ?_
        refine qm_G.sp (lv1 := [(0, qm_R (some (0, 9, 0))), (5, qm_I (qm_i ((m 10) + 1))), (6, qm_I (qm_i ((m 0) - (m 8)))), (7, qm_L (qm_l W9))]) rfl rfl (qm_x_lstore (lv' := [(9, qm_L (qm_l ((m 11) - W9))), (0, qm_R (some (0, 9, 0))), (5, qm_I (qm_i ((m 10) + 1))), (6, qm_I (qm_i ((m 0) - (m 8)))), (7, qm_L (qm_l W9))]) rfl) ?_
        refine qm_G.s1 rfl (qm_x_lload rfl) ?_
        refine qm_G.cs rfl rfl rfl ?_
        refine qm_C.go (cd := qm_P51) (lv := [(0, qm_L (qm_l W9))]) rfl rfl ?_
        refine qm_G.s1 rfl (qm_x_lload rfl) ?_
        refine qm_G.s1 rfl (qm_x_lload rfl) ?_
        refine qm_G.s1 rfl (qm_x_l2ir) ?_
        have g8 : qm_sm ((qm_l W9).toInt32.toInt) := qm_i_sml _
        refine qm_G.s1 rfl (qm_x_i2l ⟨by omega, by omega⟩) ?_
        refine qm_G.s1 rfl (qm_x_lcmpz_gt ⟨by omega, by omega⟩ ⟨by omega, by omega⟩ (by omega)) ?_
        refine qm_G.s1 rfl (qm_x_if_ne_t ⟨by decide, by decide⟩ (by decide)) ?_
        refine qm_G.sp (lv1 := []) rfl rfl (qm_x_pushI 0 rfl) ?_
        refine qm_G.ret rfl rfl ⟨_, rfl, ?_⟩
        refine qm_G.s1 rfl (qm_x_if_eq_t ⟨by decide, by decide⟩ (by decide)) ?_
        refine qm_G.sp (lv1 := []) rfl rfl (qm_x_pushI (-15) rfl) ?_
        refine qm_G.ret rfl rfl ⟨_, rfl, ?_⟩
        refine qm_G.ret rfl rfl ⟨_, rfl, ?_⟩
        refine qm_G.cs rfl rfl rfl ?_
        refine qm_C.go (cd := qm_P20) (lv := [(0, qm_I (qm_i (-15)))]) rfl rfl ?_
        refine qm_G.s1 rfl (qm_x_iload rfl) ?_
        refine qm_G.s1 rfl (qm_x_if_lt_t ⟨by decide, by decide⟩ (by decide)) ?_
        refine qm_G.sp (lv1 := []) rfl rfl (qm_x_pushI 0 rfl) ?_
        refine qm_G.ret rfl rfl ⟨_, rfl, ?_⟩
        rw [show qm_dlw m a b (m 10 + 1) P9 W9 (m 11 - W9) (m 8) = ((m, a, b), 0) from (if_neg (by omega)).trans (if_pos (by unfold qm_sm; omega))] at k
        exact qm_G.ret rfl rfl (k _ _ (fun r s i a b c d => rfl) (fun r s i a => rfl) ⟨(e0), (e1), (e5), (e6), (e8), (e9), (e10), (e11), (ea), (eb)⟩)
      · refine qm_G.s1 rfl (qm_x_if_ne_f ⟨by decide, by decide⟩ (by decide)) ?_
        refine qm_G.sp (lv1 := []) rfl rfl (qm_x_pushI (-3) rfl) ?_
        refine qm_G.ret rfl rfl ⟨_, rfl, ?_⟩
        refine qm_G.ret rfl rfl ⟨_, rfl, ?_⟩
        refine qm_G.cs rfl rfl rfl ?_
        refine qm_C.go (cd := qm_P20) (lv := [(0, qm_I (qm_i (-3)))]) rfl rfl ?_
        refine qm_G.s1 rfl (qm_x_iload rfl) ?_
        refine qm_G.s1 rfl (qm_x_if_lt_t ⟨by decide, by decide⟩ (by decide)) ?_
        refine qm_G.sp (lv1 := []) rfl rfl (qm_x_pushI 0 rfl) ?_
        refine qm_G.ret rfl rfl ⟨_, rfl, ?_⟩
        rw [show qm_dlw m a b (m 10 + 1) P9 W9 (m 11 - W9) (m 8) = ((m, a, b), 0) from if_pos (by omega)] at k
        exact qm_G.ret rfl rfl (k _ _ (fun r s i a b c d => rfl) (fun r s i a => rfl) ⟨(e0), (e1), (e5), (e6), (e8), (e9), (e10), (e11), (ea), (eb)⟩)
theorem qm_d_do3 {S : List qm_Sh} {J K : qm_J} {L : qm_Ct Int64} {D : qm_Ct UInt64} {R : qm_Ct (Option qm_Rf)} {X : Nat × (Nat → Int32)} {Q : Option qm_V → qm_Hp → Prop} {m : Nat → Int} {a b : UInt64} {v : Int} {c : Nat} (hS : qm_Sd S) (hR : qm_Rd R) (hC : qm_Cl J D (m, a, b)) (hr : qm_Rg c (m, a, b)) (hc : c ≤ 900) (rv : 0 ≤ v ∧ v ≤ 9999) (k : ∀ (J1 : qm_J) (D1 : qm_Ct UInt64), qm_Cf J J1 → qm_Df D D1 → qm_Cl J1 D1 (qm_do 3 v (m, a, b)).1 → Q (some (qm_I (qm_i (qm_do 3 v (m, a, b)).2))) (qm_H S J1 K L D1 R X)) : qm_C qm_P 173 [qm_R (some (0, 0, 0)), qm_R (some (1, 8, 0)), qm_I (qm_i v)] (qm_H S J K L D R X) Q := by
  have e0 : J 3 0 0 = m 0 := hC.1
  have e1 : J 3 0 1 = m 1 := hC.2.1
  have e5 : J 3 0 5 = m 5 := hC.2.2.1
  have e6 : J 2 0 5 = m 6 := hC.2.2.2.1
  have e8 : J 10 0 0 = m 8 := hC.2.2.2.2.1
  have e9 : J 10 0 1 = m 9 := hC.2.2.2.2.2.1
  have e10 : J 9 0 1 = m 10 := hC.2.2.2.2.2.2.1
  have e11 : J 9 0 2 = m 11 := hC.2.2.2.2.2.2.2.1
  have ea : D 9 0 3 = a := hC.2.2.2.2.2.2.2.2.1
  have eb : D 9 0 4 = b := hC.2.2.2.2.2.2.2.2.2
  have r0 : 100 ≤ m 0 ∧ m 0 ≤ 9999 := hr.1
  have r1 : 1 ≤ m 1 ∧ m 1 ≤ 8 := hr.2.1
  have r5 : 1 ≤ m 5 ∧ m 5 ≤ 1000000 := hr.2.2.1
  have r6 : 0 ≤ m 6 ∧ m 6 ≤ 2 := hr.2.2.2.1
  have r8 : 0 ≤ m 8 ∧ m 8 ≤ 6 := hr.2.2.2.2.1
  have r9 : 0 ≤ m 9 ∧ m 9 ≤ 6 := hr.2.2.2.2.2.1
  have r10 : -8 ≤ m 10 ∧ m 10 ≤ 8 := hr.2.2.2.2.2.2.1
  have r11 : -2147483648 ≤ m 11 ∧ m 11 ≤ 2147483647 := hr.2.2.2.2.2.2.2.1
  have hm9 : qm_Mid a := hr.2.2.2.2.2.2.2.2.1
  have hs9 : qm_Spr c b := hr.2.2.2.2.2.2.2.2.2
  obtain ⟨P9, eP9⟩ : ∃ P : Int, P = m 0 + m 9 := ⟨_, rfl⟩
  obtain ⟨W9, eW9⟩ : ∃ W : Int, W = P9 * m 5 := ⟨_, rfl⟩
  have hW9 : 0 ≤ W9 ∧ W9 ≤ 10005000000 := by rw [eW9]; exact qm_W9 (by omega) r5
  obtain ⟨t1, t2, t3, t4, t5, t6, t7, t8, t9⟩ := qm_trn (P := P9) ⟨by omega, by omega⟩ hc hm9 hs9
  have eD : qm_do 3 v (m, a, b) = qm_dlw m a b (m 10 - 1) P9 W9 (m 11 + W9) (m 9) := by rw [eW9, eP9]; rfl
  rw [eD] at k
  refine qm_C.go (cd := qm_P173) (lv := [(0, qm_R (some (0, 0, 0))), (1, qm_R (some (1, 8, 0))), (2, qm_I (qm_i v))]) rfl rfl ?_
  refine qm_G.s1 rfl (qm_x_aload rfl) ?_
  refine qm_G.s1 rfl (qm_x_ifnonnull1) ?_
  refine qm_G.sp (lv1 := [(0, qm_R (some (0, 0, 0))), (1, qm_R (some (1, 8, 0))), (2, qm_I (qm_i v))]) rfl rfl (qm_x_push) ?_
  refine qm_G.s1 rfl (qm_x_aload rfl) ?_
  refine qm_G.call rfl rfl rfl ?_
  refine qm_C.go (cd := qm_P13) (lv := [(0, qm_R (some (1, 8, 0)))]) rfl rfl ?_
  refine qm_G.s1 rfl (qm_x_aload rfl) ?_
  refine qm_G.s1 rfl (qm_x_getgI (v := 3) rfl rfl) ?_
  refine qm_G.ret rfl rfl ⟨_, rfl, ?_⟩
  refine qm_G.s1 rfl (qm_x_iald1 (v := 4) rfl rfl (by decide) (by decide) rfl) ?_
  refine qm_G.s1 rfl (qm_x_tsw (t := 85) rfl) ?_
  refine qm_G.sp (lv1 := [(0, qm_R (some (0, 0, 0)))]) rfl rfl (qm_x_aload rfl) ?_
  refine qm_G.s1 rfl (qm_x_pushI 1 rfl) ?_
  refine qm_G.cm rfl rfl (hS 0 rfl) rfl ?_
  refine qm_C.go (cd := qm_P155) (lv := [(0, qm_R (some (0, 0, 0))), (1, qm_I (qm_i 1))]) rfl rfl ?_
  refine qm_G.s1 rfl (qm_x_iload rfl) ?_
  refine qm_G.cs rfl rfl rfl ?_
  refine qm_C.go (cd := qm_P18) (lv := [(0, qm_I (qm_i 1))]) rfl rfl ?_
  refine qm_G.s1 rfl (qm_x_iload rfl) ?_
  refine qm_G.s1 rfl (qm_x_if_eq_f ⟨by decide, by decide⟩ (by decide)) ?_
  refine qm_G.s1 rfl (qm_x_iload rfl) ?_
  refine qm_G.s1 rfl (qm_x_pushI 1 rfl) ?_
  refine qm_G.s1 rfl (qm_x_icmp_ne_f ⟨by decide, by decide⟩ ⟨by decide, by decide⟩ (by decide)) ?_
  refine qm_G.sp (lv1 := []) rfl rfl (qm_x_pushI 1 rfl) ?_
  refine qm_G.s1 rfl (qm_x_goto) ?_
  refine qm_G.ret rfl rfl ⟨_, rfl, ?_⟩
  refine qm_G.s1 rfl (qm_x_if_ne_t ⟨by decide, by decide⟩ (by decide)) ?_
  rcases (show W9 ≤ 2147483647 ∨ 2147483648 ≤ W9 by omega) with cw | cw
  · rcases (show (-2147483648 ≤ m 11 + W9 ∧ m 11 + W9 ≤ 2147483647) ∨ m 11 + W9 < -2147483648 ∨ 2147483647 < m 11 + W9 by omega) with cc | cc | cc
    · refine qm_G.sp (lv1 := [(0, qm_R (some (0, 0, 0))), (1, qm_I (qm_i 1))]) rfl rfl (qm_x_aload rfl) ?_
      refine qm_G.s1 rfl (qm_x_getfR (q := (some (0, 1, 0))) (hS 0 rfl) (hR 0 0 1 rfl rfl)) ?_
      refine qm_G.s1 rfl (qm_x_getfR (q := (some (0, 2, 0))) (hS 1 rfl) (hR 1 0 2 rfl rfl)) ?_
      refine qm_G.s1 rfl (qm_x_getfR (q := (some (0, 3, 0))) (hS 2 rfl) (hR 2 0 3 rfl rfl)) ?_
      refine qm_G.s1 rfl (qm_x_astore (lv' := [(2, qm_R (some (0, 3, 0))), (0, qm_R (some (0, 0, 0))), (1, qm_I (qm_i 1))]) rfl) ?_
      refine qm_G.s1 rfl (qm_x_aload rfl) ?_
      refine qm_G.s1 rfl (qm_x_getfR (q := (some (0, 1, 0))) (hS 0 rfl) (hR 0 0 1 rfl rfl)) ?_
      refine qm_G.s1 rfl (qm_x_getfR (q := (some (0, 9, 0))) (hS 1 rfl) (hR 1 1 9 rfl rfl)) ?_
      refine qm_G.s1 rfl (qm_x_iload rfl) ?_
      refine qm_G.s1 rfl (qm_x_aload rfl) ?_
      refine qm_G.s1 rfl (qm_x_pushI 0 rfl) ?_
      refine qm_G.s1 rfl (qm_x_iald (v := (m 0)) (qm_arS hS rfl rfl) rfl (by decide) (by decide) (by decide) e0) ?_
      refine qm_G.s1 rfl (qm_x_aload rfl) ?_
      refine qm_G.s1 rfl (qm_x_pushI 1 rfl) ?_
      refine qm_G.s1 rfl (qm_x_iald (v := (m 1)) (qm_arS hS rfl rfl) rfl (by decide) (by decide) (by decide) e1) ?_
      refine qm_G.s1 rfl (qm_x_aload rfl) ?_
      refine qm_G.s1 rfl (qm_x_pushI 5 rfl) ?_
      refine qm_G.s1 rfl (qm_x_iald (v := (m 5)) (qm_arS hS rfl rfl) rfl (by decide) (by decide) (by decide) e5) ?_
      refine qm_G.cm rfl rfl (hS 9 rfl) rfl ?_
      refine qm_C.go (cd := qm_P96) (lv := [(0, qm_R (some (0, 9, 0))), (1, qm_I (qm_i 1)), (2, qm_I (qm_i (m 0))), (3, qm_I (qm_i (m 1))), (4, qm_I (qm_i (m 5)))]) rfl rfl ?_
      refine qm_G.s1 rfl (qm_x_iload rfl) ?_
      refine qm_G.s1 rfl (qm_x_if_ne_t ⟨by decide, by decide⟩ (by decide)) ?_
      refine qm_G.sp (lv1 := [(0, qm_R (some (0, 9, 0))), (1, qm_I (qm_i 1)), (2, qm_I (qm_i (m 0))), (3, qm_I (qm_i (m 1))), (4, qm_I (qm_i (m 5)))]) rfl rfl (qm_x_aload rfl) ?_
      refine qm_G.s1 rfl (qm_x_getfI (v := (m 10)) (hS 9 rfl) e10) ?_
      refine qm_G.s1 rfl (qm_x_pushI 1 rfl) ?_
      refine qm_G.s1 rfl (qm_x_isub) ?_
      refine qm_G.sp (lv1 := [(0, qm_R (some (0, 9, 0))), (1, qm_I (qm_i 1)), (2, qm_I (qm_i (m 0))), (3, qm_I (qm_i (m 1))), (4, qm_I (qm_i (m 5)))]) rfl rfl (qm_x_istore (lv' := [(5, qm_I (qm_i ((m 10) - 1))), (0, qm_R (some (0, 9, 0))), (1, qm_I (qm_i 1)), (2, qm_I (qm_i (m 0))), (3, qm_I (qm_i (m 1))), (4, qm_I (qm_i (m 5)))]) rfl) ?_
      refine qm_G.s1 rfl (qm_x_aload rfl) ?_
      refine qm_G.s1 rfl (qm_x_getfR (q := (some (0, 10, 0))) (hS 9 rfl) (hR 9 0 10 rfl rfl)) ?_
      refine qm_G.s1 rfl (qm_x_iload rfl) ?_
      refine qm_G.s1 rfl (qm_x_iald (v := (m 9)) (qm_arS hS rfl rfl) rfl (by decide) (by decide) (by decide) e9) ?_
      refine qm_G.s1 rfl (qm_x_pushI 6 rfl) ?_
      refine qm_y_icmp_eq rfl ⟨by omega, by omega⟩ ⟨by decide, by decide⟩ (fun c1 => ?_) (fun c1 => ?_)
      · refine qm_G.sp (lv1 := []) rfl rfl (qm_x_pushI (-3) rfl) ?_
        refine qm_G.ret rfl rfl ⟨_, rfl, ?_⟩
        refine qm_G.ret rfl rfl ⟨_, rfl, ?_⟩
        refine qm_G.cs rfl rfl rfl ?_
        refine qm_C.go (cd := qm_P20) (lv := [(0, qm_I (qm_i (-3)))]) rfl rfl ?_
        refine qm_G.s1 rfl (qm_x_iload rfl) ?_
        refine qm_G.s1 rfl (qm_x_if_lt_t ⟨by decide, by decide⟩ (by decide)) ?_
        refine qm_G.sp (lv1 := []) rfl rfl (qm_x_pushI 0 rfl) ?_
        refine qm_G.ret rfl rfl ⟨_, rfl, ?_⟩
        rw [show qm_dlw m a b (m 10 - 1) P9 W9 (m 11 + W9) (m 9) = ((m, a, b), 0) from if_pos (by omega)] at k
        exact qm_G.ret rfl rfl (k _ _ (fun r s i a b c d => rfl) (fun r s i a => rfl) ⟨(e0), (e1), (e5), (e6), (e8), (e9), (e10), (e11), (ea), (eb)⟩)
      · refine qm_G.s1 rfl (qm_x_iload rfl) ?_
        refine qm_G.s1 rfl (qm_x_iload rfl) ?_
        refine qm_G.s1 rfl (qm_x_ineg) ?_
        refine qm_G.s1 rfl (qm_x_iload rfl) ?_
        refine qm_G.cs rfl rfl rfl ?_
        refine qm_v_within10 ⟨by omega, by omega⟩ ⟨by omega, by omega⟩ ⟨by omega, by omega⟩ (fun c2 => ⟨_, rfl, ?_⟩) (fun c2 => ⟨_, rfl, ?_⟩)
        · refine qm_G.s1 rfl (qm_x_if_ne_t ⟨by decide, by decide⟩ (by decide)) ?_
          refine qm_G.sp (lv1 := [(0, qm_R (some (0, 9, 0))), (1, qm_I (qm_i 1)), (2, qm_I (qm_i (m 0))), (4, qm_I (qm_i (m 5))), (5, qm_I (qm_i ((m 10) - 1)))]) rfl rfl (qm_x_iload rfl) ?_
          refine qm_G.s1 rfl (qm_x_if_ne_t ⟨by decide, by decide⟩ (by decide)) ?_
          refine qm_G.sp (lv1 := [(0, qm_R (some (0, 9, 0))), (1, qm_I (qm_i 1)), (2, qm_I (qm_i (m 0))), (4, qm_I (qm_i (m 5))), (5, qm_I (qm_i ((m 10) - 1)))]) rfl rfl (qm_x_iload rfl) ?_
          refine qm_G.s1 rfl (qm_x_aload rfl) ?_
          refine qm_G.s1 rfl (qm_x_getfR (q := (some (0, 10, 0))) (hS 9 rfl) (hR 9 0 10 rfl rfl)) ?_
          refine qm_G.s1 rfl (qm_x_pushI 1 rfl) ?_
          refine qm_G.s1 rfl (qm_x_iald (v := (m 9)) (qm_arS hS rfl rfl) rfl (by decide) (by decide) (by decide) e9) ?_
          refine qm_G.s1 rfl (qm_x_iadd) ?_
          refine qm_G.sp (lv1 := [(0, qm_R (some (0, 9, 0))), (1, qm_I (qm_i 1)), (4, qm_I (qm_i (m 5))), (5, qm_I (qm_i ((m 10) - 1)))]) rfl rfl (qm_x_istore (lv' := [(6, qm_I (qm_i ((m 0) + (m 9)))), (0, qm_R (some (0, 9, 0))), (1, qm_I (qm_i 1)), (4, qm_I (qm_i (m 5))), (5, qm_I (qm_i ((m 10) - 1)))]) rfl) ?_
          refine qm_G.s1 rfl (qm_x_iload rfl) ?_
          refine qm_G.s1 rfl (qm_x_i2l ⟨by omega, by omega⟩) ?_
          refine qm_G.s1 rfl (qm_x_iload rfl) ?_
          refine qm_G.s1 rfl (qm_x_i2l ⟨by omega, by omega⟩) ?_
          refine qm_G.s1 rfl (qm_x_lmule (w := W9) (by rw [eW9, show ((m 0) + (m 9)) = P9 by omega, show (m 5) = m 5 by omega])) ?_
          refine qm_G.s1 rfl (qm_x_lstore (lv' := [(7, qm_L (qm_l W9)), (6, qm_I (qm_i ((m 0) + (m 9)))), (0, qm_R (some (0, 9, 0))), (1, qm_I (qm_i 1)), (4, qm_I (qm_i (m 5))), (5, qm_I (qm_i ((m 10) - 1)))]) rfl) ?_
          refine qm_G.s1 rfl (qm_x_iload rfl) ?_
          refine qm_G.s1 rfl (qm_x_if_ne_t ⟨by decide, by decide⟩ (by decide)) ?_
          refine qm_G.sp (lv1 := [(0, qm_R (some (0, 9, 0))), (5, qm_I (qm_i ((m 10) - 1))), (6, qm_I (qm_i ((m 0) + (m 9)))), (7, qm_L (qm_l W9))]) rfl rfl (qm_x_aload rfl) ?_
          refine qm_G.s1 rfl (qm_x_getfI (v := (m 11)) (hS 9 rfl) e11) ?_
          refine qm_G.s1 rfl (qm_x_i2l ⟨by omega, by omega⟩) ?_
          refine qm_G.s1 rfl (qm_x_lload rfl) ?_
          refine qm_G.s1 rfl (qm_x_laddz) ?_
          refine qm_G.sp (lv1 := [(0, qm_R (some (0, 9, 0))), (5, qm_I (qm_i ((m 10) - 1))), (6, qm_I (qm_i ((m 0) + (m 9)))), (7, qm_L (qm_l W9))]) rfl rfl (qm_x_lstore (lv' := [(9, qm_L (qm_l ((m 11) + W9))), (0, qm_R (some (0, 9, 0))), (5, qm_I (qm_i ((m 10) - 1))), (6, qm_I (qm_i ((m 0) + (m 9)))), (7, qm_L (qm_l W9))]) rfl) ?_
          refine qm_G.s1 rfl (qm_x_lload rfl) ?_
          refine qm_G.cs rfl rfl rfl ?_
          refine qm_C.go (cd := qm_P51) (lv := [(0, qm_L (qm_l W9))]) rfl rfl ?_
          refine qm_G.s1 rfl (qm_x_lload rfl) ?_
          refine qm_G.s1 rfl (qm_x_lload rfl) ?_
          refine qm_G.s1 rfl (qm_x_l2i ⟨by omega, by omega⟩) ?_
          refine qm_G.s1 rfl (qm_x_i2l ⟨by omega, by omega⟩) ?_
          refine qm_G.s1 rfl (qm_x_lcmp_eq rfl) ?_
          refine qm_G.s1 rfl (qm_x_if_ne_f ⟨by decide, by decide⟩ (by decide)) ?_
          refine qm_G.s1 rfl (qm_x_pushI 1 rfl) ?_
          refine qm_G.s1 rfl (qm_x_goto) ?_
          refine qm_G.ret rfl rfl ⟨_, rfl, ?_⟩
          refine qm_G.s1 rfl (qm_x_if_eq_f ⟨by decide, by decide⟩ (by decide)) ?_
          refine qm_G.s1 rfl (qm_x_lload rfl) ?_
          refine qm_G.cs rfl rfl rfl ?_
          refine qm_C.go (cd := qm_P51) (lv := [(0, qm_L (qm_l ((m 11) + W9)))]) rfl rfl ?_
          refine qm_G.s1 rfl (qm_x_lload rfl) ?_
          refine qm_G.s1 rfl (qm_x_lload rfl) ?_
          refine qm_G.s1 rfl (qm_x_l2i ⟨by omega, by omega⟩) ?_
          refine qm_G.s1 rfl (qm_x_i2l ⟨by omega, by omega⟩) ?_
          refine qm_G.s1 rfl (qm_x_lcmp_eq rfl) ?_
          refine qm_G.s1 rfl (qm_x_if_ne_f ⟨by decide, by decide⟩ (by decide)) ?_
          refine qm_G.s1 rfl (qm_x_pushI 1 rfl) ?_
          refine qm_G.s1 rfl (qm_x_goto) ?_
          refine qm_G.ret rfl rfl ⟨_, rfl, ?_⟩
          refine qm_G.s1 rfl (qm_x_if_ne_t ⟨by decide, by decide⟩ (by decide)) ?_
          refine qm_G.sp (lv1 := [(0, qm_R (some (0, 9, 0))), (5, qm_I (qm_i ((m 10) - 1))), (6, qm_I (qm_i ((m 0) + (m 9)))), (9, qm_L (qm_l ((m 11) + W9)))]) rfl rfl (qm_x_aload rfl) ?_
          refine qm_G.s1 rfl (qm_x_iload rfl) ?_
          refine qm_G.s1 rfl (qm_x_putfI (hS 9 rfl)) ?_
          refine qm_G.s1 rfl (qm_x_aload rfl) ?_
          refine qm_G.s1 rfl (qm_x_lload rfl) ?_
          refine qm_G.s1 rfl (qm_x_l2i ⟨by omega, by omega⟩) ?_
          refine qm_G.s1 rfl (qm_x_putfI (hS 9 rfl)) ?_
          refine qm_G.s1 rfl (qm_x_aload rfl) ?_
          refine qm_G.s1 rfl (qm_x_iload rfl) ?_
          refine qm_G.s1 rfl (qm_x_i2de (y := P9) (by omega)) ?_
          refine qm_G.cmv rfl rfl (hS 9 rfl) rfl ?_
          refine qm_C.go (cd := qm_P52) (lv := [(0, qm_R (some (0, 9, 0))), (1, qm_D (FP.i2d (qm_i P9)))]) rfl rfl ?_
          refine qm_G.s1 rfl (qm_x_aload rfl) ?_
          refine qm_G.s1 rfl (qm_x_aload rfl) ?_
          refine qm_G.s1 rfl (qm_x_getfD (a := b) (hS 9 rfl) eb) ?_
          refine qm_G.s1 rfl (qm_x_push) ?_
          refine qm_G.s1 rfl (qm_x_dmuls t2) ?_
          refine qm_G.s1 rfl (qm_x_dload rfl) ?_
          refine qm_G.s1 rfl (qm_x_aload rfl) ?_
          refine qm_G.s1 rfl (qm_x_getfD (a := a) (hS 9 rfl) ea) ?_
          refine qm_G.s1 rfl (qm_x_dsubs t1) ?_
          refine qm_G.s1 rfl (qm_x_dload rfl) ?_
          refine qm_G.s1 rfl (qm_x_aload rfl) ?_
          refine qm_G.s1 rfl (qm_x_getfD (a := a) (hS 9 rfl) ea) ?_
          refine qm_G.s1 rfl (qm_x_dsubs t1) ?_
          refine qm_G.s1 rfl (qm_x_dmuls t3) ?_
          refine qm_G.s1 rfl (qm_x_push) ?_
          refine qm_G.s1 rfl (qm_x_dmuls t4) ?_
          refine qm_G.s1 rfl (qm_x_dadds t5) ?_
          refine qm_G.s1 rfl (qm_x_putfD (hS 9 rfl)) ?_
          refine qm_G.s1 rfl (qm_x_aload rfl) ?_
          refine qm_G.s1 rfl (qm_x_aload rfl) ?_
          refine qm_G.s1 rfl (qm_x_getfD (a := a) (hS 9 rfl) ea) ?_
          refine qm_G.s1 rfl (qm_x_dload rfl) ?_
          refine qm_G.s1 rfl (qm_x_aload rfl) ?_
          refine qm_G.s1 rfl (qm_x_getfD (a := a) (hS 9 rfl) ea) ?_
          refine qm_G.s1 rfl (qm_x_dsubs t1) ?_
          refine qm_G.s1 rfl (qm_x_push) ?_
          refine qm_G.s1 rfl (qm_x_dmuls t6) ?_
          refine qm_G.s1 rfl (qm_x_dadds t7) ?_
          refine qm_G.s1 rfl (qm_x_putfD (hS 9 rfl)) ?_
          refine qm_G.retv rfl ⟨rfl, ?_⟩
          refine qm_G.s1 rfl (qm_x_pushI 100 rfl) ?_
          refine qm_G.s1 rfl (qm_x_aload rfl) ?_
          refine qm_G.s1 rfl (qm_x_getfI (v := ((m 10) - 1)) (hS 9 rfl) rfl) ?_
          refine qm_G.s1 rfl (qm_x_iadd) ?_
          refine qm_G.ret rfl rfl ⟨_, rfl, ?_⟩
          refine qm_G.ret rfl rfl ⟨_, rfl, ?_⟩
          refine qm_G.cs rfl rfl rfl ?_
          refine qm_C.go (cd := qm_P20) (lv := [(0, qm_I (qm_i (100 + ((m 10) - 1))))]) rfl rfl ?_
          refine qm_G.s1 rfl (qm_x_iload rfl) ?_
          refine qm_G.s1 rfl (qm_x_if_lt_f ⟨by omega, by omega⟩ (by omega)) ?_
          refine qm_G.s1 rfl (qm_x_pushI 1 rfl) ?_
          refine qm_G.s1 rfl (qm_x_goto) ?_
          refine qm_G.ret rfl rfl ⟨_, rfl, ?_⟩
          rw [show qm_dlw m a b (m 10 - 1) P9 W9 (m 11 + W9) (m 9) = ((qm_up (qm_up m 10 (m 10 - 1)) 11 (m 11 + W9), FP.dadd a (FP.dmul (FP.dsub (FP.i2d (qm_i P9)) a) 4598175219545276416), FP.dadd (FP.dmul b 4604930618986332160) (FP.dmul (FP.dmul (FP.dsub (FP.i2d (qm_i P9)) a) (FP.dsub (FP.i2d (qm_i P9)) a)) 4598175219545276416)), 1) from (if_neg (by omega)).trans (if_neg (fun h => by unfold qm_sm at h; omega))] at k
          rw [show (m 10) - 1 = m 10 - 1 by omega]
          rw [show ((m 11) + W9) = m 11 + W9 by omega]
          exact qm_G.ret rfl rfl (k _ _ (fun r s i a b c d => (qm_st_ne (by omega)).trans (qm_st_ne (by omega))) (fun r s i a => (qm_st_ne (by omega)).trans (qm_st_ne (by omega))) ⟨((qm_st_ne (by omega)).trans ((qm_st_ne (by omega)).trans (e0))), ((qm_st_ne (by omega)).trans ((qm_st_ne (by omega)).trans (e1))), ((qm_st_ne (by omega)).trans ((qm_st_ne (by omega)).trans (e5))), ((qm_st_ne (by omega)).trans ((qm_st_ne (by omega)).trans (e6))), ((qm_st_ne (by omega)).trans ((qm_st_ne (by omega)).trans (e8))), ((qm_st_ne (by omega)).trans ((qm_st_ne (by omega)).trans (e9))), ((qm_st_ne (by omega)).trans (qm_st_eq)), (qm_st_eq), (qm_st_eq), ((qm_st_ne (by omega)).trans (qm_st_eq))⟩)
        · refine qm_G.s1 rfl (qm_x_if_ne_f ⟨by decide, by decide⟩ (by decide)) ?_
          refine qm_G.sp (lv1 := []) rfl rfl (qm_x_pushI (-3) rfl) ?_
          refine qm_G.ret rfl rfl ⟨_, rfl, ?_⟩
          refine qm_G.ret rfl rfl ⟨_, rfl, ?_⟩
          refine qm_G.cs rfl rfl rfl ?_
          refine qm_C.go (cd := qm_P20) (lv := [(0, qm_I (qm_i (-3)))]) rfl rfl ?_
          refine qm_G.s1 rfl (qm_x_iload rfl) ?_
          refine qm_G.s1 rfl (qm_x_if_lt_t ⟨by decide, by decide⟩ (by decide)) ?_
          refine qm_G.sp (lv1 := []) rfl rfl (qm_x_pushI 0 rfl) ?_
          refine qm_G.ret rfl rfl ⟨_, rfl, ?_⟩
          rw [show qm_dlw m a b (m 10 - 1) P9 W9 (m 11 + W9) (m 9) = ((m, a, b), 0) from if_pos (by omega)] at k
          exact qm_G.ret rfl rfl (k _ _ (fun r s i a b c d => rfl) (fun r s i a => rfl) ⟨(e0), (e1), (e5), (e6), (e8), (e9), (e10), (e11), (ea), (eb)⟩)
    · exact absurd cc (by omega)
    · refine qm_G.sp (lv1 := [(0, qm_R (some (0, 0, 0))), (1, qm_I (qm_i 1))]) rfl rfl (qm_x_aload rfl) ?_
      refine qm_G.s1 rfl (qm_x_getfR (q := (some (0, 1, 0))) (hS 0 rfl) (hR 0 0 1 rfl rfl)) ?_
      refine qm_G.s1 rfl (qm_x_getfR (q := (some (0, 2, 0))) (hS 1 rfl) (hR 1 0 2 rfl rfl)) ?_
      refine qm_G.s1 rfl (qm_x_getfR (q := (some (0, 3, 0))) (hS 2 rfl) (hR 2 0 3 rfl rfl)) ?_
      refine qm_G.s1 rfl (qm_x_astore (lv' := [(2, qm_R (some (0, 3, 0))), (0, qm_R (some (0, 0, 0))), (1, qm_I (qm_i 1))]) rfl) ?_
      refine qm_G.s1 rfl (qm_x_aload rfl) ?_
      refine qm_G.s1 rfl (qm_x_getfR (q := (some (0, 1, 0))) (hS 0 rfl) (hR 0 0 1 rfl rfl)) ?_
      refine qm_G.s1 rfl (qm_x_getfR (q := (some (0, 9, 0))) (hS 1 rfl) (hR 1 1 9 rfl rfl)) ?_
      refine qm_G.s1 rfl (qm_x_iload rfl) ?_
      refine qm_G.s1 rfl (qm_x_aload rfl) ?_
      refine qm_G.s1 rfl (qm_x_pushI 0 rfl) ?_
      refine qm_G.s1 rfl (qm_x_iald (v := (m 0)) (qm_arS hS rfl rfl) rfl (by decide) (by decide) (by decide) e0) ?_
      refine qm_G.s1 rfl (qm_x_aload rfl) ?_
      refine qm_G.s1 rfl (qm_x_pushI 1 rfl) ?_
      refine qm_G.s1 rfl (qm_x_iald (v := (m 1)) (qm_arS hS rfl rfl) rfl (by decide) (by decide) (by decide) e1) ?_
      refine qm_G.s1 rfl (qm_x_aload rfl) ?_
      refine qm_G.s1 rfl (qm_x_pushI 5 rfl) ?_
      refine qm_G.s1 rfl (qm_x_iald (v := (m 5)) (qm_arS hS rfl rfl) rfl (by decide) (by decide) (by decide) e5) ?_
      refine qm_G.cm rfl rfl (hS 9 rfl) rfl ?_
      refine qm_C.go (cd := qm_P96) (lv := [(0, qm_R (some (0, 9, 0))), (1, qm_I (qm_i 1)), (2, qm_I (qm_i (m 0))), (3, qm_I (qm_i (m 1))), (4, qm_I (qm_i (m 5)))]) rfl rfl ?_
      refine qm_G.s1 rfl (qm_x_iload rfl) ?_
      refine qm_G.s1 rfl (qm_x_if_ne_t ⟨by decide, by decide⟩ (by decide)) ?_
      refine qm_G.sp (lv1 := [(0, qm_R (some (0, 9, 0))), (1, qm_I (qm_i 1)), (2, qm_I (qm_i (m 0))), (3, qm_I (qm_i (m 1))), (4, qm_I (qm_i (m 5)))]) rfl rfl (qm_x_aload rfl) ?_
      refine qm_G.s1 rfl (qm_x_getfI (v := (m 10)) (hS 9 rfl) e10) ?_
      refine qm_G.s1 rfl (qm_x_pushI 1 rfl) ?_
      refine qm_G.s1 rfl (qm_x_isub) ?_
      refine qm_G.sp (lv1 := [(0, qm_R (some (0, 9, 0))), (1, qm_I (qm_i 1)), (2, qm_I (qm_i (m 0))), (3, qm_I (qm_i (m 1))), (4, qm_I (qm_i (m 5)))]) rfl rfl (qm_x_istore (lv' := [(5, qm_I (qm_i ((m 10) - 1))), (0, qm_R (some (0, 9, 0))), (1, qm_I (qm_i 1)), (2, qm_I (qm_i (m 0))), (3, qm_I (qm_i (m 1))), (4, qm_I (qm_i (m 5)))]) rfl) ?_
      refine qm_G.s1 rfl (qm_x_aload rfl) ?_
      refine qm_G.s1 rfl (qm_x_getfR (q := (some (0, 10, 0))) (hS 9 rfl) (hR 9 0 10 rfl rfl)) ?_
      refine qm_G.s1 rfl (qm_x_iload rfl) ?_
      refine qm_G.s1 rfl (qm_x_iald (v := (m 9)) (qm_arS hS rfl rfl) rfl (by decide) (by decide) (by decide) e9) ?_
      refine qm_G.s1 rfl (qm_x_pushI 6 rfl) ?_
      refine qm_y_icmp_eq rfl ⟨by omega, by omega⟩ ⟨by decide, by decide⟩ (fun c3 => ?_) (fun c3 => ?_)
      · refine qm_G.sp (lv1 := []) rfl rfl (qm_x_pushI (-3) rfl) ?_
        refine qm_G.ret rfl rfl ⟨_, rfl, ?_⟩
        refine qm_G.ret rfl rfl ⟨_, rfl, ?_⟩
        refine qm_G.cs rfl rfl rfl ?_
        refine qm_C.go (cd := qm_P20) (lv := [(0, qm_I (qm_i (-3)))]) rfl rfl ?_
        refine qm_G.s1 rfl (qm_x_iload rfl) ?_
        refine qm_G.s1 rfl (qm_x_if_lt_t ⟨by decide, by decide⟩ (by decide)) ?_
        refine qm_G.sp (lv1 := []) rfl rfl (qm_x_pushI 0 rfl) ?_
        refine qm_G.ret rfl rfl ⟨_, rfl, ?_⟩
        rw [show qm_dlw m a b (m 10 - 1) P9 W9 (m 11 + W9) (m 9) = ((m, a, b), 0) from if_pos (by omega)] at k
        exact qm_G.ret rfl rfl (k _ _ (fun r s i a b c d => rfl) (fun r s i a => rfl) ⟨(e0), (e1), (e5), (e6), (e8), (e9), (e10), (e11), (ea), (eb)⟩)
      · refine qm_G.s1 rfl (qm_x_iload rfl) ?_
        refine qm_G.s1 rfl (qm_x_iload rfl) ?_
        refine qm_G.s1 rfl (qm_x_ineg) ?_
        refine qm_G.s1 rfl (qm_x_iload rfl) ?_
        refine qm_G.cs rfl rfl rfl ?_
        refine qm_v_within10 ⟨by omega, by omega⟩ ⟨by omega, by omega⟩ ⟨by omega, by omega⟩ (fun c4 => ⟨_, rfl, ?_⟩) (fun c4 => ⟨_, rfl, ?_⟩)
        · refine qm_G.s1 rfl (qm_x_if_ne_t ⟨by decide, by decide⟩ (by decide)) ?_
          refine qm_G.sp (lv1 := [(0, qm_R (some (0, 9, 0))), (1, qm_I (qm_i 1)), (2, qm_I (qm_i (m 0))), (4, qm_I (qm_i (m 5))), (5, qm_I (qm_i ((m 10) - 1)))]) rfl rfl (qm_x_iload rfl) ?_
          refine qm_G.s1 rfl (qm_x_if_ne_t ⟨by decide, by decide⟩ (by decide)) ?_
          refine qm_G.sp (lv1 := [(0, qm_R (some (0, 9, 0))), (1, qm_I (qm_i 1)), (2, qm_I (qm_i (m 0))), (4, qm_I (qm_i (m 5))), (5, qm_I (qm_i ((m 10) - 1)))]) rfl rfl (qm_x_iload rfl) ?_
          refine qm_G.s1 rfl (qm_x_aload rfl) ?_
          refine qm_G.s1 rfl (qm_x_getfR (q := (some (0, 10, 0))) (hS 9 rfl) (hR 9 0 10 rfl rfl)) ?_
          refine qm_G.s1 rfl (qm_x_pushI 1 rfl) ?_
          refine qm_G.s1 rfl (qm_x_iald (v := (m 9)) (qm_arS hS rfl rfl) rfl (by decide) (by decide) (by decide) e9) ?_
          refine qm_G.s1 rfl (qm_x_iadd) ?_
          refine qm_G.sp (lv1 := [(0, qm_R (some (0, 9, 0))), (1, qm_I (qm_i 1)), (4, qm_I (qm_i (m 5))), (5, qm_I (qm_i ((m 10) - 1)))]) rfl rfl (qm_x_istore (lv' := [(6, qm_I (qm_i ((m 0) + (m 9)))), (0, qm_R (some (0, 9, 0))), (1, qm_I (qm_i 1)), (4, qm_I (qm_i (m 5))), (5, qm_I (qm_i ((m 10) - 1)))]) rfl) ?_
          refine qm_G.s1 rfl (qm_x_iload rfl) ?_
          refine qm_G.s1 rfl (qm_x_i2l ⟨by omega, by omega⟩) ?_
          refine qm_G.s1 rfl (qm_x_iload rfl) ?_
          refine qm_G.s1 rfl (qm_x_i2l ⟨by omega, by omega⟩) ?_
          refine qm_G.s1 rfl (qm_x_lmule (w := W9) (by rw [eW9, show ((m 0) + (m 9)) = P9 by omega, show (m 5) = m 5 by omega])) ?_
          refine qm_G.s1 rfl (qm_x_lstore (lv' := [(7, qm_L (qm_l W9)), (6, qm_I (qm_i ((m 0) + (m 9)))), (0, qm_R (some (0, 9, 0))), (1, qm_I (qm_i 1)), (4, qm_I (qm_i (m 5))), (5, qm_I (qm_i ((m 10) - 1)))]) rfl) ?_
          refine qm_G.s1 rfl (qm_x_iload rfl) ?_
          refine qm_G.s1 rfl (qm_x_if_ne_t ⟨by decide, by decide⟩ (by decide)) ?_
          refine qm_G.sp (lv1 := [(0, qm_R (some (0, 9, 0))), (5, qm_I (qm_i ((m 10) - 1))), (6, qm_I (qm_i ((m 0) + (m 9)))), (7, qm_L (qm_l W9))]) rfl rfl (qm_x_aload rfl) ?_
          refine qm_G.s1 rfl (qm_x_getfI (v := (m 11)) (hS 9 rfl) e11) ?_
          refine qm_G.s1 rfl (qm_x_i2l ⟨by omega, by omega⟩) ?_
          refine qm_G.s1 rfl (qm_x_lload rfl) ?_
          refine qm_G.s1 rfl (qm_x_laddz) ?_
          refine qm_G.sp (lv1 := [(0, qm_R (some (0, 9, 0))), (5, qm_I (qm_i ((m 10) - 1))), (6, qm_I (qm_i ((m 0) + (m 9)))), (7, qm_L (qm_l W9))]) rfl rfl (qm_x_lstore (lv' := [(9, qm_L (qm_l ((m 11) + W9))), (0, qm_R (some (0, 9, 0))), (5, qm_I (qm_i ((m 10) - 1))), (6, qm_I (qm_i ((m 0) + (m 9)))), (7, qm_L (qm_l W9))]) rfl) ?_
          refine qm_G.s1 rfl (qm_x_lload rfl) ?_
          refine qm_G.cs rfl rfl rfl ?_
          refine qm_C.go (cd := qm_P51) (lv := [(0, qm_L (qm_l W9))]) rfl rfl ?_
          refine qm_G.s1 rfl (qm_x_lload rfl) ?_
          refine qm_G.s1 rfl (qm_x_lload rfl) ?_
          refine qm_G.s1 rfl (qm_x_l2i ⟨by omega, by omega⟩) ?_
          refine qm_G.s1 rfl (qm_x_i2l ⟨by omega, by omega⟩) ?_
          refine qm_G.s1 rfl (qm_x_lcmp_eq rfl) ?_
          refine qm_G.s1 rfl (qm_x_if_ne_f ⟨by decide, by decide⟩ (by decide)) ?_
          refine qm_G.s1 rfl (qm_x_pushI 1 rfl) ?_
          refine qm_G.s1 rfl (qm_x_goto) ?_
          refine qm_G.ret rfl rfl ⟨_, rfl, ?_⟩
          refine qm_G.s1 rfl (qm_x_if_eq_f ⟨by decide, by decide⟩ (by decide)) ?_
          refine qm_G.s1 rfl (qm_x_lload rfl) ?_
          refine qm_G.cs rfl rfl rfl ?_
          refine qm_C.go (cd := qm_P51) (lv := [(0, qm_L (qm_l ((m 11) + W9)))]) rfl rfl ?_
          refine qm_G.s1 rfl (qm_x_lload rfl) ?_
          refine qm_G.s1 rfl (qm_x_lload rfl) ?_
          refine qm_G.s1 rfl (qm_x_l2ir) ?_
          have g5 : qm_sm ((qm_l ((m 11) + W9)).toInt32.toInt) := qm_i_sml _
          refine qm_G.s1 rfl (qm_x_i2l ⟨by omega, by omega⟩) ?_
          refine qm_G.s1 rfl (qm_x_lcmpz_gt ⟨by omega, by omega⟩ ⟨by omega, by omega⟩ (by omega)) ?_
          refine qm_G.s1 rfl (qm_x_if_ne_t ⟨by decide, by decide⟩ (by decide)) ?_
          refine qm_G.sp (lv1 := []) rfl rfl (qm_x_pushI 0 rfl) ?_
          refine qm_G.ret rfl rfl ⟨_, rfl, ?_⟩
          refine qm_G.s1 rfl (qm_x_if_ne_f ⟨by decide, by decide⟩ (by decide)) ?_
          refine qm_G.sp (lv1 := []) rfl rfl (qm_x_pushI (-15) rfl) ?_
          refine qm_G.ret rfl rfl ⟨_, rfl, ?_⟩
          refine qm_G.ret rfl rfl ⟨_, rfl, ?_⟩
          refine qm_G.cs rfl rfl rfl ?_
          refine qm_C.go (cd := qm_P20) (lv := [(0, qm_I (qm_i (-15)))]) rfl rfl ?_
          refine qm_G.s1 rfl (qm_x_iload rfl) ?_
          refine qm_G.s1 rfl (qm_x_if_lt_t ⟨by decide, by decide⟩ (by decide)) ?_
          refine qm_G.sp (lv1 := []) rfl rfl (qm_x_pushI 0 rfl) ?_
          refine qm_G.ret rfl rfl ⟨_, rfl, ?_⟩
          rw [show qm_dlw m a b (m 10 - 1) P9 W9 (m 11 + W9) (m 9) = ((m, a, b), 0) from (if_neg (by omega)).trans (if_pos (by unfold qm_sm; omega))] at k
          exact qm_G.ret rfl rfl (k _ _ (fun r s i a b c d => rfl) (fun r s i a => rfl) ⟨(e0), (e1), (e5), (e6), (e8), (e9), (e10), (e11), (ea), (eb)⟩)
        · refine qm_G.s1 rfl (qm_x_if_ne_f ⟨by decide, by decide⟩ (by decide)) ?_
          refine qm_G.sp (lv1 := []) rfl rfl (qm_x_pushI (-3) rfl) ?_
          refine qm_G.ret rfl rfl ⟨_, rfl, ?_⟩
          refine qm_G.ret rfl rfl ⟨_, rfl, ?_⟩
          refine qm_G.cs rfl rfl rfl ?_
          refine qm_C.go (cd := qm_P20) (lv := [(0, qm_I (qm_i (-3)))]) rfl rfl ?_
          refine qm_G.s1 rfl (qm_x_iload rfl) ?_
          refine qm_G.s1 rfl (qm_x_if_lt_t ⟨by decide, by decide⟩ (by decide)) ?_
          refine qm_G.sp (lv1 := []) rfl rfl (qm_x_pushI 0 rfl) ?_
          refine qm_G.ret rfl rfl ⟨_, rfl, ?_⟩
          rw [show qm_dlw m a b (m 10 - 1) P9 W9 (m 11 + W9) (m 9) = ((m, a, b), 0) from if_pos (by omega)] at k
          exact qm_G.ret rfl rfl (k _ _ (fun r s i a b c d => rfl) (fun r s i a => rfl) ⟨(e0), (e1), (e5), (e6), (e8), (e9), (e10), (e11), (ea), (eb)⟩)
  · refine qm_G.sp (lv1 := [(0, qm_R (some (0, 0, 0))), (1, qm_I (qm_i 1))]) rfl rfl (qm_x_aload rfl) ?_
    refine qm_G.s1 rfl (qm_x_getfR (q := (some (0, 1, 0))) (hS 0 rfl) (hR 0 0 1 rfl rfl)) ?_
    refine qm_G.s1 rfl (qm_x_getfR (q := (some (0, 2, 0))) (hS 1 rfl) (hR 1 0 2 rfl rfl)) ?_
    refine qm_G.s1 rfl (qm_x_getfR (q := (some (0, 3, 0))) (hS 2 rfl) (hR 2 0 3 rfl rfl)) ?_
    refine qm_G.s1 rfl (qm_x_astore (lv' := [(2, qm_R (some (0, 3, 0))), (0, qm_R (some (0, 0, 0))), (1, qm_I (qm_i 1))]) rfl) ?_
    refine qm_G.s1 rfl (qm_x_aload rfl) ?_
    refine qm_G.s1 rfl (qm_x_getfR (q := (some (0, 1, 0))) (hS 0 rfl) (hR 0 0 1 rfl rfl)) ?_
    refine qm_G.s1 rfl (qm_x_getfR (q := (some (0, 9, 0))) (hS 1 rfl) (hR 1 1 9 rfl rfl)) ?_
    refine qm_G.s1 rfl (qm_x_iload rfl) ?_
    refine qm_G.s1 rfl (qm_x_aload rfl) ?_
    refine qm_G.s1 rfl (qm_x_pushI 0 rfl) ?_
    refine qm_G.s1 rfl (qm_x_iald (v := (m 0)) (qm_arS hS rfl rfl) rfl (by decide) (by decide) (by decide) e0) ?_
    refine qm_G.s1 rfl (qm_x_aload rfl) ?_
    refine qm_G.s1 rfl (qm_x_pushI 1 rfl) ?_
    refine qm_G.s1 rfl (qm_x_iald (v := (m 1)) (qm_arS hS rfl rfl) rfl (by decide) (by decide) (by decide) e1) ?_
    refine qm_G.s1 rfl (qm_x_aload rfl) ?_
    refine qm_G.s1 rfl (qm_x_pushI 5 rfl) ?_
    refine qm_G.s1 rfl (qm_x_iald (v := (m 5)) (qm_arS hS rfl rfl) rfl (by decide) (by decide) (by decide) e5) ?_
    refine qm_G.cm rfl rfl (hS 9 rfl) rfl ?_
    refine qm_C.go (cd := qm_P96) (lv := [(0, qm_R (some (0, 9, 0))), (1, qm_I (qm_i 1)), (2, qm_I (qm_i (m 0))), (3, qm_I (qm_i (m 1))), (4, qm_I (qm_i (m 5)))]) rfl rfl ?_
    refine qm_G.s1 rfl (qm_x_iload rfl) ?_
    refine qm_G.s1 rfl (qm_x_if_ne_t ⟨by decide, by decide⟩ (by decide)) ?_
    refine qm_G.sp (lv1 := [(0, qm_R (some (0, 9, 0))), (1, qm_I (qm_i 1)), (2, qm_I (qm_i (m 0))), (3, qm_I (qm_i (m 1))), (4, qm_I (qm_i (m 5)))]) rfl rfl (qm_x_aload rfl) ?_
    refine qm_G.s1 rfl (qm_x_getfI (v := (m 10)) (hS 9 rfl) e10) ?_
    refine qm_G.s1 rfl (qm_x_pushI 1 rfl) ?_
    refine qm_G.s1 rfl (qm_x_isub) ?_
    refine qm_G.sp (lv1 := [(0, qm_R (some (0, 9, 0))), (1, qm_I (qm_i 1)), (2, qm_I (qm_i (m 0))), (3, qm_I (qm_i (m 1))), (4, qm_I (qm_i (m 5)))]) rfl rfl (qm_x_istore (lv' := [(5, qm_I (qm_i ((m 10) - 1))), (0, qm_R (some (0, 9, 0))), (1, qm_I (qm_i 1)), (2, qm_I (qm_i (m 0))), (3, qm_I (qm_i (m 1))), (4, qm_I (qm_i (m 5)))]) rfl) ?_
    refine qm_G.s1 rfl (qm_x_aload rfl) ?_
    refine qm_G.s1 rfl (qm_x_getfR (q := (some (0, 10, 0))) (hS 9 rfl) (hR 9 0 10 rfl rfl)) ?_
    refine qm_G.s1 rfl (qm_x_iload rfl) ?_
    refine qm_G.s1 rfl (qm_x_iald (v := (m 9)) (qm_arS hS rfl rfl) rfl (by decide) (by decide) (by decide) e9) ?_
    refine qm_G.s1 rfl (qm_x_pushI 6 rfl) ?_
    refine qm_y_icmp_eq rfl ⟨by omega, by omega⟩ ⟨by decide, by decide⟩ (fun c6 => ?_) (fun c6 => ?_)
    · refine qm_G.sp (lv1 := []) rfl rfl (qm_x_pushI (-3) rfl) ?_
      refine qm_G.ret rfl rfl ⟨_, rfl, ?_⟩
      refine qm_G.ret rfl rfl ⟨_, rfl, ?_⟩
      refine qm_G.cs rfl rfl rfl ?_
      refine qm_C.go (cd := qm_P20) (lv := [(0, qm_I (qm_i (-3)))]) rfl rfl ?_
      refine qm_G.s1 rfl (qm_x_iload rfl) ?_
      refine qm_G.s1 rfl (qm_x_if_lt_t ⟨by decide, by decide⟩ (by decide)) ?_
      refine qm_G.sp (lv1 := []) rfl rfl (qm_x_pushI 0 rfl) ?_
      refine qm_G.ret rfl rfl ⟨_, rfl, ?_⟩
      rw [show qm_dlw m a b (m 10 - 1) P9 W9 (m 11 + W9) (m 9) = ((m, a, b), 0) from if_pos (by omega)] at k
      exact qm_G.ret rfl rfl (k _ _ (fun r s i a b c d => rfl) (fun r s i a => rfl) ⟨(e0), (e1), (e5), (e6), (e8), (e9), (e10), (e11), (ea), (eb)⟩)
    · refine qm_G.s1 rfl (qm_x_iload rfl) ?_
      refine qm_G.s1 rfl (qm_x_iload rfl) ?_
      refine qm_G.s1 rfl (qm_x_ineg) ?_
      refine qm_G.s1 rfl (qm_x_iload rfl) ?_
      refine qm_G.cs rfl rfl rfl ?_
      refine qm_v_within10 ⟨by omega, by omega⟩ ⟨by omega, by omega⟩ ⟨by omega, by omega⟩ (fun c7 => ⟨_, rfl, ?_⟩) (fun c7 => ⟨_, rfl, ?_⟩)
      · refine qm_G.s1 rfl (qm_x_if_ne_t ⟨by decide, by decide⟩ (by decide)) ?_
        refine qm_G.sp (lv1 := [(0, qm_R (some (0, 9, 0))), (1, qm_I (qm_i 1)), (2, qm_I (qm_i (m 0))), (4, qm_I (qm_i (m 5))), (5, qm_I (qm_i ((m 10) - 1)))]) rfl rfl (qm_x_iload rfl) ?_
        refine qm_G.s1 rfl (qm_x_if_ne_t ⟨by decide, by decide⟩ (by decide)) ?_
        refine qm_G.sp (lv1 := [(0, qm_R (some (0, 9, 0))), (1, qm_I (qm_i 1)), (2, qm_I (qm_i (m 0))), (4, qm_I (qm_i (m 5))), (5, qm_I (qm_i ((m 10) - 1)))]) rfl rfl (qm_x_iload rfl) ?_
        refine qm_G.s1 rfl (qm_x_aload rfl) ?_
        refine qm_G.s1 rfl (qm_x_getfR (q := (some (0, 10, 0))) (hS 9 rfl) (hR 9 0 10 rfl rfl)) ?_
        refine qm_G.s1 rfl (qm_x_pushI 1 rfl) ?_
        refine qm_G.s1 rfl (qm_x_iald (v := (m 9)) (qm_arS hS rfl rfl) rfl (by decide) (by decide) (by decide) e9) ?_
        refine qm_G.s1 rfl (qm_x_iadd) ?_
        refine qm_G.sp (lv1 := [(0, qm_R (some (0, 9, 0))), (1, qm_I (qm_i 1)), (4, qm_I (qm_i (m 5))), (5, qm_I (qm_i ((m 10) - 1)))]) rfl rfl (qm_x_istore (lv' := [(6, qm_I (qm_i ((m 0) + (m 9)))), (0, qm_R (some (0, 9, 0))), (1, qm_I (qm_i 1)), (4, qm_I (qm_i (m 5))), (5, qm_I (qm_i ((m 10) - 1)))]) rfl) ?_
        refine qm_G.s1 rfl (qm_x_iload rfl) ?_
        refine qm_G.s1 rfl (qm_x_i2l ⟨by omega, by omega⟩) ?_
        refine qm_G.s1 rfl (qm_x_iload rfl) ?_
        refine qm_G.s1 rfl (qm_x_i2l ⟨by omega, by omega⟩) ?_
        refine qm_G.s1 rfl (qm_x_lmule (w := W9) (by rw [eW9, show ((m 0) + (m 9)) = P9 by omega, show (m 5) = m 5 by omega])) ?_
        refine qm_G.s1 rfl (qm_x_lstore (lv' := [(7, qm_L (qm_l W9)), (6, qm_I (qm_i ((m 0) + (m 9)))), (0, qm_R (some (0, 9, 0))), (1, qm_I (qm_i 1)), (4, qm_I (qm_i (m 5))), (5, qm_I (qm_i ((m 10) - 1)))]) rfl) ?_
        refine qm_G.s1 rfl (qm_x_iload rfl) ?_
        refine qm_G.s1 rfl (qm_x_if_ne_t ⟨by decide, by decide⟩ (by decide)) ?_
        refine qm_G.sp (lv1 := [(0, qm_R (some (0, 9, 0))), (5, qm_I (qm_i ((m 10) - 1))), (6, qm_I (qm_i ((m 0) + (m 9)))), (7, qm_L (qm_l W9))]) rfl rfl (qm_x_aload rfl) ?_
        refine qm_G.s1 rfl (qm_x_getfI (v := (m 11)) (hS 9 rfl) e11) ?_
        refine qm_G.s1 rfl (qm_x_i2l ⟨by omega, by omega⟩) ?_
        refine qm_G.s1 rfl (qm_x_lload rfl) ?_
        refine qm_G.s1 rfl (qm_x_laddz) ?_
        refine qm_G.sp (lv1 := [(0, qm_R (some (0, 9, 0))), (5, qm_I (qm_i ((m 10) - 1))), (6, qm_I (qm_i ((m 0) + (m 9)))), (7, qm_L (qm_l W9))]) rfl rfl (qm_x_lstore (lv' := [(9, qm_L (qm_l ((m 11) + W9))), (0, qm_R (some (0, 9, 0))), (5, qm_I (qm_i ((m 10) - 1))), (6, qm_I (qm_i ((m 0) + (m 9)))), (7, qm_L (qm_l W9))]) rfl) ?_
        refine qm_G.s1 rfl (qm_x_lload rfl) ?_
        refine qm_G.cs rfl rfl rfl ?_
        refine qm_C.go (cd := qm_P51) (lv := [(0, qm_L (qm_l W9))]) rfl rfl ?_
        refine qm_G.s1 rfl (qm_x_lload rfl) ?_
        refine qm_G.s1 rfl (qm_x_lload rfl) ?_
        refine qm_G.s1 rfl (qm_x_l2ir) ?_
        have g8 : qm_sm ((qm_l W9).toInt32.toInt) := qm_i_sml _
        refine qm_G.s1 rfl (qm_x_i2l ⟨by omega, by omega⟩) ?_
        refine qm_G.s1 rfl (qm_x_lcmpz_gt ⟨by omega, by omega⟩ ⟨by omega, by omega⟩ (by omega)) ?_
        refine qm_G.s1 rfl (qm_x_if_ne_t ⟨by decide, by decide⟩ (by decide)) ?_
        refine qm_G.sp (lv1 := []) rfl rfl (qm_x_pushI 0 rfl) ?_
        refine qm_G.ret rfl rfl ⟨_, rfl, ?_⟩
        refine qm_G.s1 rfl (qm_x_if_eq_t ⟨by decide, by decide⟩ (by decide)) ?_
        refine qm_G.sp (lv1 := []) rfl rfl (qm_x_pushI (-15) rfl) ?_
        refine qm_G.ret rfl rfl ⟨_, rfl, ?_⟩
        refine qm_G.ret rfl rfl ⟨_, rfl, ?_⟩
        refine qm_G.cs rfl rfl rfl ?_
        refine qm_C.go (cd := qm_P20) (lv := [(0, qm_I (qm_i (-15)))]) rfl rfl ?_
        refine qm_G.s1 rfl (qm_x_iload rfl) ?_
        refine qm_G.s1 rfl (qm_x_if_lt_t ⟨by decide, by decide⟩ (by decide)) ?_
        refine qm_G.sp (lv1 := []) rfl rfl (qm_x_pushI 0 rfl) ?_
        refine qm_G.ret rfl rfl ⟨_, rfl, ?_⟩
        rw [show qm_dlw m a b (m 10 - 1) P9 W9 (m 11 + W9) (m 9) = ((m, a, b), 0) from (if_neg (by omega)).trans (if_pos (by unfold qm_sm; omega))] at k
        exact qm_G.ret rfl rfl (k _ _ (fun r s i a b c d => rfl) (fun r s i a => rfl) ⟨(e0), (e1), (e5), (e6), (e8), (e9), (e10), (e11), (ea), (eb)⟩)
      · refine qm_G.s1 rfl (qm_x_if_ne_f ⟨by decide, by decide⟩ (by decide)) ?_
        refine qm_G.sp (lv1 := []) rfl rfl (qm_x_pushI (-3) rfl) ?_
        refine qm_G.ret rfl rfl ⟨_, rfl, ?_⟩
        refine qm_G.ret rfl rfl ⟨_, rfl, ?_⟩
        refine qm_G.cs rfl rfl rfl ?_
        refine qm_C.go (cd := qm_P20) (lv := [(0, qm_I (qm_i (-3)))]) rfl rfl ?_
        refine qm_G.s1 rfl (qm_x_iload rfl) ?_
        refine qm_G.s1 rfl (qm_x_if_lt_t ⟨by decide, by decide⟩ (by decide)) ?_
        refine qm_G.sp (lv1 := []) rfl rfl (qm_x_pushI 0 rfl) ?_
        refine qm_G.ret rfl rfl ⟨_, rfl, ?_⟩
        rw [show qm_dlw m a b (m 10 - 1) P9 W9 (m 11 + W9) (m 9) = ((m, a, b), 0) from if_pos (by omega)] at k
        exact qm_G.ret rfl rfl (k _ _ (fun r s i a b c d => rfl) (fun r s i a => rfl) ⟨(e0), (e1), (e5), (e6), (e8), (e9), (e10), (e11), (ea), (eb)⟩)
theorem qm_d_do4 {S : List qm_Sh} {J K : qm_J} {L : qm_Ct Int64} {D : qm_Ct UInt64} {R : qm_Ct (Option qm_Rf)} {X : Nat × (Nat → Int32)} {Q : Option qm_V → qm_Hp → Prop} {m : Nat → Int} {a b : UInt64} {v : Int} {c : Nat} (hS : qm_Sd S) (hR : qm_Rd R) (hC : qm_Cl J D (m, a, b)) (hr : qm_Rg c (m, a, b)) (hc : c ≤ 900) (rv : 0 ≤ v ∧ v ≤ 9999) (k : ∀ (J1 : qm_J) (D1 : qm_Ct UInt64), qm_Cf J J1 → qm_Df D D1 → qm_Cl J1 D1 (qm_do 4 v (m, a, b)).1 → Q (some (qm_I (qm_i (qm_do 4 v (m, a, b)).2))) (qm_H S J1 K L D1 R X)) : qm_C qm_P 173 [qm_R (some (0, 0, 0)), qm_R (some (1, 9, 0)), qm_I (qm_i v)] (qm_H S J K L D R X) Q := by
  have e0 : J 3 0 0 = m 0 := hC.1
  have e1 : J 3 0 1 = m 1 := hC.2.1
  have e5 : J 3 0 5 = m 5 := hC.2.2.1
  have e6 : J 2 0 5 = m 6 := hC.2.2.2.1
  have e8 : J 10 0 0 = m 8 := hC.2.2.2.2.1
  have e9 : J 10 0 1 = m 9 := hC.2.2.2.2.2.1
  have e10 : J 9 0 1 = m 10 := hC.2.2.2.2.2.2.1
  have e11 : J 9 0 2 = m 11 := hC.2.2.2.2.2.2.2.1
  have ea : D 9 0 3 = a := hC.2.2.2.2.2.2.2.2.1
  have eb : D 9 0 4 = b := hC.2.2.2.2.2.2.2.2.2
  have r0 : 100 ≤ m 0 ∧ m 0 ≤ 9999 := hr.1
  have r1 : 1 ≤ m 1 ∧ m 1 ≤ 8 := hr.2.1
  have r5 : 1 ≤ m 5 ∧ m 5 ≤ 1000000 := hr.2.2.1
  have r6 : 0 ≤ m 6 ∧ m 6 ≤ 2 := hr.2.2.2.1
  have r8 : 0 ≤ m 8 ∧ m 8 ≤ 6 := hr.2.2.2.2.1
  have r9 : 0 ≤ m 9 ∧ m 9 ≤ 6 := hr.2.2.2.2.2.1
  have r10 : -8 ≤ m 10 ∧ m 10 ≤ 8 := hr.2.2.2.2.2.2.1
  have r11 : -2147483648 ≤ m 11 ∧ m 11 ≤ 2147483647 := hr.2.2.2.2.2.2.2.1
  have hm9 : qm_Mid a := hr.2.2.2.2.2.2.2.2.1
  have hs9 : qm_Spr c b := hr.2.2.2.2.2.2.2.2.2
  refine qm_C.go (cd := qm_P173) (lv := [(0, qm_R (some (0, 0, 0))), (1, qm_R (some (1, 9, 0))), (2, qm_I (qm_i v))]) rfl rfl ?_
  refine qm_G.s1 rfl (qm_x_aload rfl) ?_
  refine qm_G.s1 rfl (qm_x_ifnonnull1) ?_
  refine qm_G.sp (lv1 := [(0, qm_R (some (0, 0, 0))), (1, qm_R (some (1, 9, 0))), (2, qm_I (qm_i v))]) rfl rfl (qm_x_push) ?_
  refine qm_G.s1 rfl (qm_x_aload rfl) ?_
  refine qm_G.call rfl rfl rfl ?_
  refine qm_C.go (cd := qm_P13) (lv := [(0, qm_R (some (1, 9, 0)))]) rfl rfl ?_
  refine qm_G.s1 rfl (qm_x_aload rfl) ?_
  refine qm_G.s1 rfl (qm_x_getgI (v := 4) rfl rfl) ?_
  refine qm_G.ret rfl rfl ⟨_, rfl, ?_⟩
  refine qm_G.s1 rfl (qm_x_iald1 (v := 5) rfl rfl (by decide) (by decide) rfl) ?_
  refine qm_G.s1 rfl (qm_x_tsw (t := 94) rfl) ?_
  refine qm_G.sp (lv1 := [(0, qm_R (some (0, 0, 0)))]) rfl rfl (qm_x_aload rfl) ?_
  refine qm_G.s1 rfl (qm_x_pushI 0 rfl) ?_
  refine qm_G.s1 rfl (qm_x_pushI 6 rfl) ?_
  refine qm_G.cm rfl rfl (hS 0 rfl) rfl ?_
  refine qm_C.go (cd := qm_P118) (lv := [(0, qm_R (some (0, 0, 0))), (1, qm_I (qm_i 0)), (2, qm_I (qm_i 6))]) rfl rfl ?_
  refine qm_G.s1 rfl (qm_x_iload rfl) ?_
  refine qm_G.cs rfl rfl rfl ?_
  refine qm_C.go (cd := qm_P18) (lv := [(0, qm_I (qm_i 0))]) rfl rfl ?_
  refine qm_G.s1 rfl (qm_x_iload rfl) ?_
  refine qm_G.s1 rfl (qm_x_if_eq_t ⟨by decide, by decide⟩ (by decide)) ?_
  refine qm_G.sp (lv1 := []) rfl rfl (qm_x_pushI 1 rfl) ?_
  refine qm_G.s1 rfl (qm_x_goto) ?_
  refine qm_G.ret rfl rfl ⟨_, rfl, ?_⟩
  refine qm_G.s1 rfl (qm_x_if_ne_t ⟨by decide, by decide⟩ (by decide)) ?_
  refine qm_G.sp (lv1 := [(0, qm_R (some (0, 0, 0))), (1, qm_I (qm_i 0)), (2, qm_I (qm_i 6))]) rfl rfl (qm_x_iload rfl) ?_
  refine qm_G.cs rfl rfl rfl ?_
  refine qm_C.go (cd := qm_P74) (lv := [(0, qm_I (qm_i 6))]) rfl rfl ?_
  refine qm_G.s1 rfl (qm_x_iload rfl) ?_
  refine qm_G.s1 rfl (qm_x_pushI 0 rfl) ?_
  refine qm_G.s1 rfl (qm_x_pushI 6 rfl) ?_
  refine qm_G.cs rfl rfl rfl ?_
  refine qm_v_within10_t ⟨by decide, by decide⟩ ⟨by decide, by decide⟩ ⟨by decide, by decide⟩ (by decide) ⟨_, rfl, ?_⟩
  refine qm_G.ret rfl rfl ⟨_, rfl, ?_⟩
  refine qm_G.s1 rfl (qm_x_if_ne_t ⟨by decide, by decide⟩ (by decide)) ?_
  refine qm_G.sp (lv1 := [(0, qm_R (some (0, 0, 0))), (1, qm_I (qm_i 0)), (2, qm_I (qm_i 6))]) rfl rfl (qm_x_aload rfl) ?_
  refine qm_G.s1 rfl (qm_x_getfR (q := (some (0, 1, 0))) (hS 0 rfl) (hR 0 0 1 rfl rfl)) ?_
  refine qm_G.s1 rfl (qm_x_getfR (q := (some (0, 9, 0))) (hS 1 rfl) (hR 1 1 9 rfl rfl)) ?_
  refine qm_G.s1 rfl (qm_x_getfR (q := (some (0, 10, 0))) (hS 9 rfl) (hR 9 0 10 rfl rfl)) ?_
  refine qm_G.s1 rfl (qm_x_iload rfl) ?_
  refine qm_G.s1 rfl (qm_x_iald (v := (m 8)) (qm_arS hS rfl rfl) rfl (by decide) (by decide) (by decide) e8) ?_
  refine qm_G.s1 rfl (qm_x_istore (lv' := [(3, qm_I (qm_i (m 8))), (0, qm_R (some (0, 0, 0))), (1, qm_I (qm_i 0)), (2, qm_I (qm_i 6))]) rfl) ?_
  refine qm_G.s1 rfl (qm_x_aload rfl) ?_
  refine qm_G.s1 rfl (qm_x_getfR (q := (some (0, 1, 0))) (hS 0 rfl) (hR 0 0 1 rfl rfl)) ?_
  refine qm_G.s1 rfl (qm_x_getfR (q := (some (0, 9, 0))) (hS 1 rfl) (hR 1 1 9 rfl rfl)) ?_
  refine qm_G.s1 rfl (qm_x_getfR (q := (some (0, 10, 0))) (hS 9 rfl) (hR 9 0 10 rfl rfl)) ?_
  refine qm_G.s1 rfl (qm_x_iload rfl) ?_
  refine qm_G.s1 rfl (qm_x_iload rfl) ?_
  refine qm_G.s1 rfl (qm_x_iast (qm_arS hS rfl rfl) rfl (by decide) (by decide) (by decide)) ?_
  refine qm_G.s1 rfl (qm_x_iload rfl) ?_
  refine qm_G.ret rfl rfl ⟨_, rfl, ?_⟩
  refine qm_G.cs rfl rfl rfl ?_
  refine qm_C.go (cd := qm_P20) (lv := [(0, qm_I (qm_i (m 8)))]) rfl rfl ?_
  refine qm_G.s1 rfl (qm_x_iload rfl) ?_
  refine qm_G.s1 rfl (qm_x_if_lt_f ⟨by omega, by omega⟩ (by omega)) ?_
  refine qm_G.s1 rfl (qm_x_pushI 1 rfl) ?_
  refine qm_G.s1 rfl (qm_x_goto) ?_
  refine qm_G.ret rfl rfl ⟨_, rfl, ?_⟩
  refine qm_G.s1 rfl (qm_x_if_eq_f ⟨by decide, by decide⟩ (by decide)) ?_
  refine qm_G.s1 rfl (qm_x_aload rfl) ?_
  refine qm_G.s1 rfl (qm_x_pushI 1 rfl) ?_
  refine qm_G.s1 rfl (qm_x_pushI 6 rfl) ?_
  refine qm_G.cm rfl rfl (hS 0 rfl) rfl ?_
  refine qm_C.go (cd := qm_P118) (lv := [(0, qm_R (some (0, 0, 0))), (1, qm_I (qm_i 1)), (2, qm_I (qm_i 6))]) rfl rfl ?_
  refine qm_G.s1 rfl (qm_x_iload rfl) ?_
  refine qm_G.cs rfl rfl rfl ?_
  refine qm_C.go (cd := qm_P18) (lv := [(0, qm_I (qm_i 1))]) rfl rfl ?_
  refine qm_G.s1 rfl (qm_x_iload rfl) ?_
  refine qm_G.s1 rfl (qm_x_if_eq_f ⟨by decide, by decide⟩ (by decide)) ?_
  refine qm_G.s1 rfl (qm_x_iload rfl) ?_
  refine qm_G.s1 rfl (qm_x_pushI 1 rfl) ?_
  refine qm_G.s1 rfl (qm_x_icmp_ne_f ⟨by decide, by decide⟩ ⟨by decide, by decide⟩ (by decide)) ?_
  refine qm_G.sp (lv1 := []) rfl rfl (qm_x_pushI 1 rfl) ?_
  refine qm_G.s1 rfl (qm_x_goto) ?_
  refine qm_G.ret rfl rfl ⟨_, rfl, ?_⟩
  refine qm_G.s1 rfl (qm_x_if_ne_t ⟨by decide, by decide⟩ (by decide)) ?_
  refine qm_G.sp (lv1 := [(0, qm_R (some (0, 0, 0))), (1, qm_I (qm_i 1)), (2, qm_I (qm_i 6))]) rfl rfl (qm_x_iload rfl) ?_
  refine qm_G.cs rfl rfl rfl ?_
  refine qm_C.go (cd := qm_P74) (lv := [(0, qm_I (qm_i 6))]) rfl rfl ?_
  refine qm_G.s1 rfl (qm_x_iload rfl) ?_
  refine qm_G.s1 rfl (qm_x_pushI 0 rfl) ?_
  refine qm_G.s1 rfl (qm_x_pushI 6 rfl) ?_
  refine qm_G.cs rfl rfl rfl ?_
  refine qm_v_within10_t ⟨by decide, by decide⟩ ⟨by decide, by decide⟩ ⟨by decide, by decide⟩ (by decide) ⟨_, rfl, ?_⟩
  refine qm_G.ret rfl rfl ⟨_, rfl, ?_⟩
  refine qm_G.s1 rfl (qm_x_if_ne_t ⟨by decide, by decide⟩ (by decide)) ?_
  refine qm_G.sp (lv1 := [(0, qm_R (some (0, 0, 0))), (1, qm_I (qm_i 1)), (2, qm_I (qm_i 6))]) rfl rfl (qm_x_aload rfl) ?_
  refine qm_G.s1 rfl (qm_x_getfR (q := (some (0, 1, 0))) (hS 0 rfl) (hR 0 0 1 rfl rfl)) ?_
  refine qm_G.s1 rfl (qm_x_getfR (q := (some (0, 9, 0))) (hS 1 rfl) (hR 1 1 9 rfl rfl)) ?_
  refine qm_G.s1 rfl (qm_x_getfR (q := (some (0, 10, 0))) (hS 9 rfl) (hR 9 0 10 rfl rfl)) ?_
  refine qm_G.s1 rfl (qm_x_iload rfl) ?_
  refine qm_G.s1 rfl (qm_x_iald (v := (m 9)) (qm_arS hS rfl rfl) rfl (by decide) (by decide) (by decide) e9) ?_
  refine qm_G.s1 rfl (qm_x_istore (lv' := [(3, qm_I (qm_i (m 9))), (0, qm_R (some (0, 0, 0))), (1, qm_I (qm_i 1)), (2, qm_I (qm_i 6))]) rfl) ?_
  refine qm_G.s1 rfl (qm_x_aload rfl) ?_
  refine qm_G.s1 rfl (qm_x_getfR (q := (some (0, 1, 0))) (hS 0 rfl) (hR 0 0 1 rfl rfl)) ?_
  refine qm_G.s1 rfl (qm_x_getfR (q := (some (0, 9, 0))) (hS 1 rfl) (hR 1 1 9 rfl rfl)) ?_
  refine qm_G.s1 rfl (qm_x_getfR (q := (some (0, 10, 0))) (hS 9 rfl) (hR 9 0 10 rfl rfl)) ?_
  refine qm_G.s1 rfl (qm_x_iload rfl) ?_
  refine qm_G.s1 rfl (qm_x_iload rfl) ?_
  refine qm_G.s1 rfl (qm_x_iast (qm_arS hS rfl rfl) rfl (by decide) (by decide) (by decide)) ?_
  refine qm_G.s1 rfl (qm_x_iload rfl) ?_
  refine qm_G.ret rfl rfl ⟨_, rfl, ?_⟩
  refine qm_G.cs rfl rfl rfl ?_
  refine qm_C.go (cd := qm_P20) (lv := [(0, qm_I (qm_i (m 9)))]) rfl rfl ?_
  refine qm_G.s1 rfl (qm_x_iload rfl) ?_
  refine qm_G.s1 rfl (qm_x_if_lt_f ⟨by omega, by omega⟩ (by omega)) ?_
  refine qm_G.s1 rfl (qm_x_pushI 1 rfl) ?_
  refine qm_G.s1 rfl (qm_x_goto) ?_
  refine qm_G.ret rfl rfl ⟨_, rfl, ?_⟩
  refine qm_G.s1 rfl (qm_x_if_eq_f ⟨by decide, by decide⟩ (by decide)) ?_
  refine qm_G.s1 rfl (qm_x_pushI 1 rfl) ?_
  refine qm_G.s1 rfl (qm_x_goto) ?_
  exact qm_G.ret rfl rfl (k _ _ (fun r s i a b c d => (qm_st_ne (by omega)).trans (qm_st_ne (by omega))) (fun r s i a => rfl) ⟨((qm_st_ne (by omega)).trans ((qm_st_ne (by omega)).trans (e0))), ((qm_st_ne (by omega)).trans ((qm_st_ne (by omega)).trans (e1))), ((qm_st_ne (by omega)).trans ((qm_st_ne (by omega)).trans (e5))), ((qm_st_ne (by omega)).trans ((qm_st_ne (by omega)).trans (e6))), ((qm_st_ne (by omega)).trans (qm_st_eq)), (qm_st_eq), ((qm_st_ne (by omega)).trans ((qm_st_ne (by omega)).trans (e10))), ((qm_st_ne (by omega)).trans ((qm_st_ne (by omega)).trans (e11))), (ea), (eb)⟩)
theorem qm_d_do5 {S : List qm_Sh} {J K : qm_J} {L : qm_Ct Int64} {D : qm_Ct UInt64} {R : qm_Ct (Option qm_Rf)} {X : Nat × (Nat → Int32)} {Q : Option qm_V → qm_Hp → Prop} {m : Nat → Int} {a b : UInt64} {v : Int} {c : Nat} (hS : qm_Sd S) (hR : qm_Rd R) (hC : qm_Cl J D (m, a, b)) (hr : qm_Rg c (m, a, b)) (hc : c ≤ 900) (rv : 0 ≤ v ∧ v ≤ 9999) (k : ∀ (J1 : qm_J) (D1 : qm_Ct UInt64), qm_Cf J J1 → qm_Df D D1 → qm_Cl J1 D1 (qm_do 5 v (m, a, b)).1 → Q (some (qm_I (qm_i (qm_do 5 v (m, a, b)).2))) (qm_H S J1 K L D1 R X)) : qm_C qm_P 173 [qm_R (some (0, 0, 0)), qm_R (some (1, 10, 0)), qm_I (qm_i v)] (qm_H S J K L D R X) Q := by
  have e0 : J 3 0 0 = m 0 := hC.1
  have e1 : J 3 0 1 = m 1 := hC.2.1
  have e5 : J 3 0 5 = m 5 := hC.2.2.1
  have e6 : J 2 0 5 = m 6 := hC.2.2.2.1
  have e8 : J 10 0 0 = m 8 := hC.2.2.2.2.1
  have e9 : J 10 0 1 = m 9 := hC.2.2.2.2.2.1
  have e10 : J 9 0 1 = m 10 := hC.2.2.2.2.2.2.1
  have e11 : J 9 0 2 = m 11 := hC.2.2.2.2.2.2.2.1
  have ea : D 9 0 3 = a := hC.2.2.2.2.2.2.2.2.1
  have eb : D 9 0 4 = b := hC.2.2.2.2.2.2.2.2.2
  have r0 : 100 ≤ m 0 ∧ m 0 ≤ 9999 := hr.1
  have r1 : 1 ≤ m 1 ∧ m 1 ≤ 8 := hr.2.1
  have r5 : 1 ≤ m 5 ∧ m 5 ≤ 1000000 := hr.2.2.1
  have r6 : 0 ≤ m 6 ∧ m 6 ≤ 2 := hr.2.2.2.1
  have r8 : 0 ≤ m 8 ∧ m 8 ≤ 6 := hr.2.2.2.2.1
  have r9 : 0 ≤ m 9 ∧ m 9 ≤ 6 := hr.2.2.2.2.2.1
  have r10 : -8 ≤ m 10 ∧ m 10 ≤ 8 := hr.2.2.2.2.2.2.1
  have r11 : -2147483648 ≤ m 11 ∧ m 11 ≤ 2147483647 := hr.2.2.2.2.2.2.2.1
  have hm9 : qm_Mid a := hr.2.2.2.2.2.2.2.2.1
  have hs9 : qm_Spr c b := hr.2.2.2.2.2.2.2.2.2
  refine qm_C.go (cd := qm_P173) (lv := [(0, qm_R (some (0, 0, 0))), (1, qm_R (some (1, 10, 0))), (2, qm_I (qm_i v))]) rfl rfl ?_
  refine qm_G.s1 rfl (qm_x_aload rfl) ?_
  refine qm_G.s1 rfl (qm_x_ifnonnull1) ?_
  refine qm_G.sp (lv1 := [(0, qm_R (some (0, 0, 0))), (1, qm_R (some (1, 10, 0))), (2, qm_I (qm_i v))]) rfl rfl (qm_x_push) ?_
  refine qm_G.s1 rfl (qm_x_aload rfl) ?_
  refine qm_G.call rfl rfl rfl ?_
  refine qm_C.go (cd := qm_P13) (lv := [(0, qm_R (some (1, 10, 0)))]) rfl rfl ?_
  refine qm_G.s1 rfl (qm_x_aload rfl) ?_
  refine qm_G.s1 rfl (qm_x_getgI (v := 5) rfl rfl) ?_
  refine qm_G.ret rfl rfl ⟨_, rfl, ?_⟩
  refine qm_G.s1 rfl (qm_x_iald1 (v := 6) rfl rfl (by decide) (by decide) rfl) ?_
  refine qm_G.s1 rfl (qm_x_tsw (t := 126) rfl) ?_
  refine qm_G.sp (lv1 := [(0, qm_R (some (0, 0, 0))), (2, qm_I (qm_i v))]) rfl rfl (qm_x_aload rfl) ?_
  refine qm_G.s1 rfl (qm_x_pushI 0 rfl) ?_
  refine qm_G.s1 rfl (qm_x_iload rfl) ?_
  refine qm_G.cm rfl rfl (hS 0 rfl) rfl ?_
  refine qm_C.go (cd := qm_P138) (lv := [(0, qm_R (some (0, 0, 0))), (1, qm_I (qm_i 0)), (2, qm_I (qm_i v))]) rfl rfl ?_
  refine qm_G.s1 rfl (qm_x_iload rfl) ?_
  refine qm_G.s1 rfl (qm_x_pushI 0 rfl) ?_
  refine qm_G.s1 rfl (qm_x_pushI 5 rfl) ?_
  refine qm_G.cs rfl rfl rfl ?_
  refine qm_v_within10_t ⟨by decide, by decide⟩ ⟨by decide, by decide⟩ ⟨by decide, by decide⟩ (by decide) ⟨_, rfl, ?_⟩
  refine qm_G.s1 rfl (qm_x_if_ne_t ⟨by decide, by decide⟩ (by decide)) ?_
  refine qm_G.sp (lv1 := [(0, qm_R (some (0, 0, 0))), (1, qm_I (qm_i 0)), (2, qm_I (qm_i v))]) rfl rfl (qm_x_iload rfl) ?_
  refine qm_G.s1 rfl (qm_x_iload rfl) ?_
  refine qm_G.cs rfl rfl rfl ?_
  refine qm_C.go (cd := qm_P92) (lv := [(0, qm_I (qm_i 0)), (1, qm_I (qm_i v))]) rfl rfl ?_
  refine qm_G.s1 rfl (qm_x_iload rfl) ?_
  refine qm_G.s1 rfl (qm_x_pushI 0 rfl) ?_
  refine qm_G.s1 rfl (qm_x_pushI 5 rfl) ?_
  refine qm_G.cs rfl rfl rfl ?_
  refine qm_v_within10_t ⟨by decide, by decide⟩ ⟨by decide, by decide⟩ ⟨by decide, by decide⟩ (by decide) ⟨_, rfl, ?_⟩
  refine qm_G.s1 rfl (qm_x_if_eq_f ⟨by decide, by decide⟩ (by decide)) ?_
  refine qm_G.s1 rfl (qm_x_iload rfl) ?_
  refine qm_G.s1 rfl (qm_x_push) ?_
  refine qm_G.s1 rfl (qm_x_iload rfl) ?_
  refine qm_G.s1 rfl (qm_x_iald1 (v := 100) rfl rfl (by decide) (by decide) rfl) ?_
  refine qm_G.s1 rfl (qm_x_push) ?_
  refine qm_G.s1 rfl (qm_x_iload rfl) ?_
  refine qm_G.s1 rfl (qm_x_iald1 (v := 9999) rfl rfl (by decide) (by decide) rfl) ?_
  refine qm_G.cs rfl rfl rfl ?_
  refine qm_v_within10 ⟨by omega, by omega⟩ ⟨by decide, by decide⟩ ⟨by decide, by decide⟩ (fun c3 => ⟨_, rfl, ?_⟩) (fun c3 => ⟨_, rfl, ?_⟩)
  · refine qm_G.s1 rfl (qm_x_if_eq_f ⟨by decide, by decide⟩ (by decide)) ?_
    refine qm_G.s1 rfl (qm_x_pushI 1 rfl) ?_
    refine qm_G.s1 rfl (qm_x_goto) ?_
    refine qm_G.ret rfl rfl ⟨_, rfl, ?_⟩
    refine qm_G.s1 rfl (qm_x_if_ne_t ⟨by decide, by decide⟩ (by decide)) ?_
    refine qm_G.sp (lv1 := [(0, qm_R (some (0, 0, 0))), (1, qm_I (qm_i 0)), (2, qm_I (qm_i v))]) rfl rfl (qm_x_aload rfl) ?_
    refine qm_G.s1 rfl (qm_x_getfR (q := (some (0, 1, 0))) (hS 0 rfl) (hR 0 0 1 rfl rfl)) ?_
    refine qm_G.s1 rfl (qm_x_getfR (q := (some (0, 2, 0))) (hS 1 rfl) (hR 1 0 2 rfl rfl)) ?_
    refine qm_G.s1 rfl (qm_x_getfR (q := (some (0, 3, 0))) (hS 2 rfl) (hR 2 0 3 rfl rfl)) ?_
    refine qm_G.s1 rfl (qm_x_iload rfl) ?_
    refine qm_G.s1 rfl (qm_x_iald (v := (m 0)) (qm_arS hS rfl rfl) rfl (by decide) (by decide) (by decide) e0) ?_
    refine qm_G.s1 rfl (qm_x_istore (lv' := [(3, qm_I (qm_i (m 0))), (0, qm_R (some (0, 0, 0))), (1, qm_I (qm_i 0)), (2, qm_I (qm_i v))]) rfl) ?_
    refine qm_G.s1 rfl (qm_x_aload rfl) ?_
    refine qm_G.s1 rfl (qm_x_getfR (q := (some (0, 1, 0))) (hS 0 rfl) (hR 0 0 1 rfl rfl)) ?_
    refine qm_G.s1 rfl (qm_x_getfR (q := (some (0, 2, 0))) (hS 1 rfl) (hR 1 0 2 rfl rfl)) ?_
    refine qm_G.s1 rfl (qm_x_getfR (q := (some (0, 3, 0))) (hS 2 rfl) (hR 2 0 3 rfl rfl)) ?_
    refine qm_G.s1 rfl (qm_x_iload rfl) ?_
    refine qm_G.s1 rfl (qm_x_iload rfl) ?_
    refine qm_G.s1 rfl (qm_x_iast (qm_arS hS rfl rfl) rfl (by decide) (by decide) (by decide)) ?_
    refine qm_G.s1 rfl (qm_x_iload rfl) ?_
    refine qm_G.ret rfl rfl ⟨_, rfl, ?_⟩
    refine qm_G.cs rfl rfl rfl ?_
    refine qm_C.go (cd := qm_P20) (lv := [(0, qm_I (qm_i (m 0)))]) rfl rfl ?_
    refine qm_G.s1 rfl (qm_x_iload rfl) ?_
    refine qm_G.s1 rfl (qm_x_if_lt_f ⟨by omega, by omega⟩ (by omega)) ?_
    refine qm_G.s1 rfl (qm_x_pushI 1 rfl) ?_
    refine qm_G.s1 rfl (qm_x_goto) ?_
    refine qm_G.ret rfl rfl ⟨_, rfl, ?_⟩
    rw [show qm_do 5 v (m, a, b) = ((qm_up m 0 v, a, b), 1) from if_pos ⟨by omega, by omega⟩] at k
    exact qm_G.ret rfl rfl (k _ _ (fun r s i a b c d => qm_st_ne (by omega)) (fun r s i a => rfl) ⟨(qm_st_eq), ((qm_st_ne (by omega)).trans (e1)), ((qm_st_ne (by omega)).trans (e5)), ((qm_st_ne (by omega)).trans (e6)), ((qm_st_ne (by omega)).trans (e8)), ((qm_st_ne (by omega)).trans (e9)), ((qm_st_ne (by omega)).trans (e10)), ((qm_st_ne (by omega)).trans (e11)), (ea), (eb)⟩)
  · refine qm_G.s1 rfl (qm_x_if_eq_t ⟨by decide, by decide⟩ (by decide)) ?_
    refine qm_G.sp (lv1 := []) rfl rfl (qm_x_pushI 0 rfl) ?_
    refine qm_G.ret rfl rfl ⟨_, rfl, ?_⟩
    refine qm_G.s1 rfl (qm_x_if_ne_f ⟨by decide, by decide⟩ (by decide)) ?_
    refine qm_G.s1 rfl (qm_x_pushI (-2) rfl) ?_
    refine qm_G.ret rfl rfl ⟨_, rfl, ?_⟩
    refine qm_G.cs rfl rfl rfl ?_
    refine qm_C.go (cd := qm_P20) (lv := [(0, qm_I (qm_i (-2)))]) rfl rfl ?_
    refine qm_G.s1 rfl (qm_x_iload rfl) ?_
    refine qm_G.s1 rfl (qm_x_if_lt_t ⟨by decide, by decide⟩ (by decide)) ?_
    refine qm_G.sp (lv1 := []) rfl rfl (qm_x_pushI 0 rfl) ?_
    refine qm_G.ret rfl rfl ⟨_, rfl, ?_⟩
    rw [show qm_do 5 v (m, a, b) = ((m, a, b), 0) from if_neg (by omega)] at k
    exact qm_G.ret rfl rfl (k _ _ (fun r s i a b c d => rfl) (fun r s i a => rfl) ⟨(e0), (e1), (e5), (e6), (e8), (e9), (e10), (e11), (ea), (eb)⟩)
theorem qm_d_do6 {S : List qm_Sh} {J K : qm_J} {L : qm_Ct Int64} {D : qm_Ct UInt64} {R : qm_Ct (Option qm_Rf)} {X : Nat × (Nat → Int32)} {Q : Option qm_V → qm_Hp → Prop} {m : Nat → Int} {a b : UInt64} {v : Int} {c : Nat} (hS : qm_Sd S) (hR : qm_Rd R) (hC : qm_Cl J D (m, a, b)) (hr : qm_Rg c (m, a, b)) (hc : c ≤ 900) (rv : 0 ≤ v ∧ v ≤ 9999) (k : ∀ (J1 : qm_J) (D1 : qm_Ct UInt64), qm_Cf J J1 → qm_Df D D1 → qm_Cl J1 D1 (qm_do 6 v (m, a, b)).1 → Q (some (qm_I (qm_i (qm_do 6 v (m, a, b)).2))) (qm_H S J1 K L D1 R X)) : qm_C qm_P 173 [qm_R (some (0, 0, 0)), qm_R (some (1, 11, 0)), qm_I (qm_i v)] (qm_H S J K L D R X) Q := by
  have e0 : J 3 0 0 = m 0 := hC.1
  have e1 : J 3 0 1 = m 1 := hC.2.1
  have e5 : J 3 0 5 = m 5 := hC.2.2.1
  have e6 : J 2 0 5 = m 6 := hC.2.2.2.1
  have e8 : J 10 0 0 = m 8 := hC.2.2.2.2.1
  have e9 : J 10 0 1 = m 9 := hC.2.2.2.2.2.1
  have e10 : J 9 0 1 = m 10 := hC.2.2.2.2.2.2.1
  have e11 : J 9 0 2 = m 11 := hC.2.2.2.2.2.2.2.1
  have ea : D 9 0 3 = a := hC.2.2.2.2.2.2.2.2.1
  have eb : D 9 0 4 = b := hC.2.2.2.2.2.2.2.2.2
  have r0 : 100 ≤ m 0 ∧ m 0 ≤ 9999 := hr.1
  have r1 : 1 ≤ m 1 ∧ m 1 ≤ 8 := hr.2.1
  have r5 : 1 ≤ m 5 ∧ m 5 ≤ 1000000 := hr.2.2.1
  have r6 : 0 ≤ m 6 ∧ m 6 ≤ 2 := hr.2.2.2.1
  have r8 : 0 ≤ m 8 ∧ m 8 ≤ 6 := hr.2.2.2.2.1
  have r9 : 0 ≤ m 9 ∧ m 9 ≤ 6 := hr.2.2.2.2.2.1
  have r10 : -8 ≤ m 10 ∧ m 10 ≤ 8 := hr.2.2.2.2.2.2.1
  have r11 : -2147483648 ≤ m 11 ∧ m 11 ≤ 2147483647 := hr.2.2.2.2.2.2.2.1
  have hm9 : qm_Mid a := hr.2.2.2.2.2.2.2.2.1
  have hs9 : qm_Spr c b := hr.2.2.2.2.2.2.2.2.2
  refine qm_C.go (cd := qm_P173) (lv := [(0, qm_R (some (0, 0, 0))), (1, qm_R (some (1, 11, 0))), (2, qm_I (qm_i v))]) rfl rfl ?_
  refine qm_G.s1 rfl (qm_x_aload rfl) ?_
  refine qm_G.s1 rfl (qm_x_ifnonnull1) ?_
  refine qm_G.sp (lv1 := [(0, qm_R (some (0, 0, 0))), (1, qm_R (some (1, 11, 0))), (2, qm_I (qm_i v))]) rfl rfl (qm_x_push) ?_
  refine qm_G.s1 rfl (qm_x_aload rfl) ?_
  refine qm_G.call rfl rfl rfl ?_
  refine qm_C.go (cd := qm_P13) (lv := [(0, qm_R (some (1, 11, 0)))]) rfl rfl ?_
  refine qm_G.s1 rfl (qm_x_aload rfl) ?_
  refine qm_G.s1 rfl (qm_x_getgI (v := 6) rfl rfl) ?_
  refine qm_G.ret rfl rfl ⟨_, rfl, ?_⟩
  refine qm_G.s1 rfl (qm_x_iald1 (v := 7) rfl rfl (by decide) (by decide) rfl) ?_
  refine qm_G.s1 rfl (qm_x_tsw (t := 136) rfl) ?_
  refine qm_G.sp (lv1 := [(0, qm_R (some (0, 0, 0))), (2, qm_I (qm_i v))]) rfl rfl (qm_x_aload rfl) ?_
  refine qm_G.s1 rfl (qm_x_iload rfl) ?_
  refine qm_G.cm rfl rfl (hS 0 rfl) rfl ?_
  refine qm_C.go (cd := qm_P122) (lv := [(0, qm_R (some (0, 0, 0))), (1, qm_I (qm_i v))]) rfl rfl ?_
  refine qm_G.s1 rfl (qm_x_iload rfl) ?_
  refine qm_G.cs rfl rfl rfl ?_
  refine qm_C.go (cd := qm_P71) (lv := [(0, qm_I (qm_i v))]) rfl rfl ?_
  refine qm_G.s1 rfl (qm_x_iload rfl) ?_
  refine qm_G.s1 rfl (qm_x_pushI 0 rfl) ?_
  refine qm_G.s1 rfl (qm_x_pushI 2 rfl) ?_
  refine qm_G.cs rfl rfl rfl ?_
  refine qm_v_within10 ⟨by omega, by omega⟩ ⟨by decide, by decide⟩ ⟨by decide, by decide⟩ (fun c1 => ⟨_, rfl, ?_⟩) (fun c1 => ⟨_, rfl, ?_⟩)
  · refine qm_G.ret rfl rfl ⟨_, rfl, ?_⟩
    refine qm_G.s1 rfl (qm_x_if_ne_t ⟨by decide, by decide⟩ (by decide)) ?_
    refine qm_G.sp (lv1 := [(0, qm_R (some (0, 0, 0))), (1, qm_I (qm_i v))]) rfl rfl (qm_x_aload rfl) ?_
    refine qm_G.s1 rfl (qm_x_getfR (q := (some (0, 1, 0))) (hS 0 rfl) (hR 0 0 1 rfl rfl)) ?_
    refine qm_G.s1 rfl (qm_x_getfR (q := (some (0, 2, 0))) (hS 1 rfl) (hR 1 0 2 rfl rfl)) ?_
    refine qm_G.s1 rfl (qm_x_getfI (v := (m 6)) (hS 2 rfl) e6) ?_
    refine qm_G.s1 rfl (qm_x_istore (lv' := [(2, qm_I (qm_i (m 6))), (0, qm_R (some (0, 0, 0))), (1, qm_I (qm_i v))]) rfl) ?_
    refine qm_G.s1 rfl (qm_x_aload rfl) ?_
    refine qm_G.s1 rfl (qm_x_getfR (q := (some (0, 1, 0))) (hS 0 rfl) (hR 0 0 1 rfl rfl)) ?_
    refine qm_G.s1 rfl (qm_x_getfR (q := (some (0, 2, 0))) (hS 1 rfl) (hR 1 0 2 rfl rfl)) ?_
    refine qm_G.s1 rfl (qm_x_iload rfl) ?_
    refine qm_G.s1 rfl (qm_x_putfI (hS 2 rfl)) ?_
    refine qm_G.s1 rfl (qm_x_iload rfl) ?_
    refine qm_G.ret rfl rfl ⟨_, rfl, ?_⟩
    refine qm_G.cs rfl rfl rfl ?_
    refine qm_C.go (cd := qm_P20) (lv := [(0, qm_I (qm_i (m 6)))]) rfl rfl ?_
    refine qm_G.s1 rfl (qm_x_iload rfl) ?_
    refine qm_G.s1 rfl (qm_x_if_lt_f ⟨by omega, by omega⟩ (by omega)) ?_
    refine qm_G.s1 rfl (qm_x_pushI 1 rfl) ?_
    refine qm_G.s1 rfl (qm_x_goto) ?_
    refine qm_G.ret rfl rfl ⟨_, rfl, ?_⟩
    rw [show qm_do 6 v (m, a, b) = ((qm_up m 6 v, a, b), 1) from if_pos ⟨by omega, by omega⟩] at k
    exact qm_G.ret rfl rfl (k _ _ (fun r s i a b c d => qm_st_ne (by omega)) (fun r s i a => rfl) ⟨((qm_st_ne (by omega)).trans (e0)), ((qm_st_ne (by omega)).trans (e1)), ((qm_st_ne (by omega)).trans (e5)), (qm_st_eq), ((qm_st_ne (by omega)).trans (e8)), ((qm_st_ne (by omega)).trans (e9)), ((qm_st_ne (by omega)).trans (e10)), ((qm_st_ne (by omega)).trans (e11)), (ea), (eb)⟩)
  · refine qm_G.ret rfl rfl ⟨_, rfl, ?_⟩
    refine qm_G.s1 rfl (qm_x_if_ne_f ⟨by decide, by decide⟩ (by decide)) ?_
    refine qm_G.s1 rfl (qm_x_pushI (-1) rfl) ?_
    refine qm_G.ret rfl rfl ⟨_, rfl, ?_⟩
    refine qm_G.cs rfl rfl rfl ?_
    refine qm_C.go (cd := qm_P20) (lv := [(0, qm_I (qm_i (-1)))]) rfl rfl ?_
    refine qm_G.s1 rfl (qm_x_iload rfl) ?_
    refine qm_G.s1 rfl (qm_x_if_lt_t ⟨by decide, by decide⟩ (by decide)) ?_
    refine qm_G.sp (lv1 := []) rfl rfl (qm_x_pushI 0 rfl) ?_
    refine qm_G.ret rfl rfl ⟨_, rfl, ?_⟩
    rw [show qm_do 6 v (m, a, b) = ((m, a, b), 0) from if_neg (by omega)] at k
    exact qm_G.ret rfl rfl (k _ _ (fun r s i a b c d => rfl) (fun r s i a => rfl) ⟨(e0), (e1), (e5), (e6), (e8), (e9), (e10), (e11), (ea), (eb)⟩)
theorem qm_m_do0 {S : List qm_Sh} {J K : qm_J} {L : qm_Ct Int64} {D : qm_Ct UInt64} {R : qm_Ct (Option qm_Rf)} {X : Nat × (Nat → Int32)} {Q : Option qm_V → qm_Hp → Prop} {m : Nat → Int} {a b : UInt64} {v : Int} {c : Nat} (hS : qm_Sd S) (hR : qm_Rd R) (hC : qm_Cm J D (m, a, b)) (hr : qm_Rg c (m, a, b)) (hc : c ≤ 900) (rv : 0 ≤ v ∧ v ≤ 9999) (k : ∀ (J1 : qm_J) (D1 : qm_Ct UInt64), qm_Cg J J1 → qm_Dg D D1 → qm_Cm J1 D1 (qm_do 0 v (m, a, b)).1 → Q (some (qm_I (qm_i (qm_do 0 v (m, a, b)).2))) (qm_H S J1 K L D1 R X)) : qm_C qm_P 172 [qm_R (some (0, 61, 0)), qm_I (qm_i 0), qm_I (qm_i v)] (qm_H S J K L D R X) Q := by
  have e62 : ∀ i, J 62 0 i = m i := hC.1
  have ea : D 61 0 2 = a := hC.2.1
  have eb : D 61 0 3 = b := hC.2.2
  have r0 : 100 ≤ m 0 ∧ m 0 ≤ 9999 := hr.1
  have r1 : 1 ≤ m 1 ∧ m 1 ≤ 8 := hr.2.1
  have r5 : 1 ≤ m 5 ∧ m 5 ≤ 1000000 := hr.2.2.1
  have r6 : 0 ≤ m 6 ∧ m 6 ≤ 2 := hr.2.2.2.1
  have r8 : 0 ≤ m 8 ∧ m 8 ≤ 6 := hr.2.2.2.2.1
  have r9 : 0 ≤ m 9 ∧ m 9 ≤ 6 := hr.2.2.2.2.2.1
  have r10 : -8 ≤ m 10 ∧ m 10 ≤ 8 := hr.2.2.2.2.2.2.1
  have r11 : -2147483648 ≤ m 11 ∧ m 11 ≤ 2147483647 := hr.2.2.2.2.2.2.2.1
  have hm9 : qm_Mid a := hr.2.2.2.2.2.2.2.2.1
  have hs9 : qm_Spr c b := hr.2.2.2.2.2.2.2.2.2
  refine qm_C.go (cd := qm_P172) (lv := [(0, qm_R (some (0, 61, 0))), (1, qm_I (qm_i 0)), (2, qm_I (qm_i v))]) rfl rfl ?_
  refine qm_G.s1 rfl (qm_x_iload rfl) ?_
  refine qm_G.s1 rfl (qm_x_tsw (t := 40) rfl) ?_
  refine qm_G.sp (lv1 := [(0, qm_R (some (0, 61, 0))), (1, qm_I (qm_i 0)), (2, qm_I (qm_i v))]) rfl rfl (qm_x_aload rfl) ?_
  refine qm_G.s1 rfl (qm_x_iload rfl) ?_
  refine qm_G.s1 rfl (qm_x_iload rfl) ?_
  refine qm_G.cm rfl rfl (hS 61 rfl) rfl ?_
  refine qm_C.go (cd := qm_P129) (lv := [(0, qm_R (some (0, 61, 0))), (1, qm_I (qm_i 0)), (2, qm_I (qm_i v))]) rfl rfl ?_
  refine qm_G.s1 rfl (qm_x_iload rfl) ?_
  refine qm_G.cs rfl rfl rfl ?_
  refine qm_C.go (cd := qm_P83) (lv := [(0, qm_I (qm_i 0))]) rfl rfl ?_
  refine qm_G.s1 rfl (qm_x_iload rfl) ?_
  refine qm_G.s1 rfl (qm_x_pushI 0 rfl) ?_
  refine qm_G.s1 rfl (qm_x_pushI 1 rfl) ?_
  refine qm_G.cs rfl rfl rfl ?_
  refine qm_v_within11_t ⟨by decide, by decide⟩ ⟨by decide, by decide⟩ ⟨by decide, by decide⟩ (by decide) ⟨_, rfl, ?_⟩
  refine qm_G.ret rfl rfl ⟨_, rfl, ?_⟩
  refine qm_G.s1 rfl (qm_x_if_ne_t ⟨by decide, by decide⟩ (by decide)) ?_
  refine qm_G.sp (lv1 := [(0, qm_R (some (0, 61, 0))), (1, qm_I (qm_i 0)), (2, qm_I (qm_i v))]) rfl rfl (qm_x_iload rfl) ?_
  refine qm_G.s1 rfl (qm_x_pushI 0 rfl) ?_
  refine qm_G.s1 rfl (qm_x_pushI 6 rfl) ?_
  refine qm_G.cs rfl rfl rfl ?_
  refine qm_v_within11 ⟨by omega, by omega⟩ ⟨by decide, by decide⟩ ⟨by decide, by decide⟩ (fun c2 => ⟨_, rfl, ?_⟩) (fun c2 => ⟨_, rfl, ?_⟩)
  · refine qm_G.s1 rfl (qm_x_if_eq_f ⟨by decide, by decide⟩ (by decide)) ?_
    refine qm_G.s1 rfl (qm_x_aload rfl) ?_
    refine qm_G.s1 rfl (qm_x_pushI 8 rfl) ?_
    refine qm_G.s1 rfl (qm_x_iload rfl) ?_
    refine qm_G.s1 rfl (qm_x_iadd) ?_
    refine qm_G.s1 rfl (qm_x_iload rfl) ?_
    refine qm_G.cm rfl rfl (hS 61 rfl) rfl ?_
    refine qm_C.go (cd := qm_P22) (lv := [(0, qm_R (some (0, 61, 0))), (1, qm_I (qm_i (8 + 0))), (2, qm_I (qm_i v))]) rfl rfl ?_
    refine qm_G.s1 rfl (qm_x_aload rfl) ?_
    refine qm_G.s1 rfl (qm_x_getfR (q := (some (0, 62, 0))) (hS 61 rfl) (hR 61 0 62 rfl rfl)) ?_
    refine qm_G.s1 rfl (qm_x_iload rfl) ?_
    refine qm_G.s1 rfl (qm_x_iald (v := (m 8)) (qm_arS hS rfl rfl) rfl (by decide) (by decide) (by decide) (e62 8)) ?_
    refine qm_G.s1 rfl (qm_x_istore (lv' := [(3, qm_I (qm_i (m 8))), (0, qm_R (some (0, 61, 0))), (1, qm_I (qm_i (8 + 0))), (2, qm_I (qm_i v))]) rfl) ?_
    refine qm_G.s1 rfl (qm_x_aload rfl) ?_
    refine qm_G.s1 rfl (qm_x_getfR (q := (some (0, 62, 0))) (hS 61 rfl) (hR 61 0 62 rfl rfl)) ?_
    refine qm_G.s1 rfl (qm_x_iload rfl) ?_
    refine qm_G.s1 rfl (qm_x_iload rfl) ?_
    refine qm_G.s1 rfl (qm_x_iast (qm_arS hS rfl rfl) rfl (by decide) (by decide) (by decide)) ?_
    refine qm_G.s1 rfl (qm_x_iload rfl) ?_
    refine qm_G.ret rfl rfl ⟨_, rfl, ?_⟩
    refine qm_G.s1 rfl (qm_x_goto) ?_
    refine qm_G.ret rfl rfl ⟨_, rfl, ?_⟩
    refine qm_G.s1 rfl (qm_x_if_lt_f ⟨by omega, by omega⟩ (by omega)) ?_
    refine qm_G.s1 rfl (qm_x_pushI 1 rfl) ?_
    refine qm_G.s1 rfl (qm_x_goto) ?_
    rw [show qm_do 0 v (m, a, b) = ((qm_up m 8 v, a, b), 1) from if_pos ⟨by omega, by omega⟩] at k
    exact qm_G.ret rfl rfl (k _ _ (fun r s i a => qm_st_ne (by omega)) (fun r s i a => rfl) ⟨(qm_up_s e62), (ea), (eb)⟩)
  · refine qm_G.s1 rfl (qm_x_if_eq_t ⟨by decide, by decide⟩ (by decide)) ?_
    refine qm_G.sp (lv1 := []) rfl rfl (qm_x_pushI (-2) rfl) ?_
    refine qm_G.ret rfl rfl ⟨_, rfl, ?_⟩
    refine qm_G.s1 rfl (qm_x_if_lt_t ⟨by decide, by decide⟩ (by decide)) ?_
    refine qm_G.sp (lv1 := []) rfl rfl (qm_x_pushI 0 rfl) ?_
    rw [show qm_do 0 v (m, a, b) = ((m, a, b), 0) from if_neg (by omega)] at k
    exact qm_G.ret rfl rfl (k _ _ (fun r s i a => rfl) (fun r s i a => rfl) ⟨e62, (ea), (eb)⟩)
theorem qm_m_do1 {S : List qm_Sh} {J K : qm_J} {L : qm_Ct Int64} {D : qm_Ct UInt64} {R : qm_Ct (Option qm_Rf)} {X : Nat × (Nat → Int32)} {Q : Option qm_V → qm_Hp → Prop} {m : Nat → Int} {a b : UInt64} {v : Int} {c : Nat} (hS : qm_Sd S) (hR : qm_Rd R) (hC : qm_Cm J D (m, a, b)) (hr : qm_Rg c (m, a, b)) (hc : c ≤ 900) (rv : 0 ≤ v ∧ v ≤ 9999) (k : ∀ (J1 : qm_J) (D1 : qm_Ct UInt64), qm_Cg J J1 → qm_Dg D D1 → qm_Cm J1 D1 (qm_do 1 v (m, a, b)).1 → Q (some (qm_I (qm_i (qm_do 1 v (m, a, b)).2))) (qm_H S J1 K L D1 R X)) : qm_C qm_P 172 [qm_R (some (0, 61, 0)), qm_I (qm_i 1), qm_I (qm_i v)] (qm_H S J K L D R X) Q := by
  have e62 : ∀ i, J 62 0 i = m i := hC.1
  have ea : D 61 0 2 = a := hC.2.1
  have eb : D 61 0 3 = b := hC.2.2
  have r0 : 100 ≤ m 0 ∧ m 0 ≤ 9999 := hr.1
  have r1 : 1 ≤ m 1 ∧ m 1 ≤ 8 := hr.2.1
  have r5 : 1 ≤ m 5 ∧ m 5 ≤ 1000000 := hr.2.2.1
  have r6 : 0 ≤ m 6 ∧ m 6 ≤ 2 := hr.2.2.2.1
  have r8 : 0 ≤ m 8 ∧ m 8 ≤ 6 := hr.2.2.2.2.1
  have r9 : 0 ≤ m 9 ∧ m 9 ≤ 6 := hr.2.2.2.2.2.1
  have r10 : -8 ≤ m 10 ∧ m 10 ≤ 8 := hr.2.2.2.2.2.2.1
  have r11 : -2147483648 ≤ m 11 ∧ m 11 ≤ 2147483647 := hr.2.2.2.2.2.2.2.1
  have hm9 : qm_Mid a := hr.2.2.2.2.2.2.2.2.1
  have hs9 : qm_Spr c b := hr.2.2.2.2.2.2.2.2.2
  refine qm_C.go (cd := qm_P172) (lv := [(0, qm_R (some (0, 61, 0))), (1, qm_I (qm_i 1)), (2, qm_I (qm_i v))]) rfl rfl ?_
  refine qm_G.s1 rfl (qm_x_iload rfl) ?_
  refine qm_G.s1 rfl (qm_x_tsw (t := 40) rfl) ?_
  refine qm_G.sp (lv1 := [(0, qm_R (some (0, 61, 0))), (1, qm_I (qm_i 1)), (2, qm_I (qm_i v))]) rfl rfl (qm_x_aload rfl) ?_
  refine qm_G.s1 rfl (qm_x_iload rfl) ?_
  refine qm_G.s1 rfl (qm_x_iload rfl) ?_
  refine qm_G.cm rfl rfl (hS 61 rfl) rfl ?_
  refine qm_C.go (cd := qm_P129) (lv := [(0, qm_R (some (0, 61, 0))), (1, qm_I (qm_i 1)), (2, qm_I (qm_i v))]) rfl rfl ?_
  refine qm_G.s1 rfl (qm_x_iload rfl) ?_
  refine qm_G.cs rfl rfl rfl ?_
  refine qm_C.go (cd := qm_P83) (lv := [(0, qm_I (qm_i 1))]) rfl rfl ?_
  refine qm_G.s1 rfl (qm_x_iload rfl) ?_
  refine qm_G.s1 rfl (qm_x_pushI 0 rfl) ?_
  refine qm_G.s1 rfl (qm_x_pushI 1 rfl) ?_
  refine qm_G.cs rfl rfl rfl ?_
  refine qm_v_within11_t ⟨by decide, by decide⟩ ⟨by decide, by decide⟩ ⟨by decide, by decide⟩ (by decide) ⟨_, rfl, ?_⟩
  refine qm_G.ret rfl rfl ⟨_, rfl, ?_⟩
  refine qm_G.s1 rfl (qm_x_if_ne_t ⟨by decide, by decide⟩ (by decide)) ?_
  refine qm_G.sp (lv1 := [(0, qm_R (some (0, 61, 0))), (1, qm_I (qm_i 1)), (2, qm_I (qm_i v))]) rfl rfl (qm_x_iload rfl) ?_
  refine qm_G.s1 rfl (qm_x_pushI 0 rfl) ?_
  refine qm_G.s1 rfl (qm_x_pushI 6 rfl) ?_
  refine qm_G.cs rfl rfl rfl ?_
  refine qm_v_within11 ⟨by omega, by omega⟩ ⟨by decide, by decide⟩ ⟨by decide, by decide⟩ (fun c2 => ⟨_, rfl, ?_⟩) (fun c2 => ⟨_, rfl, ?_⟩)
  · refine qm_G.s1 rfl (qm_x_if_eq_f ⟨by decide, by decide⟩ (by decide)) ?_
    refine qm_G.s1 rfl (qm_x_aload rfl) ?_
    refine qm_G.s1 rfl (qm_x_pushI 8 rfl) ?_
    refine qm_G.s1 rfl (qm_x_iload rfl) ?_
    refine qm_G.s1 rfl (qm_x_iadd) ?_
    refine qm_G.s1 rfl (qm_x_iload rfl) ?_
    refine qm_G.cm rfl rfl (hS 61 rfl) rfl ?_
    refine qm_C.go (cd := qm_P22) (lv := [(0, qm_R (some (0, 61, 0))), (1, qm_I (qm_i (8 + 1))), (2, qm_I (qm_i v))]) rfl rfl ?_
    refine qm_G.s1 rfl (qm_x_aload rfl) ?_
    refine qm_G.s1 rfl (qm_x_getfR (q := (some (0, 62, 0))) (hS 61 rfl) (hR 61 0 62 rfl rfl)) ?_
    refine qm_G.s1 rfl (qm_x_iload rfl) ?_
    refine qm_G.s1 rfl (qm_x_iald (v := (m 9)) (qm_arS hS rfl rfl) rfl (by decide) (by decide) (by decide) (e62 9)) ?_
    refine qm_G.s1 rfl (qm_x_istore (lv' := [(3, qm_I (qm_i (m 9))), (0, qm_R (some (0, 61, 0))), (1, qm_I (qm_i (8 + 1))), (2, qm_I (qm_i v))]) rfl) ?_
    refine qm_G.s1 rfl (qm_x_aload rfl) ?_
    refine qm_G.s1 rfl (qm_x_getfR (q := (some (0, 62, 0))) (hS 61 rfl) (hR 61 0 62 rfl rfl)) ?_
    refine qm_G.s1 rfl (qm_x_iload rfl) ?_
    refine qm_G.s1 rfl (qm_x_iload rfl) ?_
    refine qm_G.s1 rfl (qm_x_iast (qm_arS hS rfl rfl) rfl (by decide) (by decide) (by decide)) ?_
    refine qm_G.s1 rfl (qm_x_iload rfl) ?_
    refine qm_G.ret rfl rfl ⟨_, rfl, ?_⟩
    refine qm_G.s1 rfl (qm_x_goto) ?_
    refine qm_G.ret rfl rfl ⟨_, rfl, ?_⟩
    refine qm_G.s1 rfl (qm_x_if_lt_f ⟨by omega, by omega⟩ (by omega)) ?_
    refine qm_G.s1 rfl (qm_x_pushI 1 rfl) ?_
    refine qm_G.s1 rfl (qm_x_goto) ?_
    rw [show qm_do 1 v (m, a, b) = ((qm_up m 9 v, a, b), 1) from if_pos ⟨by omega, by omega⟩] at k
    exact qm_G.ret rfl rfl (k _ _ (fun r s i a => qm_st_ne (by omega)) (fun r s i a => rfl) ⟨(qm_up_s e62), (ea), (eb)⟩)
  · refine qm_G.s1 rfl (qm_x_if_eq_t ⟨by decide, by decide⟩ (by decide)) ?_
    refine qm_G.sp (lv1 := []) rfl rfl (qm_x_pushI (-2) rfl) ?_
    refine qm_G.ret rfl rfl ⟨_, rfl, ?_⟩
    refine qm_G.s1 rfl (qm_x_if_lt_t ⟨by decide, by decide⟩ (by decide)) ?_
    refine qm_G.sp (lv1 := []) rfl rfl (qm_x_pushI 0 rfl) ?_
    rw [show qm_do 1 v (m, a, b) = ((m, a, b), 0) from if_neg (by omega)] at k
    exact qm_G.ret rfl rfl (k _ _ (fun r s i a => rfl) (fun r s i a => rfl) ⟨e62, (ea), (eb)⟩)
theorem qm_m_do2 {S : List qm_Sh} {J K : qm_J} {L : qm_Ct Int64} {D : qm_Ct UInt64} {R : qm_Ct (Option qm_Rf)} {X : Nat × (Nat → Int32)} {Q : Option qm_V → qm_Hp → Prop} {m : Nat → Int} {a b : UInt64} {v : Int} {c : Nat} (hS : qm_Sd S) (hR : qm_Rd R) (hC : qm_Cm J D (m, a, b)) (hr : qm_Rg c (m, a, b)) (hc : c ≤ 900) (rv : 0 ≤ v ∧ v ≤ 9999) (k : ∀ (J1 : qm_J) (D1 : qm_Ct UInt64), qm_Cg J J1 → qm_Dg D D1 → qm_Cm J1 D1 (qm_do 2 v (m, a, b)).1 → Q (some (qm_I (qm_i (qm_do 2 v (m, a, b)).2))) (qm_H S J1 K L D1 R X)) : qm_C qm_P 172 [qm_R (some (0, 61, 0)), qm_I (qm_i 2), qm_I (qm_i v)] (qm_H S J K L D R X) Q := by
  have e62 : ∀ i, J 62 0 i = m i := hC.1
  have ea : D 61 0 2 = a := hC.2.1
  have eb : D 61 0 3 = b := hC.2.2
  have r0 : 100 ≤ m 0 ∧ m 0 ≤ 9999 := hr.1
  have r1 : 1 ≤ m 1 ∧ m 1 ≤ 8 := hr.2.1
  have r5 : 1 ≤ m 5 ∧ m 5 ≤ 1000000 := hr.2.2.1
  have r6 : 0 ≤ m 6 ∧ m 6 ≤ 2 := hr.2.2.2.1
  have r8 : 0 ≤ m 8 ∧ m 8 ≤ 6 := hr.2.2.2.2.1
  have r9 : 0 ≤ m 9 ∧ m 9 ≤ 6 := hr.2.2.2.2.2.1
  have r10 : -8 ≤ m 10 ∧ m 10 ≤ 8 := hr.2.2.2.2.2.2.1
  have r11 : -2147483648 ≤ m 11 ∧ m 11 ≤ 2147483647 := hr.2.2.2.2.2.2.2.1
  have hm9 : qm_Mid a := hr.2.2.2.2.2.2.2.2.1
  have hs9 : qm_Spr c b := hr.2.2.2.2.2.2.2.2.2
  obtain ⟨P9, eP9⟩ : ∃ P : Int, P = m 0 - m 8 := ⟨_, rfl⟩
  obtain ⟨W9, eW9⟩ : ∃ W : Int, W = P9 * m 5 := ⟨_, rfl⟩
  have hW9 : 0 ≤ W9 ∧ W9 ≤ 10005000000 := by rw [eW9]; exact qm_W9 (by omega) r5
  obtain ⟨t1, t2, t3, t4, t5, t6, t7, t8, t9⟩ := qm_trn (P := P9) ⟨by omega, by omega⟩ hc hm9 hs9
  have eD : qm_do 2 v (m, a, b) = qm_dlw m a b (m 10 + 1) P9 W9 (m 11 - W9) (m 8) := by rw [eW9, eP9]; rfl
  rw [eD] at k
  refine qm_C.go (cd := qm_P172) (lv := [(0, qm_R (some (0, 61, 0))), (1, qm_I (qm_i 2)), (2, qm_I (qm_i v))]) rfl rfl ?_
  refine qm_G.s1 rfl (qm_x_iload rfl) ?_
  refine qm_G.s1 rfl (qm_x_tsw (t := 55) rfl) ?_
  refine qm_G.sp (lv1 := [(0, qm_R (some (0, 61, 0))), (1, qm_I (qm_i 2))]) rfl rfl (qm_x_aload rfl) ?_
  refine qm_G.s1 rfl (qm_x_iload rfl) ?_
  refine qm_G.s1 rfl (qm_x_pushI 2 rfl) ?_
  refine qm_G.s1 rfl (qm_x_isub) ?_
  refine qm_G.cm rfl rfl (hS 61 rfl) rfl ?_
  refine qm_C.go (cd := qm_P143) (lv := [(0, qm_R (some (0, 61, 0))), (1, qm_I (qm_i (2 - 2)))]) rfl rfl ?_
  refine qm_G.s1 rfl (qm_x_iload rfl) ?_
  refine qm_G.cs rfl rfl rfl ?_
  refine qm_C.go (cd := qm_P83) (lv := [(0, qm_I (qm_i (2 - 2)))]) rfl rfl ?_
  refine qm_G.s1 rfl (qm_x_iload rfl) ?_
  refine qm_G.s1 rfl (qm_x_pushI 0 rfl) ?_
  refine qm_G.s1 rfl (qm_x_pushI 1 rfl) ?_
  refine qm_G.cs rfl rfl rfl ?_
  refine qm_v_within11_t ⟨by omega, by omega⟩ ⟨by decide, by decide⟩ ⟨by decide, by decide⟩ (by decide) ⟨_, rfl, ?_⟩
  refine qm_G.ret rfl rfl ⟨_, rfl, ?_⟩
  refine qm_G.s1 rfl (qm_x_if_ne_t ⟨by decide, by decide⟩ (by decide)) ?_
  rcases (show W9 ≤ 2147483647 ∨ 2147483648 ≤ W9 by omega) with cw | cw
  · rcases (show (-2147483648 ≤ m 11 - W9 ∧ m 11 - W9 ≤ 2147483647) ∨ m 11 - W9 < -2147483648 ∨ 2147483647 < m 11 - W9 by omega) with cc | cc | cc
    · refine qm_G.sp (lv1 := [(0, qm_R (some (0, 61, 0))), (1, qm_I (qm_i (2 - 2)))]) rfl rfl (qm_x_aload rfl) ?_
      refine qm_G.s1 rfl (qm_x_getfR (q := (some (0, 62, 0))) (hS 61 rfl) (hR 61 0 62 rfl rfl)) ?_
      refine qm_G.s1 rfl (qm_x_pushI 8 rfl) ?_
      refine qm_G.s1 rfl (qm_x_iload rfl) ?_
      refine qm_G.s1 rfl (qm_x_iadd) ?_
      refine qm_G.s1 rfl (qm_x_iald (v := (m 8)) (qm_arS hS rfl rfl) rfl (by decide) (by decide) (by decide) (e62 8)) ?_
      refine qm_G.s1 rfl (qm_x_istore (lv' := [(2, qm_I (qm_i (m 8))), (0, qm_R (some (0, 61, 0))), (1, qm_I (qm_i (2 - 2)))]) rfl) ?_
      refine qm_G.s1 rfl (qm_x_iload rfl) ?_
      refine qm_G.s1 rfl (qm_x_if_ne_f ⟨by omega, by omega⟩ (by omega)) ?_
      refine qm_G.s1 rfl (qm_x_aload rfl) ?_
      refine qm_G.s1 rfl (qm_x_getfR (q := (some (0, 62, 0))) (hS 61 rfl) (hR 61 0 62 rfl rfl)) ?_
      refine qm_G.s1 rfl (qm_x_pushI 10 rfl) ?_
      refine qm_G.s1 rfl (qm_x_iald (v := (m 10)) (qm_arS hS rfl rfl) rfl (by decide) (by decide) (by decide) (e62 10)) ?_
      refine qm_G.s1 rfl (qm_x_pushI 1 rfl) ?_
      refine qm_G.s1 rfl (qm_x_iadd) ?_
      refine qm_G.s1 rfl (qm_x_goto) ?_
      refine qm_G.sp (lv1 := [(0, qm_R (some (0, 61, 0))), (1, qm_I (qm_i (2 - 2))), (2, qm_I (qm_i (m 8)))]) rfl rfl (qm_x_istore (lv' := [(3, qm_I (qm_i ((m 10) + 1))), (0, qm_R (some (0, 61, 0))), (1, qm_I (qm_i (2 - 2))), (2, qm_I (qm_i (m 8)))]) rfl) ?_
      refine qm_G.s1 rfl (qm_x_iload rfl) ?_
      refine qm_G.s1 rfl (qm_x_pushI 6 rfl) ?_
      refine qm_y_icmp_eq rfl ⟨by omega, by omega⟩ ⟨by decide, by decide⟩ (fun c2 => ?_) (fun c2 => ?_)
      · refine qm_G.sp (lv1 := []) rfl rfl (qm_x_pushI (-3) rfl) ?_
        refine qm_G.ret rfl rfl ⟨_, rfl, ?_⟩
        refine qm_G.s1 rfl (qm_x_if_lt_t ⟨by decide, by decide⟩ (by decide)) ?_
        refine qm_G.sp (lv1 := []) rfl rfl (qm_x_pushI 0 rfl) ?_
        rw [show qm_dlw m a b (m 10 + 1) P9 W9 (m 11 - W9) (m 8) = ((m, a, b), 0) from if_pos (by omega)] at k
        exact qm_G.ret rfl rfl (k _ _ (fun r s i a => rfl) (fun r s i a => rfl) ⟨e62, (ea), (eb)⟩)
      · refine qm_G.s1 rfl (qm_x_aload rfl) ?_
        refine qm_G.s1 rfl (qm_x_iload rfl) ?_
        refine qm_G.cm rfl rfl (hS 61 rfl) rfl ?_
        refine qm_C.go (cd := qm_P85) (lv := [(0, qm_R (some (0, 61, 0))), (1, qm_I (qm_i ((m 10) + 1)))]) rfl rfl ?_
        refine qm_G.s1 rfl (qm_x_iload rfl) ?_
        refine qm_G.s1 rfl (qm_x_aload rfl) ?_
        refine qm_G.s1 rfl (qm_x_getfR (q := (some (0, 62, 0))) (hS 61 rfl) (hR 61 0 62 rfl rfl)) ?_
        refine qm_G.s1 rfl (qm_x_pushI 1 rfl) ?_
        refine qm_G.s1 rfl (qm_x_iald (v := (m 1)) (qm_arS hS rfl rfl) rfl (by decide) (by decide) (by decide) (e62 1)) ?_
        refine qm_G.s1 rfl (qm_x_ineg) ?_
        refine qm_G.s1 rfl (qm_x_aload rfl) ?_
        refine qm_G.s1 rfl (qm_x_getfR (q := (some (0, 62, 0))) (hS 61 rfl) (hR 61 0 62 rfl rfl)) ?_
        refine qm_G.s1 rfl (qm_x_pushI 1 rfl) ?_
        refine qm_G.s1 rfl (qm_x_iald (v := (m 1)) (qm_arS hS rfl rfl) rfl (by decide) (by decide) (by decide) (e62 1)) ?_
        refine qm_G.cs rfl rfl rfl ?_
        refine qm_v_within11 ⟨by omega, by omega⟩ ⟨by omega, by omega⟩ ⟨by omega, by omega⟩ (fun c3 => ⟨_, rfl, ?_⟩) (fun c3 => ⟨_, rfl, ?_⟩)
        · refine qm_G.ret rfl rfl ⟨_, rfl, ?_⟩
          refine qm_G.s1 rfl (qm_x_if_ne_t ⟨by decide, by decide⟩ (by decide)) ?_
          refine qm_G.sp (lv1 := [(0, qm_R (some (0, 61, 0))), (1, qm_I (qm_i (2 - 2))), (2, qm_I (qm_i (m 8))), (3, qm_I (qm_i ((m 10) + 1)))]) rfl rfl (qm_x_iload rfl) ?_
          refine qm_G.s1 rfl (qm_x_if_ne_f ⟨by omega, by omega⟩ (by omega)) ?_
          refine qm_G.s1 rfl (qm_x_aload rfl) ?_
          refine qm_G.s1 rfl (qm_x_getfR (q := (some (0, 62, 0))) (hS 61 rfl) (hR 61 0 62 rfl rfl)) ?_
          refine qm_G.s1 rfl (qm_x_pushI 0 rfl) ?_
          refine qm_G.s1 rfl (qm_x_iald (v := (m 0)) (qm_arS hS rfl rfl) rfl (by decide) (by decide) (by decide) (e62 0)) ?_
          refine qm_G.s1 rfl (qm_x_iload rfl) ?_
          refine qm_G.s1 rfl (qm_x_isub) ?_
          refine qm_G.s1 rfl (qm_x_goto) ?_
          refine qm_G.sp (lv1 := [(0, qm_R (some (0, 61, 0))), (1, qm_I (qm_i (2 - 2))), (3, qm_I (qm_i ((m 10) + 1)))]) rfl rfl (qm_x_istore (lv' := [(4, qm_I (qm_i ((m 0) - (m 8)))), (0, qm_R (some (0, 61, 0))), (1, qm_I (qm_i (2 - 2))), (3, qm_I (qm_i ((m 10) + 1)))]) rfl) ?_
          refine qm_G.s1 rfl (qm_x_iload rfl) ?_
          refine qm_G.s1 rfl (qm_x_i2l ⟨by omega, by omega⟩) ?_
          refine qm_G.s1 rfl (qm_x_aload rfl) ?_
          refine qm_G.s1 rfl (qm_x_getfR (q := (some (0, 62, 0))) (hS 61 rfl) (hR 61 0 62 rfl rfl)) ?_
          refine qm_G.s1 rfl (qm_x_pushI 5 rfl) ?_
          refine qm_G.s1 rfl (qm_x_iald (v := (m 5)) (qm_arS hS rfl rfl) rfl (by decide) (by decide) (by decide) (e62 5)) ?_
          refine qm_G.s1 rfl (qm_x_i2l ⟨by omega, by omega⟩) ?_
          refine qm_G.s1 rfl (qm_x_lmule (w := W9) (by rw [eW9, show ((m 0) - (m 8)) = P9 by omega, show (m 5) = m 5 by omega])) ?_
          refine qm_G.s1 rfl (qm_x_lstore (lv' := [(5, qm_L (qm_l W9)), (4, qm_I (qm_i ((m 0) - (m 8)))), (0, qm_R (some (0, 61, 0))), (1, qm_I (qm_i (2 - 2))), (3, qm_I (qm_i ((m 10) + 1)))]) rfl) ?_
          refine qm_G.s1 rfl (qm_x_iload rfl) ?_
          refine qm_G.s1 rfl (qm_x_if_ne_f ⟨by omega, by omega⟩ (by omega)) ?_
          refine qm_G.s1 rfl (qm_x_aload rfl) ?_
          refine qm_G.s1 rfl (qm_x_getfR (q := (some (0, 62, 0))) (hS 61 rfl) (hR 61 0 62 rfl rfl)) ?_
          refine qm_G.s1 rfl (qm_x_pushI 11 rfl) ?_
          refine qm_G.s1 rfl (qm_x_iald (v := (m 11)) (qm_arS hS rfl rfl) rfl (by decide) (by decide) (by decide) (e62 11)) ?_
          refine qm_G.s1 rfl (qm_x_i2l ⟨by omega, by omega⟩) ?_
          refine qm_G.s1 rfl (qm_x_lload rfl) ?_
          refine qm_G.s1 rfl (qm_x_lsubz) ?_
          refine qm_G.s1 rfl (qm_x_goto) ?_
          refine qm_G.sp (lv1 := [(0, qm_R (some (0, 61, 0))), (3, qm_I (qm_i ((m 10) + 1))), (4, qm_I (qm_i ((m 0) - (m 8)))), (5, qm_L (qm_l W9))]) rfl rfl (qm_x_lstore (lv' := [(7, qm_L (qm_l ((m 11) - W9))), (0, qm_R (some (0, 61, 0))), (3, qm_I (qm_i ((m 10) + 1))), (4, qm_I (qm_i ((m 0) - (m 8)))), (5, qm_L (qm_l W9))]) rfl) ?_
          refine qm_G.s1 rfl (qm_x_lload rfl) ?_
          refine qm_G.s1 rfl (qm_x_lload rfl) ?_
          refine qm_G.s1 rfl (qm_x_l2i ⟨by omega, by omega⟩) ?_
          refine qm_G.s1 rfl (qm_x_i2l ⟨by omega, by omega⟩) ?_
          refine qm_G.s1 rfl (qm_x_lcmp_eq rfl) ?_
          refine qm_G.s1 rfl (qm_x_if_ne_f ⟨by decide, by decide⟩ (by decide)) ?_
          refine qm_G.s1 rfl (qm_x_lload rfl) ?_
          refine qm_G.s1 rfl (qm_x_lload rfl) ?_
          refine qm_G.s1 rfl (qm_x_l2i ⟨by omega, by omega⟩) ?_
          refine qm_G.s1 rfl (qm_x_i2l ⟨by omega, by omega⟩) ?_
          refine qm_G.s1 rfl (qm_x_lcmp_eq rfl) ?_
          refine qm_G.s1 rfl (qm_x_if_eq_t ⟨by decide, by decide⟩ (by decide)) ?_
          refine qm_G.sp (lv1 := [(0, qm_R (some (0, 61, 0))), (3, qm_I (qm_i ((m 10) + 1))), (4, qm_I (qm_i ((m 0) - (m 8)))), (7, qm_L (qm_l ((m 11) - W9)))]) rfl rfl (qm_x_aload rfl) ?_
          refine qm_G.s1 rfl (qm_x_getfR (q := (some (0, 62, 0))) (hS 61 rfl) (hR 61 0 62 rfl rfl)) ?_
          refine qm_G.s1 rfl (qm_x_pushI 10 rfl) ?_
          refine qm_G.s1 rfl (qm_x_iload rfl) ?_
          refine qm_G.s1 rfl (qm_x_iast (qm_arS hS rfl rfl) rfl (by decide) (by decide) (by decide)) ?_
          refine qm_G.s1 rfl (qm_x_aload rfl) ?_
          refine qm_G.s1 rfl (qm_x_getfR (q := (some (0, 62, 0))) (hS 61 rfl) (hR 61 0 62 rfl rfl)) ?_
          refine qm_G.s1 rfl (qm_x_pushI 11 rfl) ?_
          refine qm_G.s1 rfl (qm_x_lload rfl) ?_
          refine qm_G.s1 rfl (qm_x_l2i ⟨by omega, by omega⟩) ?_
          refine qm_G.s1 rfl (qm_x_iast (qm_arS hS rfl rfl) rfl (by decide) (by decide) (by decide)) ?_
          refine qm_G.s1 rfl (qm_x_iload rfl) ?_
          refine qm_G.s1 rfl (qm_x_i2de (y := P9) (by omega)) ?_
          refine qm_G.s1 rfl (qm_x_dstore (lv' := [(9, qm_D (FP.i2d (qm_i P9))), (0, qm_R (some (0, 61, 0))), (3, qm_I (qm_i ((m 10) + 1))), (4, qm_I (qm_i ((m 0) - (m 8)))), (7, qm_L (qm_l ((m 11) - W9)))]) rfl) ?_
          refine qm_G.s1 rfl (qm_x_aload rfl) ?_
          refine qm_G.s1 rfl (qm_x_aload rfl) ?_
          refine qm_G.s1 rfl (qm_x_getfD (a := b) (hS 61 rfl) eb) ?_
          refine qm_G.s1 rfl (qm_x_push) ?_
          refine qm_G.s1 rfl (qm_x_dmuls t2) ?_
          refine qm_G.s1 rfl (qm_x_dload rfl) ?_
          refine qm_G.s1 rfl (qm_x_aload rfl) ?_
          refine qm_G.s1 rfl (qm_x_getfD (a := a) (hS 61 rfl) ea) ?_
          refine qm_G.s1 rfl (qm_x_dsubs t1) ?_
          refine qm_G.s1 rfl (qm_x_dload rfl) ?_
          refine qm_G.s1 rfl (qm_x_aload rfl) ?_
          refine qm_G.s1 rfl (qm_x_getfD (a := a) (hS 61 rfl) ea) ?_
          refine qm_G.s1 rfl (qm_x_dsubs t1) ?_
          refine qm_G.s1 rfl (qm_x_dmuls t3) ?_
          refine qm_G.s1 rfl (qm_x_push) ?_
          refine qm_G.s1 rfl (qm_x_dmuls t4) ?_
          refine qm_G.s1 rfl (qm_x_dadds t5) ?_
          refine qm_G.s1 rfl (qm_x_putfD (hS 61 rfl)) ?_
          refine qm_G.s1 rfl (qm_x_aload rfl) ?_
          refine qm_G.s1 rfl (qm_x_aload rfl) ?_
          refine qm_G.s1 rfl (qm_x_getfD (a := a) (hS 61 rfl) ea) ?_
          refine qm_G.s1 rfl (qm_x_dload rfl) ?_
          refine qm_G.s1 rfl (qm_x_aload rfl) ?_
          refine qm_G.s1 rfl (qm_x_getfD (a := a) (hS 61 rfl) ea) ?_
          refine qm_G.s1 rfl (qm_x_dsubs t1) ?_
          refine qm_G.s1 rfl (qm_x_push) ?_
          refine qm_G.s1 rfl (qm_x_dmuls t6) ?_
          refine qm_G.s1 rfl (qm_x_dadds t7) ?_
          refine qm_G.s1 rfl (qm_x_putfD (hS 61 rfl)) ?_
          refine qm_G.s1 rfl (qm_x_iload rfl) ?_
          refine qm_G.s1 rfl (qm_x_pushI 100 rfl) ?_
          refine qm_G.s1 rfl (qm_x_iadd) ?_
          refine qm_G.ret rfl rfl ⟨_, rfl, ?_⟩
          refine qm_G.s1 rfl (qm_x_if_lt_f ⟨by omega, by omega⟩ (by omega)) ?_
          refine qm_G.s1 rfl (qm_x_pushI 1 rfl) ?_
          refine qm_G.s1 rfl (qm_x_goto) ?_
          rw [show qm_dlw m a b (m 10 + 1) P9 W9 (m 11 - W9) (m 8) = ((qm_up (qm_up m 10 (m 10 + 1)) 11 (m 11 - W9), FP.dadd a (FP.dmul (FP.dsub (FP.i2d (qm_i P9)) a) 4598175219545276416), FP.dadd (FP.dmul b 4604930618986332160) (FP.dmul (FP.dmul (FP.dsub (FP.i2d (qm_i P9)) a) (FP.dsub (FP.i2d (qm_i P9)) a)) 4598175219545276416)), 1) from (if_neg (by omega)).trans (if_neg (fun h => by unfold qm_sm at h; omega))] at k
          rw [show (m 10) + 1 = m 10 + 1 by omega]
          rw [show ((m 11) - W9) = m 11 - W9 by omega]
          exact qm_G.ret rfl rfl (k _ _ (fun r s i a => (qm_st_ne (by omega)).trans (qm_st_ne (by omega))) (fun r s i a => (qm_st_ne (by omega)).trans (qm_st_ne (by omega))) ⟨(qm_up_s (qm_up_s e62)), (qm_st_eq), ((qm_st_ne (by omega)).trans (qm_st_eq))⟩)
        · refine qm_G.ret rfl rfl ⟨_, rfl, ?_⟩
          refine qm_G.s1 rfl (qm_x_if_ne_f ⟨by decide, by decide⟩ (by decide)) ?_
          refine qm_G.sp (lv1 := []) rfl rfl (qm_x_pushI (-3) rfl) ?_
          refine qm_G.ret rfl rfl ⟨_, rfl, ?_⟩
          refine qm_G.s1 rfl (qm_x_if_lt_t ⟨by decide, by decide⟩ (by decide)) ?_
          refine qm_G.sp (lv1 := []) rfl rfl (qm_x_pushI 0 rfl) ?_
          rw [show qm_dlw m a b (m 10 + 1) P9 W9 (m 11 - W9) (m 8) = ((m, a, b), 0) from if_pos (by omega)] at k
          exact qm_G.ret rfl rfl (k _ _ (fun r s i a => rfl) (fun r s i a => rfl) ⟨e62, (ea), (eb)⟩)
    · refine qm_G.sp (lv1 := [(0, qm_R (some (0, 61, 0))), (1, qm_I (qm_i (2 - 2)))]) rfl rfl (qm_x_aload rfl) ?_
      refine qm_G.s1 rfl (qm_x_getfR (q := (some (0, 62, 0))) (hS 61 rfl) (hR 61 0 62 rfl rfl)) ?_
      refine qm_G.s1 rfl (qm_x_pushI 8 rfl) ?_
      refine qm_G.s1 rfl (qm_x_iload rfl) ?_
      refine qm_G.s1 rfl (qm_x_iadd) ?_
      refine qm_G.s1 rfl (qm_x_iald (v := (m 8)) (qm_arS hS rfl rfl) rfl (by decide) (by decide) (by decide) (e62 8)) ?_
      refine qm_G.s1 rfl (qm_x_istore (lv' := [(2, qm_I (qm_i (m 8))), (0, qm_R (some (0, 61, 0))), (1, qm_I (qm_i (2 - 2)))]) rfl) ?_
      refine qm_G.s1 rfl (qm_x_iload rfl) ?_
      refine qm_G.s1 rfl (qm_x_if_ne_f ⟨by omega, by omega⟩ (by omega)) ?_
      refine qm_G.s1 rfl (qm_x_aload rfl) ?_
      refine qm_G.s1 rfl (qm_x_getfR (q := (some (0, 62, 0))) (hS 61 rfl) (hR 61 0 62 rfl rfl)) ?_
      refine qm_G.s1 rfl (qm_x_pushI 10 rfl) ?_
      refine qm_G.s1 rfl (qm_x_iald (v := (m 10)) (qm_arS hS rfl rfl) rfl (by decide) (by decide) (by decide) (e62 10)) ?_
      refine qm_G.s1 rfl (qm_x_pushI 1 rfl) ?_
      refine qm_G.s1 rfl (qm_x_iadd) ?_
      refine qm_G.s1 rfl (qm_x_goto) ?_
      refine qm_G.sp (lv1 := [(0, qm_R (some (0, 61, 0))), (1, qm_I (qm_i (2 - 2))), (2, qm_I (qm_i (m 8)))]) rfl rfl (qm_x_istore (lv' := [(3, qm_I (qm_i ((m 10) + 1))), (0, qm_R (some (0, 61, 0))), (1, qm_I (qm_i (2 - 2))), (2, qm_I (qm_i (m 8)))]) rfl) ?_
      refine qm_G.s1 rfl (qm_x_iload rfl) ?_
      refine qm_G.s1 rfl (qm_x_pushI 6 rfl) ?_
      refine qm_y_icmp_eq rfl ⟨by omega, by omega⟩ ⟨by decide, by decide⟩ (fun c4 => ?_) (fun c4 => ?_)
      · refine qm_G.sp (lv1 := []) rfl rfl (qm_x_pushI (-3) rfl) ?_
        refine qm_G.ret rfl rfl ⟨_, rfl, ?_⟩
        refine qm_G.s1 rfl (qm_x_if_lt_t ⟨by decide, by decide⟩ (by decide)) ?_
        refine qm_G.sp (lv1 := []) rfl rfl (qm_x_pushI 0 rfl) ?_
        rw [show qm_dlw m a b (m 10 + 1) P9 W9 (m 11 - W9) (m 8) = ((m, a, b), 0) from if_pos (by omega)] at k
        exact qm_G.ret rfl rfl (k _ _ (fun r s i a => rfl) (fun r s i a => rfl) ⟨e62, (ea), (eb)⟩)
      · refine qm_G.s1 rfl (qm_x_aload rfl) ?_
        refine qm_G.s1 rfl (qm_x_iload rfl) ?_
        refine qm_G.cm rfl rfl (hS 61 rfl) rfl ?_
        refine qm_C.go (cd := qm_P85) (lv := [(0, qm_R (some (0, 61, 0))), (1, qm_I (qm_i ((m 10) + 1)))]) rfl rfl ?_
        refine qm_G.s1 rfl (qm_x_iload rfl) ?_
        refine qm_G.s1 rfl (qm_x_aload rfl) ?_
        refine qm_G.s1 rfl (qm_x_getfR (q := (some (0, 62, 0))) (hS 61 rfl) (hR 61 0 62 rfl rfl)) ?_
        refine qm_G.s1 rfl (qm_x_pushI 1 rfl) ?_
        refine qm_G.s1 rfl (qm_x_iald (v := (m 1)) (qm_arS hS rfl rfl) rfl (by decide) (by decide) (by decide) (e62 1)) ?_
        refine qm_G.s1 rfl (qm_x_ineg) ?_
        refine qm_G.s1 rfl (qm_x_aload rfl) ?_
        refine qm_G.s1 rfl (qm_x_getfR (q := (some (0, 62, 0))) (hS 61 rfl) (hR 61 0 62 rfl rfl)) ?_
        refine qm_G.s1 rfl (qm_x_pushI 1 rfl) ?_
        refine qm_G.s1 rfl (qm_x_iald (v := (m 1)) (qm_arS hS rfl rfl) rfl (by decide) (by decide) (by decide) (e62 1)) ?_
        refine qm_G.cs rfl rfl rfl ?_
        refine qm_v_within11 ⟨by omega, by omega⟩ ⟨by omega, by omega⟩ ⟨by omega, by omega⟩ (fun c5 => ⟨_, rfl, ?_⟩) (fun c5 => ⟨_, rfl, ?_⟩)
        · refine qm_G.ret rfl rfl ⟨_, rfl, ?_⟩
          refine qm_G.s1 rfl (qm_x_if_ne_t ⟨by decide, by decide⟩ (by decide)) ?_
          refine qm_G.sp (lv1 := [(0, qm_R (some (0, 61, 0))), (1, qm_I (qm_i (2 - 2))), (2, qm_I (qm_i (m 8))), (3, qm_I (qm_i ((m 10) + 1)))]) rfl rfl (qm_x_iload rfl) ?_
          refine qm_G.s1 rfl (qm_x_if_ne_f ⟨by omega, by omega⟩ (by omega)) ?_
          refine qm_G.s1 rfl (qm_x_aload rfl) ?_
          refine qm_G.s1 rfl (qm_x_getfR (q := (some (0, 62, 0))) (hS 61 rfl) (hR 61 0 62 rfl rfl)) ?_
          refine qm_G.s1 rfl (qm_x_pushI 0 rfl) ?_
          refine qm_G.s1 rfl (qm_x_iald (v := (m 0)) (qm_arS hS rfl rfl) rfl (by decide) (by decide) (by decide) (e62 0)) ?_
          refine qm_G.s1 rfl (qm_x_iload rfl) ?_
          refine qm_G.s1 rfl (qm_x_isub) ?_
          refine qm_G.s1 rfl (qm_x_goto) ?_
          refine qm_G.sp (lv1 := [(0, qm_R (some (0, 61, 0))), (1, qm_I (qm_i (2 - 2))), (3, qm_I (qm_i ((m 10) + 1)))]) rfl rfl (qm_x_istore (lv' := [(4, qm_I (qm_i ((m 0) - (m 8)))), (0, qm_R (some (0, 61, 0))), (1, qm_I (qm_i (2 - 2))), (3, qm_I (qm_i ((m 10) + 1)))]) rfl) ?_
          refine qm_G.s1 rfl (qm_x_iload rfl) ?_
          refine qm_G.s1 rfl (qm_x_i2l ⟨by omega, by omega⟩) ?_
          refine qm_G.s1 rfl (qm_x_aload rfl) ?_
          refine qm_G.s1 rfl (qm_x_getfR (q := (some (0, 62, 0))) (hS 61 rfl) (hR 61 0 62 rfl rfl)) ?_
          refine qm_G.s1 rfl (qm_x_pushI 5 rfl) ?_
          refine qm_G.s1 rfl (qm_x_iald (v := (m 5)) (qm_arS hS rfl rfl) rfl (by decide) (by decide) (by decide) (e62 5)) ?_
          refine qm_G.s1 rfl (qm_x_i2l ⟨by omega, by omega⟩) ?_
          refine qm_G.s1 rfl (qm_x_lmule (w := W9) (by rw [eW9, show ((m 0) - (m 8)) = P9 by omega, show (m 5) = m 5 by omega])) ?_
          refine qm_G.s1 rfl (qm_x_lstore (lv' := [(5, qm_L (qm_l W9)), (4, qm_I (qm_i ((m 0) - (m 8)))), (0, qm_R (some (0, 61, 0))), (1, qm_I (qm_i (2 - 2))), (3, qm_I (qm_i ((m 10) + 1)))]) rfl) ?_
          refine qm_G.s1 rfl (qm_x_iload rfl) ?_
          refine qm_G.s1 rfl (qm_x_if_ne_f ⟨by omega, by omega⟩ (by omega)) ?_
          refine qm_G.s1 rfl (qm_x_aload rfl) ?_
          refine qm_G.s1 rfl (qm_x_getfR (q := (some (0, 62, 0))) (hS 61 rfl) (hR 61 0 62 rfl rfl)) ?_
          refine qm_G.s1 rfl (qm_x_pushI 11 rfl) ?_
          refine qm_G.s1 rfl (qm_x_iald (v := (m 11)) (qm_arS hS rfl rfl) rfl (by decide) (by decide) (by decide) (e62 11)) ?_
          refine qm_G.s1 rfl (qm_x_i2l ⟨by omega, by omega⟩) ?_
          refine qm_G.s1 rfl (qm_x_lload rfl) ?_
          refine qm_G.s1 rfl (qm_x_lsubz) ?_
          refine qm_G.s1 rfl (qm_x_goto) ?_
          refine qm_G.sp (lv1 := [(0, qm_R (some (0, 61, 0))), (3, qm_I (qm_i ((m 10) + 1))), (4, qm_I (qm_i ((m 0) - (m 8)))), (5, qm_L (qm_l W9))]) rfl rfl (qm_x_lstore (lv' := [(7, qm_L (qm_l ((m 11) - W9))), (0, qm_R (some (0, 61, 0))), (3, qm_I (qm_i ((m 10) + 1))), (4, qm_I (qm_i ((m 0) - (m 8)))), (5, qm_L (qm_l W9))]) rfl) ?_
          refine qm_G.s1 rfl (qm_x_lload rfl) ?_
          refine qm_G.s1 rfl (qm_x_lload rfl) ?_
          refine qm_G.s1 rfl (qm_x_l2i ⟨by omega, by omega⟩) ?_
          refine qm_G.s1 rfl (qm_x_i2l ⟨by omega, by omega⟩) ?_
          refine qm_G.s1 rfl (qm_x_lcmp_eq rfl) ?_
          refine qm_G.s1 rfl (qm_x_if_ne_f ⟨by decide, by decide⟩ (by decide)) ?_
          refine qm_G.s1 rfl (qm_x_lload rfl) ?_
          refine qm_G.s1 rfl (qm_x_lload rfl) ?_
          refine qm_G.s1 rfl (qm_x_l2ir) ?_
          have g6 : qm_sm ((qm_l ((m 11) - W9)).toInt32.toInt) := qm_i_sml _
          refine qm_G.s1 rfl (qm_x_i2l ⟨by omega, by omega⟩) ?_
          refine qm_G.s1 rfl (qm_x_lcmpz_lt ⟨by omega, by omega⟩ ⟨by omega, by omega⟩ (by omega)) ?_
          refine qm_G.s1 rfl (qm_x_if_eq_f ⟨by decide, by decide⟩ (by decide)) ?_
          refine qm_G.sp (lv1 := []) rfl rfl (qm_x_pushI (-15) rfl) ?_
          refine qm_G.ret rfl rfl ⟨_, rfl, ?_⟩
          refine qm_G.s1 rfl (qm_x_if_lt_t ⟨by decide, by decide⟩ (by decide)) ?_
          refine qm_G.sp (lv1 := []) rfl rfl (qm_x_pushI 0 rfl) ?_
          rw [show qm_dlw m a b (m 10 + 1) P9 W9 (m 11 - W9) (m 8) = ((m, a, b), 0) from (if_neg (by omega)).trans (if_pos (by unfold qm_sm; omega))] at k
          exact qm_G.ret rfl rfl (k _ _ (fun r s i a => rfl) (fun r s i a => rfl) ⟨e62, (ea), (eb)⟩)
        · refine qm_G.ret rfl rfl ⟨_, rfl, ?_⟩
          refine qm_G.s1 rfl (qm_x_if_ne_f ⟨by decide, by decide⟩ (by decide)) ?_
          refine qm_G.sp (lv1 := []) rfl rfl (qm_x_pushI (-3) rfl) ?_
          refine qm_G.ret rfl rfl ⟨_, rfl, ?_⟩
          refine qm_G.s1 rfl (qm_x_if_lt_t ⟨by decide, by decide⟩ (by decide)) ?_
          refine qm_G.sp (lv1 := []) rfl rfl (qm_x_pushI 0 rfl) ?_
          rw [show qm_dlw m a b (m 10 + 1) P9 W9 (m 11 - W9) (m 8) = ((m, a, b), 0) from if_pos (by omega)] at k
          exact qm_G.ret rfl rfl (k _ _ (fun r s i a => rfl) (fun r s i a => rfl) ⟨e62, (ea), (eb)⟩)
    · exact absurd cc (by omega)
  · refine qm_G.sp (lv1 := [(0, qm_R (some (0, 61, 0))), (1, qm_I (qm_i (2 - 2)))]) rfl rfl (qm_x_aload rfl) ?_
    refine qm_G.s1 rfl (qm_x_getfR (q := (some (0, 62, 0))) (hS 61 rfl) (hR 61 0 62 rfl rfl)) ?_
    refine qm_G.s1 rfl (qm_x_pushI 8 rfl) ?_
    refine qm_G.s1 rfl (qm_x_iload rfl) ?_
    refine qm_G.s1 rfl (qm_x_iadd) ?_
    refine qm_G.s1 rfl (qm_x_iald (v := (m 8)) (qm_arS hS rfl rfl) rfl (by decide) (by decide) (by decide) (e62 8)) ?_
    refine qm_G.s1 rfl (qm_x_istore (lv' := [(2, qm_I (qm_i (m 8))), (0, qm_R (some (0, 61, 0))), (1, qm_I (qm_i (2 - 2)))]) rfl) ?_
    refine qm_G.s1 rfl (qm_x_iload rfl) ?_
    refine qm_G.s1 rfl (qm_x_if_ne_f ⟨by omega, by omega⟩ (by omega)) ?_
    refine qm_G.s1 rfl (qm_x_aload rfl) ?_
    refine qm_G.s1 rfl (qm_x_getfR (q := (some (0, 62, 0))) (hS 61 rfl) (hR 61 0 62 rfl rfl)) ?_
    refine qm_G.s1 rfl (qm_x_pushI 10 rfl) ?_
    refine qm_G.s1 rfl (qm_x_iald (v := (m 10)) (qm_arS hS rfl rfl) rfl (by decide) (by decide) (by decide) (e62 10)) ?_
    refine qm_G.s1 rfl (qm_x_pushI 1 rfl) ?_
    refine qm_G.s1 rfl (qm_x_iadd) ?_
    refine qm_G.s1 rfl (qm_x_goto) ?_
    refine qm_G.sp (lv1 := [(0, qm_R (some (0, 61, 0))), (1, qm_I (qm_i (2 - 2))), (2, qm_I (qm_i (m 8)))]) rfl rfl (qm_x_istore (lv' := [(3, qm_I (qm_i ((m 10) + 1))), (0, qm_R (some (0, 61, 0))), (1, qm_I (qm_i (2 - 2))), (2, qm_I (qm_i (m 8)))]) rfl) ?_
    refine qm_G.s1 rfl (qm_x_iload rfl) ?_
    refine qm_G.s1 rfl (qm_x_pushI 6 rfl) ?_
    refine qm_y_icmp_eq rfl ⟨by omega, by omega⟩ ⟨by decide, by decide⟩ (fun c7 => ?_) (fun c7 => ?_)
    · refine qm_G.sp (lv1 := []) rfl rfl (qm_x_pushI (-3) rfl) ?_
      refine qm_G.ret rfl rfl ⟨_, rfl, ?_⟩
      refine qm_G.s1 rfl (qm_x_if_lt_t ⟨by decide, by decide⟩ (by decide)) ?_
      refine qm_G.sp (lv1 := []) rfl rfl (qm_x_pushI 0 rfl) ?_
      rw [show qm_dlw m a b (m 10 + 1) P9 W9 (m 11 - W9) (m 8) = ((m, a, b), 0) from if_pos (by omega)] at k
      exact qm_G.ret rfl rfl (k _ _ (fun r s i a => rfl) (fun r s i a => rfl) ⟨e62, (ea), (eb)⟩)
    · refine qm_G.s1 rfl (qm_x_aload rfl) ?_
      refine qm_G.s1 rfl (qm_x_iload rfl) ?_
      refine qm_G.cm rfl rfl (hS 61 rfl) rfl ?_
      refine qm_C.go (cd := qm_P85) (lv := [(0, qm_R (some (0, 61, 0))), (1, qm_I (qm_i ((m 10) + 1)))]) rfl rfl ?_
      refine qm_G.s1 rfl (qm_x_iload rfl) ?_
      refine qm_G.s1 rfl (qm_x_aload rfl) ?_
      refine qm_G.s1 rfl (qm_x_getfR (q := (some (0, 62, 0))) (hS 61 rfl) (hR 61 0 62 rfl rfl)) ?_
      refine qm_G.s1 rfl (qm_x_pushI 1 rfl) ?_
      refine qm_G.s1 rfl (qm_x_iald (v := (m 1)) (qm_arS hS rfl rfl) rfl (by decide) (by decide) (by decide) (e62 1)) ?_
      refine qm_G.s1 rfl (qm_x_ineg) ?_
      refine qm_G.s1 rfl (qm_x_aload rfl) ?_
      refine qm_G.s1 rfl (qm_x_getfR (q := (some (0, 62, 0))) (hS 61 rfl) (hR 61 0 62 rfl rfl)) ?_
      refine qm_G.s1 rfl (qm_x_pushI 1 rfl) ?_
      refine qm_G.s1 rfl (qm_x_iald (v := (m 1)) (qm_arS hS rfl rfl) rfl (by decide) (by decide) (by decide) (e62 1)) ?_
      refine qm_G.cs rfl rfl rfl ?_
      refine qm_v_within11 ⟨by omega, by omega⟩ ⟨by omega, by omega⟩ ⟨by omega, by omega⟩ (fun c8 => ⟨_, rfl, ?_⟩) (fun c8 => ⟨_, rfl, ?_⟩)
      · refine qm_G.ret rfl rfl ⟨_, rfl, ?_⟩
        refine qm_G.s1 rfl (qm_x_if_ne_t ⟨by decide, by decide⟩ (by decide)) ?_
        refine qm_G.sp (lv1 := [(0, qm_R (some (0, 61, 0))), (1, qm_I (qm_i (2 - 2))), (2, qm_I (qm_i (m 8))), (3, qm_I (qm_i ((m 10) + 1)))]) rfl rfl (qm_x_iload rfl) ?_
        refine qm_G.s1 rfl (qm_x_if_ne_f ⟨by omega, by omega⟩ (by omega)) ?_
        refine qm_G.s1 rfl (qm_x_aload rfl) ?_
        refine qm_G.s1 rfl (qm_x_getfR (q := (some (0, 62, 0))) (hS 61 rfl) (hR 61 0 62 rfl rfl)) ?_
        refine qm_G.s1 rfl (qm_x_pushI 0 rfl) ?_
        refine qm_G.s1 rfl (qm_x_iald (v := (m 0)) (qm_arS hS rfl rfl) rfl (by decide) (by decide) (by decide) (e62 0)) ?_
        refine qm_G.s1 rfl (qm_x_iload rfl) ?_
        refine qm_G.s1 rfl (qm_x_isub) ?_
        refine qm_G.s1 rfl (qm_x_goto) ?_
        refine qm_G.sp (lv1 := [(0, qm_R (some (0, 61, 0))), (1, qm_I (qm_i (2 - 2))), (3, qm_I (qm_i ((m 10) + 1)))]) rfl rfl (qm_x_istore (lv' := [(4, qm_I (qm_i ((m 0) - (m 8)))), (0, qm_R (some (0, 61, 0))), (1, qm_I (qm_i (2 - 2))), (3, qm_I (qm_i ((m 10) + 1)))]) rfl) ?_
        refine qm_G.s1 rfl (qm_x_iload rfl) ?_
        refine qm_G.s1 rfl (qm_x_i2l ⟨by omega, by omega⟩) ?_
        refine qm_G.s1 rfl (qm_x_aload rfl) ?_
        refine qm_G.s1 rfl (qm_x_getfR (q := (some (0, 62, 0))) (hS 61 rfl) (hR 61 0 62 rfl rfl)) ?_
        refine qm_G.s1 rfl (qm_x_pushI 5 rfl) ?_
        refine qm_G.s1 rfl (qm_x_iald (v := (m 5)) (qm_arS hS rfl rfl) rfl (by decide) (by decide) (by decide) (e62 5)) ?_
        refine qm_G.s1 rfl (qm_x_i2l ⟨by omega, by omega⟩) ?_
        refine qm_G.s1 rfl (qm_x_lmule (w := W9) (by rw [eW9, show ((m 0) - (m 8)) = P9 by omega, show (m 5) = m 5 by omega])) ?_
        refine qm_G.s1 rfl (qm_x_lstore (lv' := [(5, qm_L (qm_l W9)), (4, qm_I (qm_i ((m 0) - (m 8)))), (0, qm_R (some (0, 61, 0))), (1, qm_I (qm_i (2 - 2))), (3, qm_I (qm_i ((m 10) + 1)))]) rfl) ?_
        refine qm_G.s1 rfl (qm_x_iload rfl) ?_
        refine qm_G.s1 rfl (qm_x_if_ne_f ⟨by omega, by omega⟩ (by omega)) ?_
        refine qm_G.s1 rfl (qm_x_aload rfl) ?_
        refine qm_G.s1 rfl (qm_x_getfR (q := (some (0, 62, 0))) (hS 61 rfl) (hR 61 0 62 rfl rfl)) ?_
        refine qm_G.s1 rfl (qm_x_pushI 11 rfl) ?_
        refine qm_G.s1 rfl (qm_x_iald (v := (m 11)) (qm_arS hS rfl rfl) rfl (by decide) (by decide) (by decide) (e62 11)) ?_
        refine qm_G.s1 rfl (qm_x_i2l ⟨by omega, by omega⟩) ?_
        refine qm_G.s1 rfl (qm_x_lload rfl) ?_
        refine qm_G.s1 rfl (qm_x_lsubz) ?_
        refine qm_G.s1 rfl (qm_x_goto) ?_
        refine qm_G.sp (lv1 := [(0, qm_R (some (0, 61, 0))), (3, qm_I (qm_i ((m 10) + 1))), (4, qm_I (qm_i ((m 0) - (m 8)))), (5, qm_L (qm_l W9))]) rfl rfl (qm_x_lstore (lv' := [(7, qm_L (qm_l ((m 11) - W9))), (0, qm_R (some (0, 61, 0))), (3, qm_I (qm_i ((m 10) + 1))), (4, qm_I (qm_i ((m 0) - (m 8)))), (5, qm_L (qm_l W9))]) rfl) ?_
        refine qm_G.s1 rfl (qm_x_lload rfl) ?_
        refine qm_G.s1 rfl (qm_x_lload rfl) ?_
        refine qm_G.s1 rfl (qm_x_l2ir) ?_
        have g9 : qm_sm ((qm_l W9).toInt32.toInt) := qm_i_sml _
        refine qm_G.s1 rfl (qm_x_i2l ⟨by omega, by omega⟩) ?_
        refine qm_G.s1 rfl (qm_x_lcmpz_gt ⟨by omega, by omega⟩ ⟨by omega, by omega⟩ (by omega)) ?_
        refine qm_G.s1 rfl (qm_x_if_ne_t ⟨by decide, by decide⟩ (by decide)) ?_
        refine qm_G.sp (lv1 := []) rfl rfl (qm_x_pushI (-15) rfl) ?_
        refine qm_G.ret rfl rfl ⟨_, rfl, ?_⟩
        refine qm_G.s1 rfl (qm_x_if_lt_t ⟨by decide, by decide⟩ (by decide)) ?_
        refine qm_G.sp (lv1 := []) rfl rfl (qm_x_pushI 0 rfl) ?_
        rw [show qm_dlw m a b (m 10 + 1) P9 W9 (m 11 - W9) (m 8) = ((m, a, b), 0) from (if_neg (by omega)).trans (if_pos (by unfold qm_sm; omega))] at k
        exact qm_G.ret rfl rfl (k _ _ (fun r s i a => rfl) (fun r s i a => rfl) ⟨e62, (ea), (eb)⟩)
      · refine qm_G.ret rfl rfl ⟨_, rfl, ?_⟩
        refine qm_G.s1 rfl (qm_x_if_ne_f ⟨by decide, by decide⟩ (by decide)) ?_
        refine qm_G.sp (lv1 := []) rfl rfl (qm_x_pushI (-3) rfl) ?_
        refine qm_G.ret rfl rfl ⟨_, rfl, ?_⟩
        refine qm_G.s1 rfl (qm_x_if_lt_t ⟨by decide, by decide⟩ (by decide)) ?_
        refine qm_G.sp (lv1 := []) rfl rfl (qm_x_pushI 0 rfl) ?_
        rw [show qm_dlw m a b (m 10 + 1) P9 W9 (m 11 - W9) (m 8) = ((m, a, b), 0) from if_pos (by omega)] at k
        exact qm_G.ret rfl rfl (k _ _ (fun r s i a => rfl) (fun r s i a => rfl) ⟨e62, (ea), (eb)⟩)
theorem qm_m_do3 {S : List qm_Sh} {J K : qm_J} {L : qm_Ct Int64} {D : qm_Ct UInt64} {R : qm_Ct (Option qm_Rf)} {X : Nat × (Nat → Int32)} {Q : Option qm_V → qm_Hp → Prop} {m : Nat → Int} {a b : UInt64} {v : Int} {c : Nat} (hS : qm_Sd S) (hR : qm_Rd R) (hC : qm_Cm J D (m, a, b)) (hr : qm_Rg c (m, a, b)) (hc : c ≤ 900) (rv : 0 ≤ v ∧ v ≤ 9999) (k : ∀ (J1 : qm_J) (D1 : qm_Ct UInt64), qm_Cg J J1 → qm_Dg D D1 → qm_Cm J1 D1 (qm_do 3 v (m, a, b)).1 → Q (some (qm_I (qm_i (qm_do 3 v (m, a, b)).2))) (qm_H S J1 K L D1 R X)) : qm_C qm_P 172 [qm_R (some (0, 61, 0)), qm_I (qm_i 3), qm_I (qm_i v)] (qm_H S J K L D R X) Q := by
  have e62 : ∀ i, J 62 0 i = m i := hC.1
  have ea : D 61 0 2 = a := hC.2.1
  have eb : D 61 0 3 = b := hC.2.2
  have r0 : 100 ≤ m 0 ∧ m 0 ≤ 9999 := hr.1
  have r1 : 1 ≤ m 1 ∧ m 1 ≤ 8 := hr.2.1
  have r5 : 1 ≤ m 5 ∧ m 5 ≤ 1000000 := hr.2.2.1
  have r6 : 0 ≤ m 6 ∧ m 6 ≤ 2 := hr.2.2.2.1
  have r8 : 0 ≤ m 8 ∧ m 8 ≤ 6 := hr.2.2.2.2.1
  have r9 : 0 ≤ m 9 ∧ m 9 ≤ 6 := hr.2.2.2.2.2.1
  have r10 : -8 ≤ m 10 ∧ m 10 ≤ 8 := hr.2.2.2.2.2.2.1
  have r11 : -2147483648 ≤ m 11 ∧ m 11 ≤ 2147483647 := hr.2.2.2.2.2.2.2.1
  have hm9 : qm_Mid a := hr.2.2.2.2.2.2.2.2.1
  have hs9 : qm_Spr c b := hr.2.2.2.2.2.2.2.2.2
  obtain ⟨P9, eP9⟩ : ∃ P : Int, P = m 0 + m 9 := ⟨_, rfl⟩
  obtain ⟨W9, eW9⟩ : ∃ W : Int, W = P9 * m 5 := ⟨_, rfl⟩
  have hW9 : 0 ≤ W9 ∧ W9 ≤ 10005000000 := by rw [eW9]; exact qm_W9 (by omega) r5
  obtain ⟨t1, t2, t3, t4, t5, t6, t7, t8, t9⟩ := qm_trn (P := P9) ⟨by omega, by omega⟩ hc hm9 hs9
  have eD : qm_do 3 v (m, a, b) = qm_dlw m a b (m 10 - 1) P9 W9 (m 11 + W9) (m 9) := by rw [eW9, eP9]; rfl
  rw [eD] at k
  refine qm_C.go (cd := qm_P172) (lv := [(0, qm_R (some (0, 61, 0))), (1, qm_I (qm_i 3)), (2, qm_I (qm_i v))]) rfl rfl ?_
  refine qm_G.s1 rfl (qm_x_iload rfl) ?_
  refine qm_G.s1 rfl (qm_x_tsw (t := 55) rfl) ?_
  refine qm_G.sp (lv1 := [(0, qm_R (some (0, 61, 0))), (1, qm_I (qm_i 3))]) rfl rfl (qm_x_aload rfl) ?_
  refine qm_G.s1 rfl (qm_x_iload rfl) ?_
  refine qm_G.s1 rfl (qm_x_pushI 2 rfl) ?_
  refine qm_G.s1 rfl (qm_x_isub) ?_
  refine qm_G.cm rfl rfl (hS 61 rfl) rfl ?_
  refine qm_C.go (cd := qm_P143) (lv := [(0, qm_R (some (0, 61, 0))), (1, qm_I (qm_i (3 - 2)))]) rfl rfl ?_
  refine qm_G.s1 rfl (qm_x_iload rfl) ?_
  refine qm_G.cs rfl rfl rfl ?_
  refine qm_C.go (cd := qm_P83) (lv := [(0, qm_I (qm_i (3 - 2)))]) rfl rfl ?_
  refine qm_G.s1 rfl (qm_x_iload rfl) ?_
  refine qm_G.s1 rfl (qm_x_pushI 0 rfl) ?_
  refine qm_G.s1 rfl (qm_x_pushI 1 rfl) ?_
  refine qm_G.cs rfl rfl rfl ?_
  refine qm_v_within11_t ⟨by omega, by omega⟩ ⟨by decide, by decide⟩ ⟨by decide, by decide⟩ (by decide) ⟨_, rfl, ?_⟩
  refine qm_G.ret rfl rfl ⟨_, rfl, ?_⟩
  refine qm_G.s1 rfl (qm_x_if_ne_t ⟨by decide, by decide⟩ (by decide)) ?_
  rcases (show W9 ≤ 2147483647 ∨ 2147483648 ≤ W9 by omega) with cw | cw
  · rcases (show (-2147483648 ≤ m 11 + W9 ∧ m 11 + W9 ≤ 2147483647) ∨ m 11 + W9 < -2147483648 ∨ 2147483647 < m 11 + W9 by omega) with cc | cc | cc
    · refine qm_G.sp (lv1 := [(0, qm_R (some (0, 61, 0))), (1, qm_I (qm_i (3 - 2)))]) rfl rfl (qm_x_aload rfl) ?_
      refine qm_G.s1 rfl (qm_x_getfR (q := (some (0, 62, 0))) (hS 61 rfl) (hR 61 0 62 rfl rfl)) ?_
      refine qm_G.s1 rfl (qm_x_pushI 8 rfl) ?_
      refine qm_G.s1 rfl (qm_x_iload rfl) ?_
      refine qm_G.s1 rfl (qm_x_iadd) ?_
      refine qm_G.s1 rfl (qm_x_iald (v := (m 9)) (qm_arS hS rfl rfl) rfl (by decide) (by decide) (by decide) (e62 9)) ?_
      refine qm_G.s1 rfl (qm_x_istore (lv' := [(2, qm_I (qm_i (m 9))), (0, qm_R (some (0, 61, 0))), (1, qm_I (qm_i (3 - 2)))]) rfl) ?_
      refine qm_G.s1 rfl (qm_x_iload rfl) ?_
      refine qm_G.s1 rfl (qm_x_if_ne_t ⟨by omega, by omega⟩ (by omega)) ?_
      refine qm_G.sp (lv1 := [(0, qm_R (some (0, 61, 0))), (1, qm_I (qm_i (3 - 2))), (2, qm_I (qm_i (m 9)))]) rfl rfl (qm_x_aload rfl) ?_
      refine qm_G.s1 rfl (qm_x_getfR (q := (some (0, 62, 0))) (hS 61 rfl) (hR 61 0 62 rfl rfl)) ?_
      refine qm_G.s1 rfl (qm_x_pushI 10 rfl) ?_
      refine qm_G.s1 rfl (qm_x_iald (v := (m 10)) (qm_arS hS rfl rfl) rfl (by decide) (by decide) (by decide) (e62 10)) ?_
      refine qm_G.s1 rfl (qm_x_pushI 1 rfl) ?_
      refine qm_G.s1 rfl (qm_x_isub) ?_
      refine qm_G.sp (lv1 := [(0, qm_R (some (0, 61, 0))), (1, qm_I (qm_i (3 - 2))), (2, qm_I (qm_i (m 9)))]) rfl rfl (qm_x_istore (lv' := [(3, qm_I (qm_i ((m 10) - 1))), (0, qm_R (some (0, 61, 0))), (1, qm_I (qm_i (3 - 2))), (2, qm_I (qm_i (m 9)))]) rfl) ?_
      refine qm_G.s1 rfl (qm_x_iload rfl) ?_
      refine qm_G.s1 rfl (qm_x_pushI 6 rfl) ?_
      refine qm_y_icmp_eq rfl ⟨by omega, by omega⟩ ⟨by decide, by decide⟩ (fun c2 => ?_) (fun c2 => ?_)
      · refine qm_G.sp (lv1 := []) rfl rfl (qm_x_pushI (-3) rfl) ?_
        refine qm_G.ret rfl rfl ⟨_, rfl, ?_⟩
        refine qm_G.s1 rfl (qm_x_if_lt_t ⟨by decide, by decide⟩ (by decide)) ?_
        refine qm_G.sp (lv1 := []) rfl rfl (qm_x_pushI 0 rfl) ?_
        rw [show qm_dlw m a b (m 10 - 1) P9 W9 (m 11 + W9) (m 9) = ((m, a, b), 0) from if_pos (by omega)] at k
        exact qm_G.ret rfl rfl (k _ _ (fun r s i a => rfl) (fun r s i a => rfl) ⟨e62, (ea), (eb)⟩)
      · refine qm_G.s1 rfl (qm_x_aload rfl) ?_
        refine qm_G.s1 rfl (qm_x_iload rfl) ?_
        refine qm_G.cm rfl rfl (hS 61 rfl) rfl ?_
        refine qm_C.go (cd := qm_P85) (lv := [(0, qm_R (some (0, 61, 0))), (1, qm_I (qm_i ((m 10) - 1)))]) rfl rfl ?_
        refine qm_G.s1 rfl (qm_x_iload rfl) ?_
        refine qm_G.s1 rfl (qm_x_aload rfl) ?_
        refine qm_G.s1 rfl (qm_x_getfR (q := (some (0, 62, 0))) (hS 61 rfl) (hR 61 0 62 rfl rfl)) ?_
        refine qm_G.s1 rfl (qm_x_pushI 1 rfl) ?_
        refine qm_G.s1 rfl (qm_x_iald (v := (m 1)) (qm_arS hS rfl rfl) rfl (by decide) (by decide) (by decide) (e62 1)) ?_
        refine qm_G.s1 rfl (qm_x_ineg) ?_
        refine qm_G.s1 rfl (qm_x_aload rfl) ?_
        refine qm_G.s1 rfl (qm_x_getfR (q := (some (0, 62, 0))) (hS 61 rfl) (hR 61 0 62 rfl rfl)) ?_
        refine qm_G.s1 rfl (qm_x_pushI 1 rfl) ?_
        refine qm_G.s1 rfl (qm_x_iald (v := (m 1)) (qm_arS hS rfl rfl) rfl (by decide) (by decide) (by decide) (e62 1)) ?_
        refine qm_G.cs rfl rfl rfl ?_
        refine qm_v_within11 ⟨by omega, by omega⟩ ⟨by omega, by omega⟩ ⟨by omega, by omega⟩ (fun c3 => ⟨_, rfl, ?_⟩) (fun c3 => ⟨_, rfl, ?_⟩)
        · refine qm_G.ret rfl rfl ⟨_, rfl, ?_⟩
          refine qm_G.s1 rfl (qm_x_if_ne_t ⟨by decide, by decide⟩ (by decide)) ?_
          refine qm_G.sp (lv1 := [(0, qm_R (some (0, 61, 0))), (1, qm_I (qm_i (3 - 2))), (2, qm_I (qm_i (m 9))), (3, qm_I (qm_i ((m 10) - 1)))]) rfl rfl (qm_x_iload rfl) ?_
          refine qm_G.s1 rfl (qm_x_if_ne_t ⟨by omega, by omega⟩ (by omega)) ?_
          refine qm_G.sp (lv1 := [(0, qm_R (some (0, 61, 0))), (1, qm_I (qm_i (3 - 2))), (2, qm_I (qm_i (m 9))), (3, qm_I (qm_i ((m 10) - 1)))]) rfl rfl (qm_x_aload rfl) ?_
          refine qm_G.s1 rfl (qm_x_getfR (q := (some (0, 62, 0))) (hS 61 rfl) (hR 61 0 62 rfl rfl)) ?_
          refine qm_G.s1 rfl (qm_x_pushI 0 rfl) ?_
          refine qm_G.s1 rfl (qm_x_iald (v := (m 0)) (qm_arS hS rfl rfl) rfl (by decide) (by decide) (by decide) (e62 0)) ?_
          refine qm_G.s1 rfl (qm_x_iload rfl) ?_
          refine qm_G.s1 rfl (qm_x_iadd) ?_
          refine qm_G.sp (lv1 := [(0, qm_R (some (0, 61, 0))), (1, qm_I (qm_i (3 - 2))), (3, qm_I (qm_i ((m 10) - 1)))]) rfl rfl (qm_x_istore (lv' := [(4, qm_I (qm_i ((m 0) + (m 9)))), (0, qm_R (some (0, 61, 0))), (1, qm_I (qm_i (3 - 2))), (3, qm_I (qm_i ((m 10) - 1)))]) rfl) ?_
          refine qm_G.s1 rfl (qm_x_iload rfl) ?_
          refine qm_G.s1 rfl (qm_x_i2l ⟨by omega, by omega⟩) ?_
          refine qm_G.s1 rfl (qm_x_aload rfl) ?_
          refine qm_G.s1 rfl (qm_x_getfR (q := (some (0, 62, 0))) (hS 61 rfl) (hR 61 0 62 rfl rfl)) ?_
          refine qm_G.s1 rfl (qm_x_pushI 5 rfl) ?_
          refine qm_G.s1 rfl (qm_x_iald (v := (m 5)) (qm_arS hS rfl rfl) rfl (by decide) (by decide) (by decide) (e62 5)) ?_
          refine qm_G.s1 rfl (qm_x_i2l ⟨by omega, by omega⟩) ?_
          refine qm_G.s1 rfl (qm_x_lmule (w := W9) (by rw [eW9, show ((m 0) + (m 9)) = P9 by omega, show (m 5) = m 5 by omega])) ?_
          refine qm_G.s1 rfl (qm_x_lstore (lv' := [(5, qm_L (qm_l W9)), (4, qm_I (qm_i ((m 0) + (m 9)))), (0, qm_R (some (0, 61, 0))), (1, qm_I (qm_i (3 - 2))), (3, qm_I (qm_i ((m 10) - 1)))]) rfl) ?_
          refine qm_G.s1 rfl (qm_x_iload rfl) ?_
          refine qm_G.s1 rfl (qm_x_if_ne_t ⟨by omega, by omega⟩ (by omega)) ?_
          refine qm_G.sp (lv1 := [(0, qm_R (some (0, 61, 0))), (3, qm_I (qm_i ((m 10) - 1))), (4, qm_I (qm_i ((m 0) + (m 9)))), (5, qm_L (qm_l W9))]) rfl rfl (qm_x_aload rfl) ?_
          refine qm_G.s1 rfl (qm_x_getfR (q := (some (0, 62, 0))) (hS 61 rfl) (hR 61 0 62 rfl rfl)) ?_
          refine qm_G.s1 rfl (qm_x_pushI 11 rfl) ?_
          refine qm_G.s1 rfl (qm_x_iald (v := (m 11)) (qm_arS hS rfl rfl) rfl (by decide) (by decide) (by decide) (e62 11)) ?_
          refine qm_G.s1 rfl (qm_x_i2l ⟨by omega, by omega⟩) ?_
          refine qm_G.s1 rfl (qm_x_lload rfl) ?_
          refine qm_G.s1 rfl (qm_x_laddz) ?_
          refine qm_G.sp (lv1 := [(0, qm_R (some (0, 61, 0))), (3, qm_I (qm_i ((m 10) - 1))), (4, qm_I (qm_i ((m 0) + (m 9)))), (5, qm_L (qm_l W9))]) rfl rfl (qm_x_lstore (lv' := [(7, qm_L (qm_l ((m 11) + W9))), (0, qm_R (some (0, 61, 0))), (3, qm_I (qm_i ((m 10) - 1))), (4, qm_I (qm_i ((m 0) + (m 9)))), (5, qm_L (qm_l W9))]) rfl) ?_
          refine qm_G.s1 rfl (qm_x_lload rfl) ?_
          refine qm_G.s1 rfl (qm_x_lload rfl) ?_
          refine qm_G.s1 rfl (qm_x_l2i ⟨by omega, by omega⟩) ?_
          refine qm_G.s1 rfl (qm_x_i2l ⟨by omega, by omega⟩) ?_
          refine qm_G.s1 rfl (qm_x_lcmp_eq rfl) ?_
          refine qm_G.s1 rfl (qm_x_if_ne_f ⟨by decide, by decide⟩ (by decide)) ?_
          refine qm_G.s1 rfl (qm_x_lload rfl) ?_
          refine qm_G.s1 rfl (qm_x_lload rfl) ?_
          refine qm_G.s1 rfl (qm_x_l2i ⟨by omega, by omega⟩) ?_
          refine qm_G.s1 rfl (qm_x_i2l ⟨by omega, by omega⟩) ?_
          refine qm_G.s1 rfl (qm_x_lcmp_eq rfl) ?_
          refine qm_G.s1 rfl (qm_x_if_eq_t ⟨by decide, by decide⟩ (by decide)) ?_
          refine qm_G.sp (lv1 := [(0, qm_R (some (0, 61, 0))), (3, qm_I (qm_i ((m 10) - 1))), (4, qm_I (qm_i ((m 0) + (m 9)))), (7, qm_L (qm_l ((m 11) + W9)))]) rfl rfl (qm_x_aload rfl) ?_
          refine qm_G.s1 rfl (qm_x_getfR (q := (some (0, 62, 0))) (hS 61 rfl) (hR 61 0 62 rfl rfl)) ?_
          refine qm_G.s1 rfl (qm_x_pushI 10 rfl) ?_
          refine qm_G.s1 rfl (qm_x_iload rfl) ?_
          refine qm_G.s1 rfl (qm_x_iast (qm_arS hS rfl rfl) rfl (by decide) (by decide) (by decide)) ?_
          refine qm_G.s1 rfl (qm_x_aload rfl) ?_
          refine qm_G.s1 rfl (qm_x_getfR (q := (some (0, 62, 0))) (hS 61 rfl) (hR 61 0 62 rfl rfl)) ?_
          refine qm_G.s1 rfl (qm_x_pushI 11 rfl) ?_
          refine qm_G.s1 rfl (qm_x_lload rfl) ?_
          refine qm_G.s1 rfl (qm_x_l2i ⟨by omega, by omega⟩) ?_
          refine qm_G.s1 rfl (qm_x_iast (qm_arS hS rfl rfl) rfl (by decide) (by decide) (by decide)) ?_
          refine qm_G.s1 rfl (qm_x_iload rfl) ?_
          refine qm_G.s1 rfl (qm_x_i2de (y := P9) (by omega)) ?_
          refine qm_G.s1 rfl (qm_x_dstore (lv' := [(9, qm_D (FP.i2d (qm_i P9))), (0, qm_R (some (0, 61, 0))), (3, qm_I (qm_i ((m 10) - 1))), (4, qm_I (qm_i ((m 0) + (m 9)))), (7, qm_L (qm_l ((m 11) + W9)))]) rfl) ?_
          refine qm_G.s1 rfl (qm_x_aload rfl) ?_
          refine qm_G.s1 rfl (qm_x_aload rfl) ?_
          refine qm_G.s1 rfl (qm_x_getfD (a := b) (hS 61 rfl) eb) ?_
          refine qm_G.s1 rfl (qm_x_push) ?_
          refine qm_G.s1 rfl (qm_x_dmuls t2) ?_
          refine qm_G.s1 rfl (qm_x_dload rfl) ?_
          refine qm_G.s1 rfl (qm_x_aload rfl) ?_
          refine qm_G.s1 rfl (qm_x_getfD (a := a) (hS 61 rfl) ea) ?_
          refine qm_G.s1 rfl (qm_x_dsubs t1) ?_
          refine qm_G.s1 rfl (qm_x_dload rfl) ?_
          refine qm_G.s1 rfl (qm_x_aload rfl) ?_
          refine qm_G.s1 rfl (qm_x_getfD (a := a) (hS 61 rfl) ea) ?_
          refine qm_G.s1 rfl (qm_x_dsubs t1) ?_
          refine qm_G.s1 rfl (qm_x_dmuls t3) ?_
          refine qm_G.s1 rfl (qm_x_push) ?_
          refine qm_G.s1 rfl (qm_x_dmuls t4) ?_
          refine qm_G.s1 rfl (qm_x_dadds t5) ?_
          refine qm_G.s1 rfl (qm_x_putfD (hS 61 rfl)) ?_
          refine qm_G.s1 rfl (qm_x_aload rfl) ?_
          refine qm_G.s1 rfl (qm_x_aload rfl) ?_
          refine qm_G.s1 rfl (qm_x_getfD (a := a) (hS 61 rfl) ea) ?_
          refine qm_G.s1 rfl (qm_x_dload rfl) ?_
          refine qm_G.s1 rfl (qm_x_aload rfl) ?_
          refine qm_G.s1 rfl (qm_x_getfD (a := a) (hS 61 rfl) ea) ?_
          refine qm_G.s1 rfl (qm_x_dsubs t1) ?_
          refine qm_G.s1 rfl (qm_x_push) ?_
          refine qm_G.s1 rfl (qm_x_dmuls t6) ?_
          refine qm_G.s1 rfl (qm_x_dadds t7) ?_
          refine qm_G.s1 rfl (qm_x_putfD (hS 61 rfl)) ?_
          refine qm_G.s1 rfl (qm_x_iload rfl) ?_
          refine qm_G.s1 rfl (qm_x_pushI 100 rfl) ?_
          refine qm_G.s1 rfl (qm_x_iadd) ?_
          refine qm_G.ret rfl rfl ⟨_, rfl, ?_⟩
          refine qm_G.s1 rfl (qm_x_if_lt_f ⟨by omega, by omega⟩ (by omega)) ?_
          refine qm_G.s1 rfl (qm_x_pushI 1 rfl) ?_
          refine qm_G.s1 rfl (qm_x_goto) ?_
          rw [show qm_dlw m a b (m 10 - 1) P9 W9 (m 11 + W9) (m 9) = ((qm_up (qm_up m 10 (m 10 - 1)) 11 (m 11 + W9), FP.dadd a (FP.dmul (FP.dsub (FP.i2d (qm_i P9)) a) 4598175219545276416), FP.dadd (FP.dmul b 4604930618986332160) (FP.dmul (FP.dmul (FP.dsub (FP.i2d (qm_i P9)) a) (FP.dsub (FP.i2d (qm_i P9)) a)) 4598175219545276416)), 1) from (if_neg (by omega)).trans (if_neg (fun h => by unfold qm_sm at h; omega))] at k
          rw [show (m 10) - 1 = m 10 - 1 by omega]
          rw [show ((m 11) + W9) = m 11 + W9 by omega]
          exact qm_G.ret rfl rfl (k _ _ (fun r s i a => (qm_st_ne (by omega)).trans (qm_st_ne (by omega))) (fun r s i a => (qm_st_ne (by omega)).trans (qm_st_ne (by omega))) ⟨(qm_up_s (qm_up_s e62)), (qm_st_eq), ((qm_st_ne (by omega)).trans (qm_st_eq))⟩)
        · refine qm_G.ret rfl rfl ⟨_, rfl, ?_⟩
          refine qm_G.s1 rfl (qm_x_if_ne_f ⟨by decide, by decide⟩ (by decide)) ?_
          refine qm_G.sp (lv1 := []) rfl rfl (qm_x_pushI (-3) rfl) ?_
          refine qm_G.ret rfl rfl ⟨_, rfl, ?_⟩
          refine qm_G.s1 rfl (qm_x_if_lt_t ⟨by decide, by decide⟩ (by decide)) ?_
          refine qm_G.sp (lv1 := []) rfl rfl (qm_x_pushI 0 rfl) ?_
          rw [show qm_dlw m a b (m 10 - 1) P9 W9 (m 11 + W9) (m 9) = ((m, a, b), 0) from if_pos (by omega)] at k
          exact qm_G.ret rfl rfl (k _ _ (fun r s i a => rfl) (fun r s i a => rfl) ⟨e62, (ea), (eb)⟩)
    · exact absurd cc (by omega)
    · refine qm_G.sp (lv1 := [(0, qm_R (some (0, 61, 0))), (1, qm_I (qm_i (3 - 2)))]) rfl rfl (qm_x_aload rfl) ?_
      refine qm_G.s1 rfl (qm_x_getfR (q := (some (0, 62, 0))) (hS 61 rfl) (hR 61 0 62 rfl rfl)) ?_
      refine qm_G.s1 rfl (qm_x_pushI 8 rfl) ?_
      refine qm_G.s1 rfl (qm_x_iload rfl) ?_
      refine qm_G.s1 rfl (qm_x_iadd) ?_
      refine qm_G.s1 rfl (qm_x_iald (v := (m 9)) (qm_arS hS rfl rfl) rfl (by decide) (by decide) (by decide) (e62 9)) ?_
      refine qm_G.s1 rfl (qm_x_istore (lv' := [(2, qm_I (qm_i (m 9))), (0, qm_R (some (0, 61, 0))), (1, qm_I (qm_i (3 - 2)))]) rfl) ?_
      refine qm_G.s1 rfl (qm_x_iload rfl) ?_
      refine qm_G.s1 rfl (qm_x_if_ne_t ⟨by omega, by omega⟩ (by omega)) ?_
      refine qm_G.sp (lv1 := [(0, qm_R (some (0, 61, 0))), (1, qm_I (qm_i (3 - 2))), (2, qm_I (qm_i (m 9)))]) rfl rfl (qm_x_aload rfl) ?_
      refine qm_G.s1 rfl (qm_x_getfR (q := (some (0, 62, 0))) (hS 61 rfl) (hR 61 0 62 rfl rfl)) ?_
      refine qm_G.s1 rfl (qm_x_pushI 10 rfl) ?_
      refine qm_G.s1 rfl (qm_x_iald (v := (m 10)) (qm_arS hS rfl rfl) rfl (by decide) (by decide) (by decide) (e62 10)) ?_
      refine qm_G.s1 rfl (qm_x_pushI 1 rfl) ?_
      refine qm_G.s1 rfl (qm_x_isub) ?_
      refine qm_G.sp (lv1 := [(0, qm_R (some (0, 61, 0))), (1, qm_I (qm_i (3 - 2))), (2, qm_I (qm_i (m 9)))]) rfl rfl (qm_x_istore (lv' := [(3, qm_I (qm_i ((m 10) - 1))), (0, qm_R (some (0, 61, 0))), (1, qm_I (qm_i (3 - 2))), (2, qm_I (qm_i (m 9)))]) rfl) ?_
      refine qm_G.s1 rfl (qm_x_iload rfl) ?_
      refine qm_G.s1 rfl (qm_x_pushI 6 rfl) ?_
      refine qm_y_icmp_eq rfl ⟨by omega, by omega⟩ ⟨by decide, by decide⟩ (fun c4 => ?_) (fun c4 => ?_)
      · refine qm_G.sp (lv1 := []) rfl rfl (qm_x_pushI (-3) rfl) ?_
        refine qm_G.ret rfl rfl ⟨_, rfl, ?_⟩
        refine qm_G.s1 rfl (qm_x_if_lt_t ⟨by decide, by decide⟩ (by decide)) ?_
        refine qm_G.sp (lv1 := []) rfl rfl (qm_x_pushI 0 rfl) ?_
        rw [show qm_dlw m a b (m 10 - 1) P9 W9 (m 11 + W9) (m 9) = ((m, a, b), 0) from if_pos (by omega)] at k
        exact qm_G.ret rfl rfl (k _ _ (fun r s i a => rfl) (fun r s i a => rfl) ⟨e62, (ea), (eb)⟩)
      · refine qm_G.s1 rfl (qm_x_aload rfl) ?_
        refine qm_G.s1 rfl (qm_x_iload rfl) ?_
        refine qm_G.cm rfl rfl (hS 61 rfl) rfl ?_
        refine qm_C.go (cd := qm_P85) (lv := [(0, qm_R (some (0, 61, 0))), (1, qm_I (qm_i ((m 10) - 1)))]) rfl rfl ?_
        refine qm_G.s1 rfl (qm_x_iload rfl) ?_
        refine qm_G.s1 rfl (qm_x_aload rfl) ?_
        refine qm_G.s1 rfl (qm_x_getfR (q := (some (0, 62, 0))) (hS 61 rfl) (hR 61 0 62 rfl rfl)) ?_
        refine qm_G.s1 rfl (qm_x_pushI 1 rfl) ?_
        refine qm_G.s1 rfl (qm_x_iald (v := (m 1)) (qm_arS hS rfl rfl) rfl (by decide) (by decide) (by decide) (e62 1)) ?_
        refine qm_G.s1 rfl (qm_x_ineg) ?_
        refine qm_G.s1 rfl (qm_x_aload rfl) ?_
        refine qm_G.s1 rfl (qm_x_getfR (q := (some (0, 62, 0))) (hS 61 rfl) (hR 61 0 62 rfl rfl)) ?_
        refine qm_G.s1 rfl (qm_x_pushI 1 rfl) ?_
        refine qm_G.s1 rfl (qm_x_iald (v := (m 1)) (qm_arS hS rfl rfl) rfl (by decide) (by decide) (by decide) (e62 1)) ?_
        refine qm_G.cs rfl rfl rfl ?_
        refine qm_v_within11 ⟨by omega, by omega⟩ ⟨by omega, by omega⟩ ⟨by omega, by omega⟩ (fun c5 => ⟨_, rfl, ?_⟩) (fun c5 => ⟨_, rfl, ?_⟩)
        · refine qm_G.ret rfl rfl ⟨_, rfl, ?_⟩
          refine qm_G.s1 rfl (qm_x_if_ne_t ⟨by decide, by decide⟩ (by decide)) ?_
          refine qm_G.sp (lv1 := [(0, qm_R (some (0, 61, 0))), (1, qm_I (qm_i (3 - 2))), (2, qm_I (qm_i (m 9))), (3, qm_I (qm_i ((m 10) - 1)))]) rfl rfl (qm_x_iload rfl) ?_
          refine qm_G.s1 rfl (qm_x_if_ne_t ⟨by omega, by omega⟩ (by omega)) ?_
          refine qm_G.sp (lv1 := [(0, qm_R (some (0, 61, 0))), (1, qm_I (qm_i (3 - 2))), (2, qm_I (qm_i (m 9))), (3, qm_I (qm_i ((m 10) - 1)))]) rfl rfl (qm_x_aload rfl) ?_
          refine qm_G.s1 rfl (qm_x_getfR (q := (some (0, 62, 0))) (hS 61 rfl) (hR 61 0 62 rfl rfl)) ?_
          refine qm_G.s1 rfl (qm_x_pushI 0 rfl) ?_
          refine qm_G.s1 rfl (qm_x_iald (v := (m 0)) (qm_arS hS rfl rfl) rfl (by decide) (by decide) (by decide) (e62 0)) ?_
          refine qm_G.s1 rfl (qm_x_iload rfl) ?_
          refine qm_G.s1 rfl (qm_x_iadd) ?_
          refine qm_G.sp (lv1 := [(0, qm_R (some (0, 61, 0))), (1, qm_I (qm_i (3 - 2))), (3, qm_I (qm_i ((m 10) - 1)))]) rfl rfl (qm_x_istore (lv' := [(4, qm_I (qm_i ((m 0) + (m 9)))), (0, qm_R (some (0, 61, 0))), (1, qm_I (qm_i (3 - 2))), (3, qm_I (qm_i ((m 10) - 1)))]) rfl) ?_
          refine qm_G.s1 rfl (qm_x_iload rfl) ?_
          refine qm_G.s1 rfl (qm_x_i2l ⟨by omega, by omega⟩) ?_
          refine qm_G.s1 rfl (qm_x_aload rfl) ?_
          refine qm_G.s1 rfl (qm_x_getfR (q := (some (0, 62, 0))) (hS 61 rfl) (hR 61 0 62 rfl rfl)) ?_
          refine qm_G.s1 rfl (qm_x_pushI 5 rfl) ?_
          refine qm_G.s1 rfl (qm_x_iald (v := (m 5)) (qm_arS hS rfl rfl) rfl (by decide) (by decide) (by decide) (e62 5)) ?_
          refine qm_G.s1 rfl (qm_x_i2l ⟨by omega, by omega⟩) ?_
          refine qm_G.s1 rfl (qm_x_lmule (w := W9) (by rw [eW9, show ((m 0) + (m 9)) = P9 by omega, show (m 5) = m 5 by omega])) ?_
          refine qm_G.s1 rfl (qm_x_lstore (lv' := [(5, qm_L (qm_l W9)), (4, qm_I (qm_i ((m 0) + (m 9)))), (0, qm_R (some (0, 61, 0))), (1, qm_I (qm_i (3 - 2))), (3, qm_I (qm_i ((m 10) - 1)))]) rfl) ?_
          refine qm_G.s1 rfl (qm_x_iload rfl) ?_
          refine qm_G.s1 rfl (qm_x_if_ne_t ⟨by omega, by omega⟩ (by omega)) ?_
          refine qm_G.sp (lv1 := [(0, qm_R (some (0, 61, 0))), (3, qm_I (qm_i ((m 10) - 1))), (4, qm_I (qm_i ((m 0) + (m 9)))), (5, qm_L (qm_l W9))]) rfl rfl (qm_x_aload rfl) ?_
          refine qm_G.s1 rfl (qm_x_getfR (q := (some (0, 62, 0))) (hS 61 rfl) (hR 61 0 62 rfl rfl)) ?_
          refine qm_G.s1 rfl (qm_x_pushI 11 rfl) ?_
          refine qm_G.s1 rfl (qm_x_iald (v := (m 11)) (qm_arS hS rfl rfl) rfl (by decide) (by decide) (by decide) (e62 11)) ?_
          refine qm_G.s1 rfl (qm_x_i2l ⟨by omega, by omega⟩) ?_
          refine qm_G.s1 rfl (qm_x_lload rfl) ?_
          refine qm_G.s1 rfl (qm_x_laddz) ?_
          refine qm_G.sp (lv1 := [(0, qm_R (some (0, 61, 0))), (3, qm_I (qm_i ((m 10) - 1))), (4, qm_I (qm_i ((m 0) + (m 9)))), (5, qm_L (qm_l W9))]) rfl rfl (qm_x_lstore (lv' := [(7, qm_L (qm_l ((m 11) + W9))), (0, qm_R (some (0, 61, 0))), (3, qm_I (qm_i ((m 10) - 1))), (4, qm_I (qm_i ((m 0) + (m 9)))), (5, qm_L (qm_l W9))]) rfl) ?_
          refine qm_G.s1 rfl (qm_x_lload rfl) ?_
          refine qm_G.s1 rfl (qm_x_lload rfl) ?_
          refine qm_G.s1 rfl (qm_x_l2i ⟨by omega, by omega⟩) ?_
          refine qm_G.s1 rfl (qm_x_i2l ⟨by omega, by omega⟩) ?_
          refine qm_G.s1 rfl (qm_x_lcmp_eq rfl) ?_
          refine qm_G.s1 rfl (qm_x_if_ne_f ⟨by decide, by decide⟩ (by decide)) ?_
          refine qm_G.s1 rfl (qm_x_lload rfl) ?_
          refine qm_G.s1 rfl (qm_x_lload rfl) ?_
          refine qm_G.s1 rfl (qm_x_l2ir) ?_
          have g6 : qm_sm ((qm_l ((m 11) + W9)).toInt32.toInt) := qm_i_sml _
          refine qm_G.s1 rfl (qm_x_i2l ⟨by omega, by omega⟩) ?_
          refine qm_G.s1 rfl (qm_x_lcmpz_gt ⟨by omega, by omega⟩ ⟨by omega, by omega⟩ (by omega)) ?_
          refine qm_G.s1 rfl (qm_x_if_eq_f ⟨by decide, by decide⟩ (by decide)) ?_
          refine qm_G.sp (lv1 := []) rfl rfl (qm_x_pushI (-15) rfl) ?_
          refine qm_G.ret rfl rfl ⟨_, rfl, ?_⟩
          refine qm_G.s1 rfl (qm_x_if_lt_t ⟨by decide, by decide⟩ (by decide)) ?_
          refine qm_G.sp (lv1 := []) rfl rfl (qm_x_pushI 0 rfl) ?_
          rw [show qm_dlw m a b (m 10 - 1) P9 W9 (m 11 + W9) (m 9) = ((m, a, b), 0) from (if_neg (by omega)).trans (if_pos (by unfold qm_sm; omega))] at k
          exact qm_G.ret rfl rfl (k _ _ (fun r s i a => rfl) (fun r s i a => rfl) ⟨e62, (ea), (eb)⟩)
        · refine qm_G.ret rfl rfl ⟨_, rfl, ?_⟩
          refine qm_G.s1 rfl (qm_x_if_ne_f ⟨by decide, by decide⟩ (by decide)) ?_
          refine qm_G.sp (lv1 := []) rfl rfl (qm_x_pushI (-3) rfl) ?_
          refine qm_G.ret rfl rfl ⟨_, rfl, ?_⟩
          refine qm_G.s1 rfl (qm_x_if_lt_t ⟨by decide, by decide⟩ (by decide)) ?_
          refine qm_G.sp (lv1 := []) rfl rfl (qm_x_pushI 0 rfl) ?_
          rw [show qm_dlw m a b (m 10 - 1) P9 W9 (m 11 + W9) (m 9) = ((m, a, b), 0) from if_pos (by omega)] at k
          exact qm_G.ret rfl rfl (k _ _ (fun r s i a => rfl) (fun r s i a => rfl) ⟨e62, (ea), (eb)⟩)
  · refine qm_G.sp (lv1 := [(0, qm_R (some (0, 61, 0))), (1, qm_I (qm_i (3 - 2)))]) rfl rfl (qm_x_aload rfl) ?_
    refine qm_G.s1 rfl (qm_x_getfR (q := (some (0, 62, 0))) (hS 61 rfl) (hR 61 0 62 rfl rfl)) ?_
    refine qm_G.s1 rfl (qm_x_pushI 8 rfl) ?_
    refine qm_G.s1 rfl (qm_x_iload rfl) ?_
    refine qm_G.s1 rfl (qm_x_iadd) ?_
    refine qm_G.s1 rfl (qm_x_iald (v := (m 9)) (qm_arS hS rfl rfl) rfl (by decide) (by decide) (by decide) (e62 9)) ?_
    refine qm_G.s1 rfl (qm_x_istore (lv' := [(2, qm_I (qm_i (m 9))), (0, qm_R (some (0, 61, 0))), (1, qm_I (qm_i (3 - 2)))]) rfl) ?_
    refine qm_G.s1 rfl (qm_x_iload rfl) ?_
    refine qm_G.s1 rfl (qm_x_if_ne_t ⟨by omega, by omega⟩ (by omega)) ?_
    refine qm_G.sp (lv1 := [(0, qm_R (some (0, 61, 0))), (1, qm_I (qm_i (3 - 2))), (2, qm_I (qm_i (m 9)))]) rfl rfl (qm_x_aload rfl) ?_
    refine qm_G.s1 rfl (qm_x_getfR (q := (some (0, 62, 0))) (hS 61 rfl) (hR 61 0 62 rfl rfl)) ?_
    refine qm_G.s1 rfl (qm_x_pushI 10 rfl) ?_
    refine qm_G.s1 rfl (qm_x_iald (v := (m 10)) (qm_arS hS rfl rfl) rfl (by decide) (by decide) (by decide) (e62 10)) ?_
    refine qm_G.s1 rfl (qm_x_pushI 1 rfl) ?_
    refine qm_G.s1 rfl (qm_x_isub) ?_
    refine qm_G.sp (lv1 := [(0, qm_R (some (0, 61, 0))), (1, qm_I (qm_i (3 - 2))), (2, qm_I (qm_i (m 9)))]) rfl rfl (qm_x_istore (lv' := [(3, qm_I (qm_i ((m 10) - 1))), (0, qm_R (some (0, 61, 0))), (1, qm_I (qm_i (3 - 2))), (2, qm_I (qm_i (m 9)))]) rfl) ?_
    refine qm_G.s1 rfl (qm_x_iload rfl) ?_
    refine qm_G.s1 rfl (qm_x_pushI 6 rfl) ?_
    refine qm_y_icmp_eq rfl ⟨by omega, by omega⟩ ⟨by decide, by decide⟩ (fun c7 => ?_) (fun c7 => ?_)
    · refine qm_G.sp (lv1 := []) rfl rfl (qm_x_pushI (-3) rfl) ?_
      refine qm_G.ret rfl rfl ⟨_, rfl, ?_⟩
      refine qm_G.s1 rfl (qm_x_if_lt_t ⟨by decide, by decide⟩ (by decide)) ?_
      refine qm_G.sp (lv1 := []) rfl rfl (qm_x_pushI 0 rfl) ?_
      rw [show qm_dlw m a b (m 10 - 1) P9 W9 (m 11 + W9) (m 9) = ((m, a, b), 0) from if_pos (by omega)] at k
      exact qm_G.ret rfl rfl (k _ _ (fun r s i a => rfl) (fun r s i a => rfl) ⟨e62, (ea), (eb)⟩)
    · refine qm_G.s1 rfl (qm_x_aload rfl) ?_
      refine qm_G.s1 rfl (qm_x_iload rfl) ?_
      refine qm_G.cm rfl rfl (hS 61 rfl) rfl ?_
      refine qm_C.go (cd := qm_P85) (lv := [(0, qm_R (some (0, 61, 0))), (1, qm_I (qm_i ((m 10) - 1)))]) rfl rfl ?_
      refine qm_G.s1 rfl (qm_x_iload rfl) ?_
      refine qm_G.s1 rfl (qm_x_aload rfl) ?_
      refine qm_G.s1 rfl (qm_x_getfR (q := (some (0, 62, 0))) (hS 61 rfl) (hR 61 0 62 rfl rfl)) ?_
      refine qm_G.s1 rfl (qm_x_pushI 1 rfl) ?_
      refine qm_G.s1 rfl (qm_x_iald (v := (m 1)) (qm_arS hS rfl rfl) rfl (by decide) (by decide) (by decide) (e62 1)) ?_
      refine qm_G.s1 rfl (qm_x_ineg) ?_
      refine qm_G.s1 rfl (qm_x_aload rfl) ?_
      refine qm_G.s1 rfl (qm_x_getfR (q := (some (0, 62, 0))) (hS 61 rfl) (hR 61 0 62 rfl rfl)) ?_
      refine qm_G.s1 rfl (qm_x_pushI 1 rfl) ?_
      refine qm_G.s1 rfl (qm_x_iald (v := (m 1)) (qm_arS hS rfl rfl) rfl (by decide) (by decide) (by decide) (e62 1)) ?_
      refine qm_G.cs rfl rfl rfl ?_
      refine qm_v_within11 ⟨by omega, by omega⟩ ⟨by omega, by omega⟩ ⟨by omega, by omega⟩ (fun c8 => ⟨_, rfl, ?_⟩) (fun c8 => ⟨_, rfl, ?_⟩)
      · refine qm_G.ret rfl rfl ⟨_, rfl, ?_⟩
        refine qm_G.s1 rfl (qm_x_if_ne_t ⟨by decide, by decide⟩ (by decide)) ?_
        refine qm_G.sp (lv1 := [(0, qm_R (some (0, 61, 0))), (1, qm_I (qm_i (3 - 2))), (2, qm_I (qm_i (m 9))), (3, qm_I (qm_i ((m 10) - 1)))]) rfl rfl (qm_x_iload rfl) ?_
        refine qm_G.s1 rfl (qm_x_if_ne_t ⟨by omega, by omega⟩ (by omega)) ?_
        refine qm_G.sp (lv1 := [(0, qm_R (some (0, 61, 0))), (1, qm_I (qm_i (3 - 2))), (2, qm_I (qm_i (m 9))), (3, qm_I (qm_i ((m 10) - 1)))]) rfl rfl (qm_x_aload rfl) ?_
        refine qm_G.s1 rfl (qm_x_getfR (q := (some (0, 62, 0))) (hS 61 rfl) (hR 61 0 62 rfl rfl)) ?_
        refine qm_G.s1 rfl (qm_x_pushI 0 rfl) ?_
        refine qm_G.s1 rfl (qm_x_iald (v := (m 0)) (qm_arS hS rfl rfl) rfl (by decide) (by decide) (by decide) (e62 0)) ?_
        refine qm_G.s1 rfl (qm_x_iload rfl) ?_
        refine qm_G.s1 rfl (qm_x_iadd) ?_
        refine qm_G.sp (lv1 := [(0, qm_R (some (0, 61, 0))), (1, qm_I (qm_i (3 - 2))), (3, qm_I (qm_i ((m 10) - 1)))]) rfl rfl (qm_x_istore (lv' := [(4, qm_I (qm_i ((m 0) + (m 9)))), (0, qm_R (some (0, 61, 0))), (1, qm_I (qm_i (3 - 2))), (3, qm_I (qm_i ((m 10) - 1)))]) rfl) ?_
        refine qm_G.s1 rfl (qm_x_iload rfl) ?_
        refine qm_G.s1 rfl (qm_x_i2l ⟨by omega, by omega⟩) ?_
        refine qm_G.s1 rfl (qm_x_aload rfl) ?_
        refine qm_G.s1 rfl (qm_x_getfR (q := (some (0, 62, 0))) (hS 61 rfl) (hR 61 0 62 rfl rfl)) ?_
        refine qm_G.s1 rfl (qm_x_pushI 5 rfl) ?_
        refine qm_G.s1 rfl (qm_x_iald (v := (m 5)) (qm_arS hS rfl rfl) rfl (by decide) (by decide) (by decide) (e62 5)) ?_
        refine qm_G.s1 rfl (qm_x_i2l ⟨by omega, by omega⟩) ?_
        refine qm_G.s1 rfl (qm_x_lmule (w := W9) (by rw [eW9, show ((m 0) + (m 9)) = P9 by omega, show (m 5) = m 5 by omega])) ?_
        refine qm_G.s1 rfl (qm_x_lstore (lv' := [(5, qm_L (qm_l W9)), (4, qm_I (qm_i ((m 0) + (m 9)))), (0, qm_R (some (0, 61, 0))), (1, qm_I (qm_i (3 - 2))), (3, qm_I (qm_i ((m 10) - 1)))]) rfl) ?_
        refine qm_G.s1 rfl (qm_x_iload rfl) ?_
        refine qm_G.s1 rfl (qm_x_if_ne_t ⟨by omega, by omega⟩ (by omega)) ?_
        refine qm_G.sp (lv1 := [(0, qm_R (some (0, 61, 0))), (3, qm_I (qm_i ((m 10) - 1))), (4, qm_I (qm_i ((m 0) + (m 9)))), (5, qm_L (qm_l W9))]) rfl rfl (qm_x_aload rfl) ?_
        refine qm_G.s1 rfl (qm_x_getfR (q := (some (0, 62, 0))) (hS 61 rfl) (hR 61 0 62 rfl rfl)) ?_
        refine qm_G.s1 rfl (qm_x_pushI 11 rfl) ?_
        refine qm_G.s1 rfl (qm_x_iald (v := (m 11)) (qm_arS hS rfl rfl) rfl (by decide) (by decide) (by decide) (e62 11)) ?_
        refine qm_G.s1 rfl (qm_x_i2l ⟨by omega, by omega⟩) ?_
        refine qm_G.s1 rfl (qm_x_lload rfl) ?_
        refine qm_G.s1 rfl (qm_x_laddz) ?_
        refine qm_G.sp (lv1 := [(0, qm_R (some (0, 61, 0))), (3, qm_I (qm_i ((m 10) - 1))), (4, qm_I (qm_i ((m 0) + (m 9)))), (5, qm_L (qm_l W9))]) rfl rfl (qm_x_lstore (lv' := [(7, qm_L (qm_l ((m 11) + W9))), (0, qm_R (some (0, 61, 0))), (3, qm_I (qm_i ((m 10) - 1))), (4, qm_I (qm_i ((m 0) + (m 9)))), (5, qm_L (qm_l W9))]) rfl) ?_
        refine qm_G.s1 rfl (qm_x_lload rfl) ?_
        refine qm_G.s1 rfl (qm_x_lload rfl) ?_
        refine qm_G.s1 rfl (qm_x_l2ir) ?_
        have g9 : qm_sm ((qm_l W9).toInt32.toInt) := qm_i_sml _
        refine qm_G.s1 rfl (qm_x_i2l ⟨by omega, by omega⟩) ?_
        refine qm_G.s1 rfl (qm_x_lcmpz_gt ⟨by omega, by omega⟩ ⟨by omega, by omega⟩ (by omega)) ?_
        refine qm_G.s1 rfl (qm_x_if_ne_t ⟨by decide, by decide⟩ (by decide)) ?_
        refine qm_G.sp (lv1 := []) rfl rfl (qm_x_pushI (-15) rfl) ?_
        refine qm_G.ret rfl rfl ⟨_, rfl, ?_⟩
        refine qm_G.s1 rfl (qm_x_if_lt_t ⟨by decide, by decide⟩ (by decide)) ?_
        refine qm_G.sp (lv1 := []) rfl rfl (qm_x_pushI 0 rfl) ?_
        rw [show qm_dlw m a b (m 10 - 1) P9 W9 (m 11 + W9) (m 9) = ((m, a, b), 0) from (if_neg (by omega)).trans (if_pos (by unfold qm_sm; omega))] at k
        exact qm_G.ret rfl rfl (k _ _ (fun r s i a => rfl) (fun r s i a => rfl) ⟨e62, (ea), (eb)⟩)
      · refine qm_G.ret rfl rfl ⟨_, rfl, ?_⟩
        refine qm_G.s1 rfl (qm_x_if_ne_f ⟨by decide, by decide⟩ (by decide)) ?_
        refine qm_G.sp (lv1 := []) rfl rfl (qm_x_pushI (-3) rfl) ?_
        refine qm_G.ret rfl rfl ⟨_, rfl, ?_⟩
        refine qm_G.s1 rfl (qm_x_if_lt_t ⟨by decide, by decide⟩ (by decide)) ?_
        refine qm_G.sp (lv1 := []) rfl rfl (qm_x_pushI 0 rfl) ?_
        rw [show qm_dlw m a b (m 10 - 1) P9 W9 (m 11 + W9) (m 9) = ((m, a, b), 0) from if_pos (by omega)] at k
        exact qm_G.ret rfl rfl (k _ _ (fun r s i a => rfl) (fun r s i a => rfl) ⟨e62, (ea), (eb)⟩)
theorem qm_m_do4 {S : List qm_Sh} {J K : qm_J} {L : qm_Ct Int64} {D : qm_Ct UInt64} {R : qm_Ct (Option qm_Rf)} {X : Nat × (Nat → Int32)} {Q : Option qm_V → qm_Hp → Prop} {m : Nat → Int} {a b : UInt64} {v : Int} {c : Nat} (hS : qm_Sd S) (hR : qm_Rd R) (hC : qm_Cm J D (m, a, b)) (hr : qm_Rg c (m, a, b)) (hc : c ≤ 900) (rv : 0 ≤ v ∧ v ≤ 9999) (k : ∀ (J1 : qm_J) (D1 : qm_Ct UInt64), qm_Cg J J1 → qm_Dg D D1 → qm_Cm J1 D1 (qm_do 4 v (m, a, b)).1 → Q (some (qm_I (qm_i (qm_do 4 v (m, a, b)).2))) (qm_H S J1 K L D1 R X)) : qm_C qm_P 172 [qm_R (some (0, 61, 0)), qm_I (qm_i 4), qm_I (qm_i v)] (qm_H S J K L D R X) Q := by
  have e62 : ∀ i, J 62 0 i = m i := hC.1
  have ea : D 61 0 2 = a := hC.2.1
  have eb : D 61 0 3 = b := hC.2.2
  have r0 : 100 ≤ m 0 ∧ m 0 ≤ 9999 := hr.1
  have r1 : 1 ≤ m 1 ∧ m 1 ≤ 8 := hr.2.1
  have r5 : 1 ≤ m 5 ∧ m 5 ≤ 1000000 := hr.2.2.1
  have r6 : 0 ≤ m 6 ∧ m 6 ≤ 2 := hr.2.2.2.1
  have r8 : 0 ≤ m 8 ∧ m 8 ≤ 6 := hr.2.2.2.2.1
  have r9 : 0 ≤ m 9 ∧ m 9 ≤ 6 := hr.2.2.2.2.2.1
  have r10 : -8 ≤ m 10 ∧ m 10 ≤ 8 := hr.2.2.2.2.2.2.1
  have r11 : -2147483648 ≤ m 11 ∧ m 11 ≤ 2147483647 := hr.2.2.2.2.2.2.2.1
  have hm9 : qm_Mid a := hr.2.2.2.2.2.2.2.2.1
  have hs9 : qm_Spr c b := hr.2.2.2.2.2.2.2.2.2
  refine qm_C.go (cd := qm_P172) (lv := [(0, qm_R (some (0, 61, 0))), (1, qm_I (qm_i 4)), (2, qm_I (qm_i v))]) rfl rfl ?_
  refine qm_G.s1 rfl (qm_x_iload rfl) ?_
  refine qm_G.s1 rfl (qm_x_tsw (t := 71) rfl) ?_
  refine qm_G.sp (lv1 := [(0, qm_R (some (0, 61, 0)))]) rfl rfl (qm_x_aload rfl) ?_
  refine qm_G.s1 rfl (qm_x_getfR (q := (some (0, 62, 0))) (hS 61 rfl) (hR 61 0 62 rfl rfl)) ?_
  refine qm_G.s1 rfl (qm_x_pushI 8 rfl) ?_
  refine qm_G.s1 rfl (qm_x_pushI 6 rfl) ?_
  refine qm_G.s1 rfl (qm_x_iast (qm_arS hS rfl rfl) rfl (by decide) (by decide) (by decide)) ?_
  refine qm_G.s1 rfl (qm_x_aload rfl) ?_
  refine qm_G.s1 rfl (qm_x_getfR (q := (some (0, 62, 0))) (hS 61 rfl) (hR 61 0 62 rfl rfl)) ?_
  refine qm_G.s1 rfl (qm_x_pushI 9 rfl) ?_
  refine qm_G.s1 rfl (qm_x_pushI 6 rfl) ?_
  refine qm_G.s1 rfl (qm_x_iast (qm_arS hS rfl rfl) rfl (by decide) (by decide) (by decide)) ?_
  refine qm_G.s1 rfl (qm_x_pushI 1 rfl) ?_
  exact qm_G.ret rfl rfl (k _ _ (fun r s i a => (qm_st_ne (by omega)).trans (qm_st_ne (by omega))) (fun r s i a => rfl) ⟨(qm_up_s (qm_up_s e62)), (ea), (eb)⟩)
theorem qm_m_do5 {S : List qm_Sh} {J K : qm_J} {L : qm_Ct Int64} {D : qm_Ct UInt64} {R : qm_Ct (Option qm_Rf)} {X : Nat × (Nat → Int32)} {Q : Option qm_V → qm_Hp → Prop} {m : Nat → Int} {a b : UInt64} {v : Int} {c : Nat} (hS : qm_Sd S) (hR : qm_Rd R) (hC : qm_Cm J D (m, a, b)) (hr : qm_Rg c (m, a, b)) (hc : c ≤ 900) (rv : 0 ≤ v ∧ v ≤ 9999) (k : ∀ (J1 : qm_J) (D1 : qm_Ct UInt64), qm_Cg J J1 → qm_Dg D D1 → qm_Cm J1 D1 (qm_do 5 v (m, a, b)).1 → Q (some (qm_I (qm_i (qm_do 5 v (m, a, b)).2))) (qm_H S J1 K L D1 R X)) : qm_C qm_P 172 [qm_R (some (0, 61, 0)), qm_I (qm_i 5), qm_I (qm_i v)] (qm_H S J K L D R X) Q := by
  have e62 : ∀ i, J 62 0 i = m i := hC.1
  have ea : D 61 0 2 = a := hC.2.1
  have eb : D 61 0 3 = b := hC.2.2
  have r0 : 100 ≤ m 0 ∧ m 0 ≤ 9999 := hr.1
  have r1 : 1 ≤ m 1 ∧ m 1 ≤ 8 := hr.2.1
  have r5 : 1 ≤ m 5 ∧ m 5 ≤ 1000000 := hr.2.2.1
  have r6 : 0 ≤ m 6 ∧ m 6 ≤ 2 := hr.2.2.2.1
  have r8 : 0 ≤ m 8 ∧ m 8 ≤ 6 := hr.2.2.2.2.1
  have r9 : 0 ≤ m 9 ∧ m 9 ≤ 6 := hr.2.2.2.2.2.1
  have r10 : -8 ≤ m 10 ∧ m 10 ≤ 8 := hr.2.2.2.2.2.2.1
  have r11 : -2147483648 ≤ m 11 ∧ m 11 ≤ 2147483647 := hr.2.2.2.2.2.2.2.1
  have hm9 : qm_Mid a := hr.2.2.2.2.2.2.2.2.1
  have hs9 : qm_Spr c b := hr.2.2.2.2.2.2.2.2.2
  refine qm_C.go (cd := qm_P172) (lv := [(0, qm_R (some (0, 61, 0))), (1, qm_I (qm_i 5)), (2, qm_I (qm_i v))]) rfl rfl ?_
  refine qm_G.s1 rfl (qm_x_iload rfl) ?_
  refine qm_G.s1 rfl (qm_x_tsw (t := 91) rfl) ?_
  refine qm_G.sp (lv1 := [(0, qm_R (some (0, 61, 0))), (2, qm_I (qm_i v))]) rfl rfl (qm_x_aload rfl) ?_
  refine qm_G.s1 rfl (qm_x_pushI 0 rfl) ?_
  refine qm_G.s1 rfl (qm_x_iload rfl) ?_
  refine qm_G.cm rfl rfl (hS 61 rfl) rfl ?_
  refine qm_C.go (cd := qm_P142) (lv := [(0, qm_R (some (0, 61, 0))), (1, qm_I (qm_i 0)), (2, qm_I (qm_i v))]) rfl rfl ?_
  refine qm_G.s1 rfl (qm_x_iload rfl) ?_
  refine qm_G.s1 rfl (qm_x_pushI 0 rfl) ?_
  refine qm_G.s1 rfl (qm_x_pushI 5 rfl) ?_
  refine qm_G.cs rfl rfl rfl ?_
  refine qm_v_within11_t ⟨by decide, by decide⟩ ⟨by decide, by decide⟩ ⟨by decide, by decide⟩ (by decide) ⟨_, rfl, ?_⟩
  refine qm_G.s1 rfl (qm_x_if_ne_t ⟨by decide, by decide⟩ (by decide)) ?_
  refine qm_G.sp (lv1 := [(0, qm_R (some (0, 61, 0))), (1, qm_I (qm_i 0)), (2, qm_I (qm_i v))]) rfl rfl (qm_x_iload rfl) ?_
  refine qm_G.s1 rfl (qm_x_iload rfl) ?_
  refine qm_G.cs rfl rfl rfl ?_
  refine qm_C.go (cd := qm_P84) (lv := [(0, qm_I (qm_i 0)), (1, qm_I (qm_i v))]) rfl rfl ?_
  refine qm_G.s1 rfl (qm_x_iload rfl) ?_
  refine qm_G.s1 rfl (qm_x_tsw (t := 40) rfl) ?_
  refine qm_G.sp (lv1 := [(1, qm_I (qm_i v))]) rfl rfl (qm_x_iload rfl) ?_
  refine qm_G.s1 rfl (qm_x_pushI 100 rfl) ?_
  refine qm_G.s1 rfl (qm_x_pushI 9999 rfl) ?_
  refine qm_G.cs rfl rfl rfl ?_
  refine qm_v_within11 ⟨by omega, by omega⟩ ⟨by decide, by decide⟩ ⟨by decide, by decide⟩ (fun c2 => ⟨_, rfl, ?_⟩) (fun c2 => ⟨_, rfl, ?_⟩)
  · refine qm_G.ret rfl rfl ⟨_, rfl, ?_⟩
    refine qm_G.s1 rfl (qm_x_if_eq_f ⟨by decide, by decide⟩ (by decide)) ?_
    refine qm_G.s1 rfl (qm_x_aload rfl) ?_
    refine qm_G.s1 rfl (qm_x_iload rfl) ?_
    refine qm_G.s1 rfl (qm_x_iload rfl) ?_
    refine qm_G.cm rfl rfl (hS 61 rfl) rfl ?_
    refine qm_C.go (cd := qm_P22) (lv := [(0, qm_R (some (0, 61, 0))), (1, qm_I (qm_i 0)), (2, qm_I (qm_i v))]) rfl rfl ?_
    refine qm_G.s1 rfl (qm_x_aload rfl) ?_
    refine qm_G.s1 rfl (qm_x_getfR (q := (some (0, 62, 0))) (hS 61 rfl) (hR 61 0 62 rfl rfl)) ?_
    refine qm_G.s1 rfl (qm_x_iload rfl) ?_
    refine qm_G.s1 rfl (qm_x_iald (v := (m 0)) (qm_arS hS rfl rfl) rfl (by decide) (by decide) (by decide) (e62 0)) ?_
    refine qm_G.s1 rfl (qm_x_istore (lv' := [(3, qm_I (qm_i (m 0))), (0, qm_R (some (0, 61, 0))), (1, qm_I (qm_i 0)), (2, qm_I (qm_i v))]) rfl) ?_
    refine qm_G.s1 rfl (qm_x_aload rfl) ?_
    refine qm_G.s1 rfl (qm_x_getfR (q := (some (0, 62, 0))) (hS 61 rfl) (hR 61 0 62 rfl rfl)) ?_
    refine qm_G.s1 rfl (qm_x_iload rfl) ?_
    refine qm_G.s1 rfl (qm_x_iload rfl) ?_
    refine qm_G.s1 rfl (qm_x_iast (qm_arS hS rfl rfl) rfl (by decide) (by decide) (by decide)) ?_
    refine qm_G.s1 rfl (qm_x_iload rfl) ?_
    refine qm_G.ret rfl rfl ⟨_, rfl, ?_⟩
    refine qm_G.s1 rfl (qm_x_goto) ?_
    refine qm_G.ret rfl rfl ⟨_, rfl, ?_⟩
    refine qm_G.s1 rfl (qm_x_if_lt_f ⟨by omega, by omega⟩ (by omega)) ?_
    refine qm_G.s1 rfl (qm_x_pushI 1 rfl) ?_
    refine qm_G.s1 rfl (qm_x_goto) ?_
    rw [show qm_do 5 v (m, a, b) = ((qm_up m 0 v, a, b), 1) from if_pos ⟨by omega, by omega⟩] at k
    exact qm_G.ret rfl rfl (k _ _ (fun r s i a => qm_st_ne (by omega)) (fun r s i a => rfl) ⟨(qm_up_s e62), (ea), (eb)⟩)
  · refine qm_G.ret rfl rfl ⟨_, rfl, ?_⟩
    refine qm_G.s1 rfl (qm_x_if_eq_t ⟨by decide, by decide⟩ (by decide)) ?_
    refine qm_G.sp (lv1 := []) rfl rfl (qm_x_pushI (-2) rfl) ?_
    refine qm_G.ret rfl rfl ⟨_, rfl, ?_⟩
    refine qm_G.s1 rfl (qm_x_if_lt_t ⟨by decide, by decide⟩ (by decide)) ?_
    refine qm_G.sp (lv1 := []) rfl rfl (qm_x_pushI 0 rfl) ?_
    rw [show qm_do 5 v (m, a, b) = ((m, a, b), 0) from if_neg (by omega)] at k
    exact qm_G.ret rfl rfl (k _ _ (fun r s i a => rfl) (fun r s i a => rfl) ⟨e62, (ea), (eb)⟩)
theorem qm_m_do6 {S : List qm_Sh} {J K : qm_J} {L : qm_Ct Int64} {D : qm_Ct UInt64} {R : qm_Ct (Option qm_Rf)} {X : Nat × (Nat → Int32)} {Q : Option qm_V → qm_Hp → Prop} {m : Nat → Int} {a b : UInt64} {v : Int} {c : Nat} (hS : qm_Sd S) (hR : qm_Rd R) (hC : qm_Cm J D (m, a, b)) (hr : qm_Rg c (m, a, b)) (hc : c ≤ 900) (rv : 0 ≤ v ∧ v ≤ 9999) (k : ∀ (J1 : qm_J) (D1 : qm_Ct UInt64), qm_Cg J J1 → qm_Dg D D1 → qm_Cm J1 D1 (qm_do 6 v (m, a, b)).1 → Q (some (qm_I (qm_i (qm_do 6 v (m, a, b)).2))) (qm_H S J1 K L D1 R X)) : qm_C qm_P 172 [qm_R (some (0, 61, 0)), qm_I (qm_i 6), qm_I (qm_i v)] (qm_H S J K L D R X) Q := by
  have e62 : ∀ i, J 62 0 i = m i := hC.1
  have ea : D 61 0 2 = a := hC.2.1
  have eb : D 61 0 3 = b := hC.2.2
  have r0 : 100 ≤ m 0 ∧ m 0 ≤ 9999 := hr.1
  have r1 : 1 ≤ m 1 ∧ m 1 ≤ 8 := hr.2.1
  have r5 : 1 ≤ m 5 ∧ m 5 ≤ 1000000 := hr.2.2.1
  have r6 : 0 ≤ m 6 ∧ m 6 ≤ 2 := hr.2.2.2.1
  have r8 : 0 ≤ m 8 ∧ m 8 ≤ 6 := hr.2.2.2.2.1
  have r9 : 0 ≤ m 9 ∧ m 9 ≤ 6 := hr.2.2.2.2.2.1
  have r10 : -8 ≤ m 10 ∧ m 10 ≤ 8 := hr.2.2.2.2.2.2.1
  have r11 : -2147483648 ≤ m 11 ∧ m 11 ≤ 2147483647 := hr.2.2.2.2.2.2.2.1
  have hm9 : qm_Mid a := hr.2.2.2.2.2.2.2.2.1
  have hs9 : qm_Spr c b := hr.2.2.2.2.2.2.2.2.2
  refine qm_C.go (cd := qm_P172) (lv := [(0, qm_R (some (0, 61, 0))), (1, qm_I (qm_i 6)), (2, qm_I (qm_i v))]) rfl rfl ?_
  refine qm_G.s1 rfl (qm_x_iload rfl) ?_
  refine qm_G.s1 rfl (qm_x_tsw (t := 106) rfl) ?_
  refine qm_G.sp (lv1 := [(0, qm_R (some (0, 61, 0))), (2, qm_I (qm_i v))]) rfl rfl (qm_x_aload rfl) ?_
  refine qm_G.s1 rfl (qm_x_iload rfl) ?_
  refine qm_G.cm rfl rfl (hS 61 rfl) rfl ?_
  refine qm_C.go (cd := qm_P131) (lv := [(0, qm_R (some (0, 61, 0))), (1, qm_I (qm_i v))]) rfl rfl ?_
  refine qm_G.s1 rfl (qm_x_iload rfl) ?_
  refine qm_G.cs rfl rfl rfl ?_
  refine qm_C.go (cd := qm_P80) (lv := [(0, qm_I (qm_i v))]) rfl rfl ?_
  refine qm_G.s1 rfl (qm_x_iload rfl) ?_
  refine qm_G.s1 rfl (qm_x_pushI 0 rfl) ?_
  refine qm_G.s1 rfl (qm_x_pushI 2 rfl) ?_
  refine qm_G.cs rfl rfl rfl ?_
  refine qm_v_within11 ⟨by omega, by omega⟩ ⟨by decide, by decide⟩ ⟨by decide, by decide⟩ (fun c1 => ⟨_, rfl, ?_⟩) (fun c1 => ⟨_, rfl, ?_⟩)
  · refine qm_G.ret rfl rfl ⟨_, rfl, ?_⟩
    refine qm_G.s1 rfl (qm_x_if_eq_f ⟨by decide, by decide⟩ (by decide)) ?_
    refine qm_G.s1 rfl (qm_x_aload rfl) ?_
    refine qm_G.s1 rfl (qm_x_pushI 6 rfl) ?_
    refine qm_G.s1 rfl (qm_x_iload rfl) ?_
    refine qm_G.cm rfl rfl (hS 61 rfl) rfl ?_
    refine qm_C.go (cd := qm_P22) (lv := [(0, qm_R (some (0, 61, 0))), (1, qm_I (qm_i 6)), (2, qm_I (qm_i v))]) rfl rfl ?_
    refine qm_G.s1 rfl (qm_x_aload rfl) ?_
    refine qm_G.s1 rfl (qm_x_getfR (q := (some (0, 62, 0))) (hS 61 rfl) (hR 61 0 62 rfl rfl)) ?_
    refine qm_G.s1 rfl (qm_x_iload rfl) ?_
    refine qm_G.s1 rfl (qm_x_iald (v := (m 6)) (qm_arS hS rfl rfl) rfl (by decide) (by decide) (by decide) (e62 6)) ?_
    refine qm_G.s1 rfl (qm_x_istore (lv' := [(3, qm_I (qm_i (m 6))), (0, qm_R (some (0, 61, 0))), (1, qm_I (qm_i 6)), (2, qm_I (qm_i v))]) rfl) ?_
    refine qm_G.s1 rfl (qm_x_aload rfl) ?_
    refine qm_G.s1 rfl (qm_x_getfR (q := (some (0, 62, 0))) (hS 61 rfl) (hR 61 0 62 rfl rfl)) ?_
    refine qm_G.s1 rfl (qm_x_iload rfl) ?_
    refine qm_G.s1 rfl (qm_x_iload rfl) ?_
    refine qm_G.s1 rfl (qm_x_iast (qm_arS hS rfl rfl) rfl (by decide) (by decide) (by decide)) ?_
    refine qm_G.s1 rfl (qm_x_iload rfl) ?_
    refine qm_G.ret rfl rfl ⟨_, rfl, ?_⟩
    refine qm_G.s1 rfl (qm_x_goto) ?_
    refine qm_G.ret rfl rfl ⟨_, rfl, ?_⟩
    refine qm_G.s1 rfl (qm_x_if_lt_f ⟨by omega, by omega⟩ (by omega)) ?_
    refine qm_G.s1 rfl (qm_x_pushI 1 rfl) ?_
    refine qm_G.s1 rfl (qm_x_goto) ?_
    rw [show qm_do 6 v (m, a, b) = ((qm_up m 6 v, a, b), 1) from if_pos ⟨by omega, by omega⟩] at k
    exact qm_G.ret rfl rfl (k _ _ (fun r s i a => qm_st_ne (by omega)) (fun r s i a => rfl) ⟨(qm_up_s e62), (ea), (eb)⟩)
  · refine qm_G.ret rfl rfl ⟨_, rfl, ?_⟩
    refine qm_G.s1 rfl (qm_x_if_eq_t ⟨by decide, by decide⟩ (by decide)) ?_
    refine qm_G.sp (lv1 := []) rfl rfl (qm_x_pushI (-1) rfl) ?_
    refine qm_G.ret rfl rfl ⟨_, rfl, ?_⟩
    refine qm_G.s1 rfl (qm_x_if_lt_t ⟨by decide, by decide⟩ (by decide)) ?_
    refine qm_G.sp (lv1 := []) rfl rfl (qm_x_pushI 0 rfl) ?_
    rw [show qm_do 6 v (m, a, b) = ((m, a, b), 0) from if_neg (by omega)] at k
    exact qm_G.ret rfl rfl (k _ _ (fun r s i a => rfl) (fun r s i a => rfl) ⟨e62, (ea), (eb)⟩)
