/-! VALUE on the class's side: one choice -/
theorem qm_x_ldiv {n : Nat} {lv : qm_Lv} {st : List qm_V} {h : qm_Hp} {a b : Int64} (hb : b ≠ 0) : qm_St (qm_o_ldiv n) lv (qm_L b :: qm_L a :: st) h n lv (qm_L (a / b) :: st) h := by
  show (if b = 0 then none else some _) = _
  rw [if_neg hb]
theorem qm_x_lxor {n : Nat} {lv : qm_Lv} {st : List qm_V} {h : qm_Hp} {a b : Int64} : qm_St (qm_o_lxor n) lv (qm_L b :: qm_L a :: st) h n lv (qm_L (a ^^^ b) :: st) h := rfl
theorem qm_lt_asym {a b : Int64} (h : a < b) : ¬ b < a := fun h2 => by rw [Int64.lt_iff_toInt_lt] at h h2; omega
theorem qm_lt_irr {a b : Int64} (h : a = b) : ¬ b < a := fun h2 => by subst h; rw [Int64.lt_iff_toInt_lt] at h2; omega
theorem qm_lt_ne {a b : Int64} (h : a < b) : ¬ a = b := fun e => by subst e; rw [Int64.lt_iff_toInt_lt] at h; omega
theorem qm_set2 {α : Type} {f : qm_Ct α} {r1 r2 s i : Nat} {x y x' y' : α} (h : r1 ≠ r2) : qm_set (qm_set (qm_set (qm_set f r1 s i x) r2 s i y) r1 s i x') r2 s i y' = qm_set (qm_set f r1 s i x') r2 s i y' := by
  funext r3 s3 i3
  unfold qm_set
  by_cases h1 : r3 = r2 ∧ s3 = s ∧ i3 = i
  · simp only [if_pos h1]
  · simp only [if_neg h1]
    split <;> rfl
theorem qm_v_fd {Q : Option qm_V → qm_Hp → Prop} {x : Int64} {h : qm_Hp} (k : Q (some (qm_L (qm_fd x))) h) : qm_C qm_P 10 [qm_L x, qm_L (qm_l 1000000)] (h) Q := by
  refine qm_C.go (cd := qm_P10) (lv := [(0, qm_L x), (2, qm_L (qm_l 1000000))]) rfl rfl ?_
  refine qm_G.s1 rfl (qm_x_lload rfl) ?_
  refine qm_G.s1 rfl (qm_x_lload rfl) ?_
  refine qm_G.s1 rfl (qm_x_ldiv (by decide)) ?_
  refine qm_G.s1 rfl (qm_x_lstore (lv' := [(4, qm_L (x / (qm_l 1000000))), (0, qm_L x), (2, qm_L (qm_l 1000000))]) rfl) ?_
  refine qm_G.s1 rfl (qm_x_lload rfl) ?_
  refine qm_G.s1 rfl (qm_x_lload rfl) ?_
  refine qm_G.s1 rfl (qm_x_lxor) ?_
  refine qm_G.s1 rfl (qm_x_pushL 0 rfl) ?_
  refine qm_y_lcmpr rfl (fun c1 => ?_) (fun c1 => ?_) (fun c1 => ?_)
  · refine qm_G.s1 rfl (qm_x_if_ge_f ⟨by decide, by decide⟩ (by decide)) ?_
    refine qm_G.s1 rfl (qm_x_lload rfl) ?_
    refine qm_G.s1 rfl (qm_x_lload rfl) ?_
    refine qm_G.s1 rfl (qm_x_lmul) ?_
    refine qm_G.s1 rfl (qm_x_lload rfl) ?_
    refine qm_y_lcmpr rfl (fun c2 => ?_) (fun c2 => ?_) (fun c2 => ?_)
    · refine qm_G.s1 rfl (qm_x_if_eq_f ⟨by decide, by decide⟩ (by decide)) ?_
      refine qm_G.s1 rfl (qm_x_lload rfl) ?_
      refine qm_G.s1 rfl (qm_x_pushL 1 rfl) ?_
      refine qm_G.s1 rfl (qm_x_lsub) ?_
      exact qm_G.ret rfl rfl (by unfold qm_fd at k; rw [(if_pos ⟨c1, qm_lt_ne c2⟩)] at k; exact k)
    · refine qm_G.s1 rfl (qm_x_if_eq_t ⟨by decide, by decide⟩ (by decide)) ?_
      refine qm_G.sp (lv1 := [(4, qm_L (x / (qm_l 1000000)))]) rfl rfl (qm_x_lload rfl) ?_
      exact qm_G.ret rfl rfl (by unfold qm_fd at k; rw [(if_neg (fun h => h.2 c2))] at k; exact k)
    · refine qm_G.s1 rfl (qm_x_if_eq_f ⟨by decide, by decide⟩ (by decide)) ?_
      refine qm_G.s1 rfl (qm_x_lload rfl) ?_
      refine qm_G.s1 rfl (qm_x_pushL 1 rfl) ?_
      refine qm_G.s1 rfl (qm_x_lsub) ?_
      exact qm_G.ret rfl rfl (by unfold qm_fd at k; rw [(if_pos ⟨c1, fun h => qm_lt_ne c2 h.symm⟩)] at k; exact k)
  · refine qm_G.s1 rfl (qm_x_if_ge_t ⟨by decide, by decide⟩ (by decide)) ?_
    refine qm_G.sp (lv1 := [(4, qm_L (x / (qm_l 1000000)))]) rfl rfl (qm_x_lload rfl) ?_
    exact qm_G.ret rfl rfl (by unfold qm_fd at k; rw [(if_neg (fun h => qm_lt_irr c1.symm h.1))] at k; exact k)
  · refine qm_G.s1 rfl (qm_x_if_ge_t ⟨by decide, by decide⟩ (by decide)) ?_
    refine qm_G.sp (lv1 := [(4, qm_L (x / (qm_l 1000000)))]) rfl rfl (qm_x_lload rfl) ?_
    exact qm_G.ret rfl rfl (by unfold qm_fd at k; rw [(if_neg (fun h => qm_lt_asym c1 h.1))] at k; exact k)
/-- the class's rounds go by the limit and two rows of chances -/
def qm_Bk (J : qm_J) (lim : Int) (Pb Pa : Int → Int) : Prop := J 35 0 6 = lim ∧ (1 ≤ lim ∧ lim ≤ 8) ∧ (∀ (z : Int) (i : Nat), i = Int.toNat z → 0 ≤ z → z ≤ 6 → J 36 1 i = Pb z) ∧ (∀ (z : Int) (i : Nat), i = Int.toNat z → 0 ≤ z → z ≤ 6 → J 36 2 i = Pa z) ∧ (∀ z : Int, 0 ≤ z → z ≤ 6 → 0 ≤ Pb z ∧ Pb z ≤ 1000) ∧ (∀ z : Int, 0 ≤ z → z ≤ 6 → 0 ≤ Pa z ∧ Pa z ≤ 1000)
theorem qm_Bk.fr {J J' : qm_J} {lim : Int} {Pb Pa : Int → Int} (h : qm_Bk J lim Pb Pa) (e : ∀ r s i, r = 35 ∨ r = 36 → J' r s i = J r s i) : qm_Bk J' lim Pb Pa := by
  obtain ⟨h1, h2, h3, h4, h5, h6⟩ := h
  exact ⟨by rw [e 35 0 6 (by omega)]; exact h1, h2, fun z i a b c => by rw [e 36 1 i (by omega)]; exact h3 z i a b c, fun z i a b c => by rw [e 36 2 i (by omega)]; exact h4 z i a b c, h5, h6⟩
theorem qm_v_held {S : List qm_Sh} {J K : qm_J} {L : qm_Ct Int64} {D : qm_Ct UInt64} {R : qm_Ct (Option qm_Rf)} {X : Nat × (Nat → Int32)} {Q : Option qm_V → qm_Hp → Prop} {lim x : Int} {Pb Pa : Int → Int} {V : Int → Int64} {rw : Nat} (hS : qm_Sd S) (hR : qm_Rd R) (hB : qm_Bk J lim Pb Pa) (hw : rw < 9) (r0 : -9 ≤ x ∧ x ≤ 9) (hV : ∀ (z : Int) (i : Nat), i = Int.toNat (z + 8) → -lim ≤ z → z ≤ lim → L 37 (rw + 1) i = V z) (k : Q (some (qm_L (qm_hd V lim x))) (qm_H S J K L D R X)) : qm_C qm_P 91 [qm_R (some (0, 35, 0)), qm_R (some (0, 37, rw + 1)), qm_I (qm_i x)] (qm_H S J K L D R X) Q := by
  obtain ⟨hl, rl, hPb, hPa, rPb, rPa⟩ := hB
  refine qm_C.go (cd := qm_P91) (lv := [(0, qm_R (some (0, 35, 0))), (1, qm_R (some (0, 37, rw + 1))), (2, qm_I (qm_i x))]) rfl rfl ?_
  refine qm_G.s1 rfl (qm_x_iload rfl) ?_
  refine qm_G.s1 rfl (qm_x_aload rfl) ?_
  refine qm_G.s1 rfl (qm_x_getfI (v := lim) (hS 35 rfl) hl) ?_
  refine qm_G.s1 rfl (qm_x_ineg) ?_
  refine qm_G.s1 rfl (qm_x_aload rfl) ?_
  refine qm_G.s1 rfl (qm_x_getfI (v := lim) (hS 35 rfl) hl) ?_
  refine qm_G.cs rfl rfl rfl ?_
  refine qm_v_within10 ⟨by omega, by omega⟩ ⟨by omega, by omega⟩ ⟨by omega, by omega⟩ (fun c1 => ⟨_, rfl, ?_⟩) (fun c1 => ⟨_, rfl, ?_⟩)
  · refine qm_G.s1 rfl (qm_x_if_eq_f ⟨by decide, by decide⟩ (by decide)) ?_
    refine qm_G.s1 rfl (qm_x_aload rfl) ?_
    refine qm_G.s1 rfl (qm_x_iload rfl) ?_
    refine qm_G.s1 rfl (qm_x_pushI 8 rfl) ?_
    refine qm_G.s1 rfl (qm_x_iadd) ?_
    refine qm_G.s1 rfl (qm_x_lald (a := (V x)) (qm_arS hS rfl rfl) rfl (by omega) (by omega) (by omega) (hV x _ (by omega) (by omega) (by omega))) ?_
    refine qm_G.s1 rfl (qm_x_goto) ?_
    exact qm_G.ret rfl rfl (by unfold qm_hd at k; rw [if_pos (by omega)] at k; exact k)
  · refine qm_G.s1 rfl (qm_x_if_eq_t ⟨by decide, by decide⟩ (by decide)) ?_
    refine qm_G.sp (lv1 := []) rfl rfl (qm_x_pushL 0 rfl) ?_
    exact qm_G.ret rfl rfl (by unfold qm_hd at k; rw [if_neg (by omega)] at k; exact k)
theorem qm_w_held {S : List qm_Sh} {J K : qm_J} {L : qm_Ct Int64} {D : qm_Ct UInt64} {R : qm_Ct (Option qm_Rf)} {X : Nat × (Nat → Int32)} {Q : Option qm_V → qm_Hp → Prop} {lim x : Int} {Pb Pa : Int → Int} {V : Int → Int64} {rw : Nat} (hS : qm_Sd S) (hR : qm_Rd R) (hB : qm_Bk J lim Pb Pa) (hw : rw < 9) (r0 : -9 ≤ x ∧ x ≤ 9) (hV : ∀ (z : Int) (i : Nat), i = Int.toNat (z + 8) → -lim ≤ z → z ≤ lim → L 40 (rw + 1) i = V z) (k : Q (some (qm_L (qm_hd V lim x))) (qm_H S J K L D R X)) : qm_C qm_P 91 [qm_R (some (0, 35, 0)), qm_R (some (0, 40, rw + 1)), qm_I (qm_i x)] (qm_H S J K L D R X) Q := by
  obtain ⟨hl, rl, hPb, hPa, rPb, rPa⟩ := hB
  refine qm_C.go (cd := qm_P91) (lv := [(0, qm_R (some (0, 35, 0))), (1, qm_R (some (0, 40, rw + 1))), (2, qm_I (qm_i x))]) rfl rfl ?_
  refine qm_G.s1 rfl (qm_x_iload rfl) ?_
  refine qm_G.s1 rfl (qm_x_aload rfl) ?_
  refine qm_G.s1 rfl (qm_x_getfI (v := lim) (hS 35 rfl) hl) ?_
  refine qm_G.s1 rfl (qm_x_ineg) ?_
  refine qm_G.s1 rfl (qm_x_aload rfl) ?_
  refine qm_G.s1 rfl (qm_x_getfI (v := lim) (hS 35 rfl) hl) ?_
  refine qm_G.cs rfl rfl rfl ?_
  refine qm_v_within10 ⟨by omega, by omega⟩ ⟨by omega, by omega⟩ ⟨by omega, by omega⟩ (fun c1 => ⟨_, rfl, ?_⟩) (fun c1 => ⟨_, rfl, ?_⟩)
  · refine qm_G.s1 rfl (qm_x_if_eq_f ⟨by decide, by decide⟩ (by decide)) ?_
    refine qm_G.s1 rfl (qm_x_aload rfl) ?_
    refine qm_G.s1 rfl (qm_x_iload rfl) ?_
    refine qm_G.s1 rfl (qm_x_pushI 8 rfl) ?_
    refine qm_G.s1 rfl (qm_x_iadd) ?_
    refine qm_G.s1 rfl (qm_x_lald (a := (V x)) (qm_arS hS rfl rfl) rfl (by omega) (by omega) (by omega) (hV x _ (by omega) (by omega) (by omega))) ?_
    refine qm_G.s1 rfl (qm_x_goto) ?_
    exact qm_G.ret rfl rfl (by unfold qm_hd at k; rw [if_pos (by omega)] at k; exact k)
  · refine qm_G.s1 rfl (qm_x_if_eq_t ⟨by decide, by decide⟩ (by decide)) ?_
    refine qm_G.sp (lv1 := []) rfl rfl (qm_x_pushL 0 rfl) ?_
    exact qm_G.ret rfl rfl (by unfold qm_hd at k; rw [if_neg (by omega)] at k; exact k)
theorem qm_v_mean {S : List qm_Sh} {J K : qm_J} {L : qm_Ct Int64} {D : qm_Ct UInt64} {R : qm_Ct (Option qm_Rf)} {X : Nat × (Nat → Int32)} {Q : Option qm_V → qm_Hp → Prop} {lim b a : Int} {sa mo le : Int64} {Pb Pa : Int → Int} (hS : qm_Sd S) (hR : qm_Rd R) (hB : qm_Bk J lim Pb Pa) (r0 : 0 ≤ b ∧ b ≤ 6) (r1 : 0 ≤ a ∧ a ≤ 6) (k : Q (some (qm_L (qm_mn (Pb b) (Pa a) b a sa mo le))) (qm_H S J K L D R X)) : qm_C qm_P 104 [qm_R (some (0, 35, 0)), qm_I (qm_i b), qm_I (qm_i a), qm_L sa, qm_L mo, qm_L le] (qm_H S J K L D R X) Q := by
  obtain ⟨hl, rl, hPb, hPa, rPb, rPa⟩ := hB
  refine qm_C.go (cd := qm_P104) (lv := [(0, qm_R (some (0, 35, 0))), (1, qm_I (qm_i b)), (2, qm_I (qm_i a)), (3, qm_L sa), (5, qm_L mo), (7, qm_L le)]) rfl rfl ?_
  refine qm_G.s1 rfl (qm_x_aload rfl) ?_
  refine qm_G.s1 rfl (qm_x_getfR (q := (some (0, 36, 0))) (hS 35 rfl) (hR 35 0 36 rfl rfl)) ?_
  refine qm_G.s1 rfl (qm_x_pushI 0 rfl) ?_
  refine qm_G.s1 rfl (qm_x_aaldg (hS 36 rfl) rfl rfl (by decide) (by decide)) ?_
  refine qm_G.s1 rfl (qm_x_iload rfl) ?_
  have g1 := rPb b (by omega) (by omega)
  refine qm_G.s1 rfl (qm_x_iald (v := (Pb b)) (qm_arS hS rfl rfl) rfl (by omega) (by omega) (by decide) (hPb b _ (by omega) (by omega) (by omega))) ?_
  refine qm_G.s1 rfl (qm_x_i2l ⟨by omega, by omega⟩) ?_
  refine qm_G.s1 rfl (qm_x_lstore (lv' := [(9, qm_L (qm_l (Pb b))), (0, qm_R (some (0, 35, 0))), (1, qm_I (qm_i b)), (2, qm_I (qm_i a)), (3, qm_L sa), (5, qm_L mo), (7, qm_L le)]) rfl) ?_
  refine qm_G.s1 rfl (qm_x_aload rfl) ?_
  refine qm_G.s1 rfl (qm_x_getfR (q := (some (0, 36, 0))) (hS 35 rfl) (hR 35 0 36 rfl rfl)) ?_
  refine qm_G.s1 rfl (qm_x_pushI 1 rfl) ?_
  refine qm_G.s1 rfl (qm_x_aaldg (hS 36 rfl) rfl rfl (by decide) (by decide)) ?_
  refine qm_G.s1 rfl (qm_x_iload rfl) ?_
  have g2 := rPa a (by omega) (by omega)
  refine qm_G.s1 rfl (qm_x_iald (v := (Pa a)) (qm_arS hS rfl rfl) rfl (by omega) (by omega) (by decide) (hPa a _ (by omega) (by omega) (by omega))) ?_
  refine qm_G.s1 rfl (qm_x_i2l ⟨by omega, by omega⟩) ?_
  refine qm_G.s1 rfl (qm_x_lstore (lv' := [(11, qm_L (qm_l (Pa a))), (9, qm_L (qm_l (Pb b))), (0, qm_R (some (0, 35, 0))), (1, qm_I (qm_i b)), (2, qm_I (qm_i a)), (3, qm_L sa), (5, qm_L mo), (7, qm_L le)]) rfl) ?_
  refine qm_G.s1 rfl (qm_x_pushL 1000 rfl) ?_
  refine qm_G.s1 rfl (qm_x_lload rfl) ?_
  refine qm_G.s1 rfl (qm_x_lsubz) ?_
  refine qm_G.s1 rfl (qm_x_lstore (lv' := [(13, qm_L (qm_l (1000 - (Pb b)))), (11, qm_L (qm_l (Pa a))), (9, qm_L (qm_l (Pb b))), (0, qm_R (some (0, 35, 0))), (1, qm_I (qm_i b)), (2, qm_I (qm_i a)), (3, qm_L sa), (5, qm_L mo), (7, qm_L le)]) rfl) ?_
  refine qm_G.s1 rfl (qm_x_pushL 1000 rfl) ?_
  refine qm_G.s1 rfl (qm_x_lload rfl) ?_
  refine qm_G.s1 rfl (qm_x_lsubz) ?_
  refine qm_G.s1 rfl (qm_x_lstore (lv' := [(15, qm_L (qm_l (1000 - (Pa a)))), (13, qm_L (qm_l (1000 - (Pb b)))), (11, qm_L (qm_l (Pa a))), (9, qm_L (qm_l (Pb b))), (0, qm_R (some (0, 35, 0))), (1, qm_I (qm_i b)), (2, qm_I (qm_i a)), (3, qm_L sa), (5, qm_L mo), (7, qm_L le)]) rfl) ?_
  refine qm_G.s1 rfl (qm_x_lload rfl) ?_
  refine qm_G.s1 rfl (qm_x_lload rfl) ?_
  refine qm_G.s1 rfl (qm_x_lmul) ?_
  refine qm_G.s1 rfl (qm_x_lload rfl) ?_
  refine qm_G.s1 rfl (qm_x_iload rfl) ?_
  refine qm_G.s1 rfl (qm_x_iload rfl) ?_
  refine qm_G.s1 rfl (qm_x_iadd) ?_
  refine qm_G.s1 rfl (qm_x_i2l ⟨by omega, by omega⟩) ?_
  refine qm_G.s1 rfl (qm_x_pushL 1000000 rfl) ?_
  refine qm_G.s1 rfl (qm_x_lmul) ?_
  refine qm_G.s1 rfl (qm_x_ladd) ?_
  refine qm_G.s1 rfl (qm_x_lmul) ?_
  refine qm_G.s1 rfl (qm_x_lload rfl) ?_
  refine qm_G.s1 rfl (qm_x_lload rfl) ?_
  refine qm_G.s1 rfl (qm_x_lmul) ?_
  refine qm_G.s1 rfl (qm_x_lload rfl) ?_
  refine qm_G.s1 rfl (qm_x_iload rfl) ?_
  refine qm_G.s1 rfl (qm_x_i2l ⟨by omega, by omega⟩) ?_
  refine qm_G.s1 rfl (qm_x_pushL 1000000 rfl) ?_
  refine qm_G.s1 rfl (qm_x_lmul) ?_
  refine qm_G.s1 rfl (qm_x_ladd) ?_
  refine qm_G.s1 rfl (qm_x_lmul) ?_
  refine qm_G.s1 rfl (qm_x_ladd) ?_
  refine qm_G.s1 rfl (qm_x_lload rfl) ?_
  refine qm_G.s1 rfl (qm_x_lload rfl) ?_
  refine qm_G.s1 rfl (qm_x_lmul) ?_
  refine qm_G.s1 rfl (qm_x_lload rfl) ?_
  refine qm_G.s1 rfl (qm_x_iload rfl) ?_
  refine qm_G.s1 rfl (qm_x_i2l ⟨by omega, by omega⟩) ?_
  refine qm_G.s1 rfl (qm_x_pushL 1000000 rfl) ?_
  refine qm_G.s1 rfl (qm_x_lmul) ?_
  refine qm_G.s1 rfl (qm_x_ladd) ?_
  refine qm_G.s1 rfl (qm_x_lmul) ?_
  refine qm_G.s1 rfl (qm_x_ladd) ?_
  refine qm_G.s1 rfl (qm_x_lload rfl) ?_
  refine qm_G.s1 rfl (qm_x_lload rfl) ?_
  refine qm_G.s1 rfl (qm_x_lmul) ?_
  refine qm_G.s1 rfl (qm_x_lload rfl) ?_
  refine qm_G.s1 rfl (qm_x_lmul) ?_
  refine qm_G.s1 rfl (qm_x_ladd) ?_
  refine qm_G.s1 rfl (qm_x_lstore (lv' := [(17, qm_L ((((((qm_l (Pb b)) * (qm_l (Pa a))) * (sa + ((qm_l (b + a)) * (qm_l 1000000)))) + (((qm_l (Pb b)) * (qm_l (1000 - (Pa a)))) * (mo + ((qm_l b) * (qm_l 1000000))))) + (((qm_l (1000 - (Pb b))) * (qm_l (Pa a))) * (le + ((qm_l a) * (qm_l 1000000))))) + (((qm_l (1000 - (Pb b))) * (qm_l (1000 - (Pa a)))) * sa))), (15, qm_L (qm_l (1000 - (Pa a)))), (13, qm_L (qm_l (1000 - (Pb b)))), (11, qm_L (qm_l (Pa a))), (9, qm_L (qm_l (Pb b))), (0, qm_R (some (0, 35, 0))), (1, qm_I (qm_i b)), (2, qm_I (qm_i a)), (3, qm_L sa), (5, qm_L mo), (7, qm_L le)]) rfl) ?_
  refine qm_G.s1 rfl (qm_x_lload rfl) ?_
  refine qm_G.s1 rfl (qm_x_pushL 1000000 rfl) ?_
  refine qm_G.cs rfl rfl rfl ?_
  refine qm_v_fd ⟨_, rfl, ?_⟩
  exact qm_G.ret rfl rfl k
theorem qm_d_cha {S : List qm_Sh} {J K : qm_J} {L : qm_Ct Int64} {D : qm_Ct UInt64} {R : qm_Ct (Option qm_Rf)} {X : Nat × (Nat → Int32)} {Q : Option qm_V → qm_Hp → Prop} {lim s T : Int} {Pb Pa : Int → Int} {sa mo le : Int64} (hS : qm_Sd S) (hR : qm_Rd R) (hB : qm_Bk J lim Pb Pa) (r1 : -8 ≤ s ∧ s ≤ 8) (r2 : 1 ≤ T ∧ T ≤ 8) {b : Int} (rb : 0 ≤ b ∧ b ≤ 6) : ∀ (n : Nat) (a : Int) (v : Int64) (x y : Int), a + n = 7 → 0 ≤ a → (∀ (v' : Int64) (x' y' : Int), qm_inn (fun b a => qm_mn (Pb b) (Pa a) b a sa mo le) b n a (v, x, y) = (v', x', y') → qm_G qm_P qm_P159 172 [(0, qm_R (some (0, 35, 0))), (1, qm_I (qm_i s)), (2, qm_I (qm_i T)), (4, qm_L sa), (6, qm_L mo), (8, qm_L le), (10, qm_I (qm_i (s + 8))), (11, qm_I (qm_i b))] [] (qm_H S (qm_set (qm_set J 38 (Int.toNat T + 1) (Int.toNat (s + 8)) x') 39 (Int.toNat T + 1) (Int.toNat (s + 8)) y') K (qm_set L 37 (Int.toNat T + 1) (Int.toNat (s + 8)) v') D R X) Q) → qm_G qm_P qm_P159 95 [(0, qm_R (some (0, 35, 0))), (1, qm_I (qm_i s)), (2, qm_I (qm_i T)), (4, qm_L sa), (6, qm_L mo), (8, qm_L le), (10, qm_I (qm_i (s + 8))), (11, qm_I (qm_i b)), (12, qm_I (qm_i a))] [] (qm_H S (qm_set (qm_set J 38 (Int.toNat T + 1) (Int.toNat (s + 8)) x) 39 (Int.toNat T + 1) (Int.toNat (s + 8)) y) K (qm_set L 37 (Int.toNat T + 1) (Int.toNat (s + 8)) v) D R X) Q := by
  have hB2 : ∀ x y, qm_Bk (qm_set (qm_set J 38 (Int.toNat T + 1) (Int.toNat (s + 8)) x) 39 (Int.toNat T + 1) (Int.toNat (s + 8)) y) lim Pb Pa := fun x y => hB.fr (fun r s' i h => by rw [qm_st_ne (by omega), qm_st_ne (by omega)])
  obtain ⟨hl, rl, hPb, hPa, rPb, rPa⟩ := hB
  intro n
  induction n with
  | zero =>
    intro a v x y h1 h2 k
    refine qm_G.pk (lv1 := [(0, qm_R (some (0, 35, 0))), (1, qm_I (qm_i s)), (2, qm_I (qm_i T)), (4, qm_L sa), (6, qm_L mo), (8, qm_L le), (10, qm_I (qm_i (s + 8))), (11, qm_I (qm_i b)), (12, qm_I (qm_i a))]) rfl rfl rfl ?_
    refine qm_G.sp (lv1 := [(0, qm_R (some (0, 35, 0))), (1, qm_I (qm_i s)), (2, qm_I (qm_i T)), (4, qm_L sa), (6, qm_L mo), (8, qm_L le), (10, qm_I (qm_i (s + 8))), (11, qm_I (qm_i b)), (12, qm_I (qm_i a))]) rfl rfl (qm_x_iload rfl) ?_
    refine qm_G.s1 rfl (qm_x_pushI 6 rfl) ?_
    refine qm_G.s1 rfl (qm_x_icmp_gt_t ⟨by omega, by omega⟩ ⟨by decide, by decide⟩ (by omega)) ?_
    refine qm_G.pk (lv1 := [(0, qm_R (some (0, 35, 0))), (1, qm_I (qm_i s)), (2, qm_I (qm_i T)), (4, qm_L sa), (6, qm_L mo), (8, qm_L le), (10, qm_I (qm_i (s + 8))), (11, qm_I (qm_i b))]) rfl rfl rfl ?_
    exact k v x y rfl
  | succ n ih =>
    intro a v x y h1 h2 k
    refine qm_G.pk (lv1 := [(0, qm_R (some (0, 35, 0))), (1, qm_I (qm_i s)), (2, qm_I (qm_i T)), (4, qm_L sa), (6, qm_L mo), (8, qm_L le), (10, qm_I (qm_i (s + 8))), (11, qm_I (qm_i b)), (12, qm_I (qm_i a))]) rfl rfl rfl ?_
    have h3 : a ≤ 6 := by omega
    refine qm_G.sp (lv1 := [(0, qm_R (some (0, 35, 0))), (1, qm_I (qm_i s)), (2, qm_I (qm_i T)), (4, qm_L sa), (6, qm_L mo), (8, qm_L le), (10, qm_I (qm_i (s + 8))), (11, qm_I (qm_i b)), (12, qm_I (qm_i a))]) rfl rfl (qm_x_iload rfl) ?_
    refine qm_G.s1 rfl (qm_x_pushI 6 rfl) ?_
    refine qm_G.s1 rfl (qm_x_icmp_gt_f ⟨by omega, by omega⟩ ⟨by decide, by decide⟩ (by omega)) ?_
    refine qm_G.s1 rfl (qm_x_aload rfl) ?_
    refine qm_G.s1 rfl (qm_x_iload rfl) ?_
    refine qm_G.s1 rfl (qm_x_iload rfl) ?_
    refine qm_G.s1 rfl (qm_x_lload rfl) ?_
    refine qm_G.s1 rfl (qm_x_lload rfl) ?_
    refine qm_G.s1 rfl (qm_x_lload rfl) ?_
    refine qm_G.cm rfl rfl (hS 35 rfl) rfl ?_
    refine qm_v_mean hS hR (hB2 _ _) (by omega) (by omega) ⟨_, rfl, ?_⟩
    refine qm_G.s1 rfl (qm_x_lstore (lv' := [(13, qm_L (qm_mn (Pb b) (Pa a) b a sa mo le)), (0, qm_R (some (0, 35, 0))), (1, qm_I (qm_i s)), (2, qm_I (qm_i T)), (4, qm_L sa), (6, qm_L mo), (8, qm_L le), (10, qm_I (qm_i (s + 8))), (11, qm_I (qm_i b)), (12, qm_I (qm_i a))]) rfl) ?_
    refine qm_G.s1 rfl (qm_x_lload rfl) ?_
    refine qm_G.s1 rfl (qm_x_aload rfl) ?_
    refine qm_G.s1 rfl (qm_x_getfR (q := (some (0, 37, 0))) (hS 35 rfl) (hR 35 1 37 rfl rfl)) ?_
    refine qm_G.s1 rfl (qm_x_iload rfl) ?_
    refine qm_G.s1 rfl (qm_x_aaldg (hS 37 rfl) rfl rfl (by omega) (by omega)) ?_
    refine qm_G.s1 rfl (qm_x_iload rfl) ?_
    refine qm_G.s1 rfl (qm_x_lald (a := v) (qm_arS hS rfl rfl) rfl (by omega) (by omega) (by omega) (by unfold qm_set; rw [if_pos ⟨rfl, rfl, by omega⟩] <;> rfl)) ?_
    refine qm_y_lcmpr rfl (fun c1 => ?_) (fun c1 => ?_) (fun c1 => ?_)
    · refine qm_G.s1 rfl (qm_x_if_le_t ⟨by decide, by decide⟩ (by decide)) ?_
      refine qm_G.sp (lv1 := [(0, qm_R (some (0, 35, 0))), (1, qm_I (qm_i s)), (2, qm_I (qm_i T)), (4, qm_L sa), (6, qm_L mo), (8, qm_L le), (10, qm_I (qm_i (s + 8))), (11, qm_I (qm_i b)), (12, qm_I (qm_i a))]) rfl rfl (qm_x_iinc (lv' := [(12, qm_I (qm_i (a + 1))), (0, qm_R (some (0, 35, 0))), (1, qm_I (qm_i s)), (2, qm_I (qm_i T)), (4, qm_L sa), (6, qm_L mo), (8, qm_L le), (10, qm_I (qm_i (s + 8))), (11, qm_I (qm_i b))]) 1 rfl rfl rfl) ?_
      refine qm_G.s1 rfl (qm_x_goto) ?_
      refine qm_G.pk (lv1 := [(0, qm_R (some (0, 35, 0))), (1, qm_I (qm_i s)), (2, qm_I (qm_i T)), (4, qm_L sa), (6, qm_L mo), (8, qm_L le), (10, qm_I (qm_i (s + 8))), (11, qm_I (qm_i b)), (12, qm_I (qm_i (a + 1)))]) rfl rfl rfl ?_
      exact ih (a + 1) _ _ _ (by omega) (by omega) (fun v' x' y' e => k v' x' y' ((qm_inn_n (f := (fun b a => qm_mn (Pb b) (Pa a) b a sa mo le)) (qm_lt_asym c1)).trans e))
    · refine qm_G.s1 rfl (qm_x_if_le_t ⟨by decide, by decide⟩ (by decide)) ?_
      refine qm_G.sp (lv1 := [(0, qm_R (some (0, 35, 0))), (1, qm_I (qm_i s)), (2, qm_I (qm_i T)), (4, qm_L sa), (6, qm_L mo), (8, qm_L le), (10, qm_I (qm_i (s + 8))), (11, qm_I (qm_i b)), (12, qm_I (qm_i a))]) rfl rfl (qm_x_iinc (lv' := [(12, qm_I (qm_i (a + 1))), (0, qm_R (some (0, 35, 0))), (1, qm_I (qm_i s)), (2, qm_I (qm_i T)), (4, qm_L sa), (6, qm_L mo), (8, qm_L le), (10, qm_I (qm_i (s + 8))), (11, qm_I (qm_i b))]) 1 rfl rfl rfl) ?_
      refine qm_G.s1 rfl (qm_x_goto) ?_
      refine qm_G.pk (lv1 := [(0, qm_R (some (0, 35, 0))), (1, qm_I (qm_i s)), (2, qm_I (qm_i T)), (4, qm_L sa), (6, qm_L mo), (8, qm_L le), (10, qm_I (qm_i (s + 8))), (11, qm_I (qm_i b)), (12, qm_I (qm_i (a + 1)))]) rfl rfl rfl ?_
      exact ih (a + 1) _ _ _ (by omega) (by omega) (fun v' x' y' e => k v' x' y' ((qm_inn_n (f := (fun b a => qm_mn (Pb b) (Pa a) b a sa mo le)) (qm_lt_irr c1)).trans e))
    · refine qm_G.s1 rfl (qm_x_if_le_f ⟨by decide, by decide⟩ (by decide)) ?_
      refine qm_G.s1 rfl (qm_x_aload rfl) ?_
      refine qm_G.s1 rfl (qm_x_getfR (q := (some (0, 37, 0))) (hS 35 rfl) (hR 35 1 37 rfl rfl)) ?_
      refine qm_G.s1 rfl (qm_x_iload rfl) ?_
      refine qm_G.s1 rfl (qm_x_aaldg (hS 37 rfl) rfl rfl (by omega) (by omega)) ?_
      refine qm_G.s1 rfl (qm_x_iload rfl) ?_
      refine qm_G.s1 rfl (qm_x_lload rfl) ?_
      refine qm_G.s1 rfl (qm_x_last (qm_arS hS rfl rfl) rfl (by omega) (by omega) (by omega)) ?_
      refine qm_G.s1 rfl (qm_x_aload rfl) ?_
      refine qm_G.s1 rfl (qm_x_getfR (q := (some (0, 38, 0))) (hS 35 rfl) (hR 35 2 38 rfl rfl)) ?_
      refine qm_G.s1 rfl (qm_x_iload rfl) ?_
      refine qm_G.s1 rfl (qm_x_aaldg (hS 38 rfl) rfl rfl (by omega) (by omega)) ?_
      refine qm_G.s1 rfl (qm_x_iload rfl) ?_
      refine qm_G.s1 rfl (qm_x_iload rfl) ?_
      refine qm_G.s1 rfl (qm_x_iast (qm_arS hS rfl rfl) rfl (by omega) (by omega) (by omega)) ?_
      refine qm_G.s1 rfl (qm_x_aload rfl) ?_
      refine qm_G.s1 rfl (qm_x_getfR (q := (some (0, 39, 0))) (hS 35 rfl) (hR 35 3 39 rfl rfl)) ?_
      refine qm_G.s1 rfl (qm_x_iload rfl) ?_
      refine qm_G.s1 rfl (qm_x_aaldg (hS 39 rfl) rfl rfl (by omega) (by omega)) ?_
      refine qm_G.s1 rfl (qm_x_iload rfl) ?_
      refine qm_G.s1 rfl (qm_x_iload rfl) ?_
      refine qm_G.s1 rfl (qm_x_iast (qm_arS hS rfl rfl) rfl (by omega) (by omega) (by omega)) ?_
      refine qm_G.sp (lv1 := [(0, qm_R (some (0, 35, 0))), (1, qm_I (qm_i s)), (2, qm_I (qm_i T)), (4, qm_L sa), (6, qm_L mo), (8, qm_L le), (10, qm_I (qm_i (s + 8))), (11, qm_I (qm_i b)), (12, qm_I (qm_i a))]) rfl rfl (qm_x_iinc (lv' := [(12, qm_I (qm_i (a + 1))), (0, qm_R (some (0, 35, 0))), (1, qm_I (qm_i s)), (2, qm_I (qm_i T)), (4, qm_L sa), (6, qm_L mo), (8, qm_L le), (10, qm_I (qm_i (s + 8))), (11, qm_I (qm_i b))]) 1 rfl rfl rfl) ?_
      refine qm_G.s1 rfl (qm_x_goto) ?_
      rw [qm_set2 (by decide), qm_set_set]
      refine qm_G.pk (lv1 := [(0, qm_R (some (0, 35, 0))), (1, qm_I (qm_i s)), (2, qm_I (qm_i T)), (4, qm_L sa), (6, qm_L mo), (8, qm_L le), (10, qm_I (qm_i (s + 8))), (11, qm_I (qm_i b)), (12, qm_I (qm_i (a + 1)))]) rfl rfl rfl ?_
      exact ih (a + 1) _ _ _ (by omega) (by omega) (fun v' x' y' e => k v' x' y' ((qm_inn_p (f := (fun b a => qm_mn (Pb b) (Pa a) b a sa mo le)) c1).trans e))
theorem qm_d_chb {S : List qm_Sh} {J K : qm_J} {L : qm_Ct Int64} {D : qm_Ct UInt64} {R : qm_Ct (Option qm_Rf)} {X : Nat × (Nat → Int32)} {Q : Option qm_V → qm_Hp → Prop} {lim s T : Int} {Pb Pa : Int → Int} {sa mo le : Int64} (hS : qm_Sd S) (hR : qm_Rd R) (hB : qm_Bk J lim Pb Pa) (r1 : -8 ≤ s ∧ s ≤ 8) (r2 : 1 ≤ T ∧ T ≤ 8) (rs : -lim ≤ s ∧ s ≤ lim) : ∀ (n : Nat) (b : Int) (v : Int64) (x y : Int), b + n = 7 → 0 ≤ b → (∀ (v' : Int64) (x' y' : Int), qm_out (fun b a => qm_mn (Pb b) (Pa a) b a sa mo le) (if s = -lim then 6 else 0) (if s = -lim then 1 else 7) n b (v, x, y) = (v', x', y') → Q none (qm_H S (qm_set (qm_set J 38 (Int.toNat T + 1) (Int.toNat (s + 8)) x') 39 (Int.toNat T + 1) (Int.toNat (s + 8)) y') K (qm_set L 37 (Int.toNat T + 1) (Int.toNat (s + 8)) v') D R X)) → qm_G qm_P qm_P159 71 [(0, qm_R (some (0, 35, 0))), (1, qm_I (qm_i s)), (2, qm_I (qm_i T)), (4, qm_L sa), (6, qm_L mo), (8, qm_L le), (10, qm_I (qm_i (s + 8))), (11, qm_I (qm_i b))] [] (qm_H S (qm_set (qm_set J 38 (Int.toNat T + 1) (Int.toNat (s + 8)) x) 39 (Int.toNat T + 1) (Int.toNat (s + 8)) y) K (qm_set L 37 (Int.toNat T + 1) (Int.toNat (s + 8)) v) D R X) Q := by
  have hB2 : ∀ x y, qm_Bk (qm_set (qm_set J 38 (Int.toNat T + 1) (Int.toNat (s + 8)) x) 39 (Int.toNat T + 1) (Int.toNat (s + 8)) y) lim Pb Pa := fun x y => hB.fr (fun r s' i h => by rw [qm_st_ne (by omega), qm_st_ne (by omega)])
  obtain ⟨hl, rl, hPb, hPa, rPb, rPa⟩ := hB
  intro n
  induction n with
  | zero =>
    intro b v x y h1 h2 k
    refine qm_G.pk (lv1 := [(0, qm_R (some (0, 35, 0))), (1, qm_I (qm_i s)), (2, qm_I (qm_i T)), (4, qm_L sa), (6, qm_L mo), (8, qm_L le), (10, qm_I (qm_i (s + 8))), (11, qm_I (qm_i b))]) rfl rfl rfl ?_
    refine qm_G.sp (lv1 := [(0, qm_R (some (0, 35, 0))), (1, qm_I (qm_i s)), (2, qm_I (qm_i T)), (4, qm_L sa), (6, qm_L mo), (8, qm_L le), (10, qm_I (qm_i (s + 8))), (11, qm_I (qm_i b))]) rfl rfl (qm_x_iload rfl) ?_
    refine qm_G.s1 rfl (qm_x_pushI 6 rfl) ?_
    refine qm_G.s1 rfl (qm_x_icmp_gt_t ⟨by omega, by omega⟩ ⟨by decide, by decide⟩ (by omega)) ?_
    exact qm_G.retv rfl (k v x y rfl)
  | succ n ih =>
    intro b v x y h1 h2 k
    refine qm_G.pk (lv1 := [(0, qm_R (some (0, 35, 0))), (1, qm_I (qm_i s)), (2, qm_I (qm_i T)), (4, qm_L sa), (6, qm_L mo), (8, qm_L le), (10, qm_I (qm_i (s + 8))), (11, qm_I (qm_i b))]) rfl rfl rfl ?_
    have h3 : b ≤ 6 := by omega
    refine qm_G.sp (lv1 := [(0, qm_R (some (0, 35, 0))), (1, qm_I (qm_i s)), (2, qm_I (qm_i T)), (4, qm_L sa), (6, qm_L mo), (8, qm_L le), (10, qm_I (qm_i (s + 8))), (11, qm_I (qm_i b))]) rfl rfl (qm_x_iload rfl) ?_
    refine qm_G.s1 rfl (qm_x_pushI 6 rfl) ?_
    refine qm_G.s1 rfl (qm_x_icmp_gt_f ⟨by omega, by omega⟩ ⟨by decide, by decide⟩ (by omega)) ?_
    refine qm_G.s1 rfl (qm_x_iload rfl) ?_
    refine qm_G.s1 rfl (qm_x_aload rfl) ?_
    refine qm_G.s1 rfl (qm_x_getfI (v := lim) (hS 35 rfl) hl) ?_
    refine qm_G.s1 rfl (qm_x_ineg) ?_
    refine qm_y_icmp_ne rfl ⟨by omega, by omega⟩ ⟨by omega, by omega⟩ (fun c1 => ?_) (fun c1 => ?_)
    · refine qm_G.sp (lv1 := [(0, qm_R (some (0, 35, 0))), (1, qm_I (qm_i s)), (2, qm_I (qm_i T)), (4, qm_L sa), (6, qm_L mo), (8, qm_L le), (10, qm_I (qm_i (s + 8))), (11, qm_I (qm_i b))]) rfl rfl (qm_x_pushI 0 rfl) ?_
      refine qm_G.sp (lv1 := [(0, qm_R (some (0, 35, 0))), (1, qm_I (qm_i s)), (2, qm_I (qm_i T)), (4, qm_L sa), (6, qm_L mo), (8, qm_L le), (10, qm_I (qm_i (s + 8))), (11, qm_I (qm_i b))]) rfl rfl (qm_x_istore (lv' := [(12, qm_I (qm_i 0)), (0, qm_R (some (0, 35, 0))), (1, qm_I (qm_i s)), (2, qm_I (qm_i T)), (4, qm_L sa), (6, qm_L mo), (8, qm_L le), (10, qm_I (qm_i (s + 8))), (11, qm_I (qm_i b))]) rfl) ?_
      refine qm_G.pk (lv1 := [(0, qm_R (some (0, 35, 0))), (1, qm_I (qm_i s)), (2, qm_I (qm_i T)), (4, qm_L sa), (6, qm_L mo), (8, qm_L le), (10, qm_I (qm_i (s + 8))), (11, qm_I (qm_i b)), (12, qm_I (qm_i 0))]) rfl rfl rfl ?_
      refine qm_d_cha hS hR ⟨hl, rl, hPb, hPa, rPb, rPa⟩ r1 r2 (by omega) 7 0 v x y (by decide) (by decide) (fun v1 x1 y1 e1 => ?_)
      refine qm_G.sp (lv1 := [(0, qm_R (some (0, 35, 0))), (1, qm_I (qm_i s)), (2, qm_I (qm_i T)), (4, qm_L sa), (6, qm_L mo), (8, qm_L le), (10, qm_I (qm_i (s + 8))), (11, qm_I (qm_i b))]) rfl rfl (qm_x_iinc (lv' := [(11, qm_I (qm_i (b + 1))), (0, qm_R (some (0, 35, 0))), (1, qm_I (qm_i s)), (2, qm_I (qm_i T)), (4, qm_L sa), (6, qm_L mo), (8, qm_L le), (10, qm_I (qm_i (s + 8)))]) 1 rfl rfl rfl) ?_
      refine qm_G.s1 rfl (qm_x_goto) ?_
      refine qm_G.pk (lv1 := [(0, qm_R (some (0, 35, 0))), (1, qm_I (qm_i s)), (2, qm_I (qm_i T)), (4, qm_L sa), (6, qm_L mo), (8, qm_L le), (10, qm_I (qm_i (s + 8))), (11, qm_I (qm_i (b + 1)))]) rfl rfl rfl ?_
      exact ih (b + 1) _ _ _ (by omega) (by omega) (fun v' x' y' e => k v' x' y' ((qm_out_s (by simp only [if_neg (show ¬ s = -lim by omega)]; exact e1)).trans e))
    · refine qm_G.s1 rfl (qm_x_pushI 6 rfl) ?_
      refine qm_G.s1 rfl (qm_x_goto) ?_
      refine qm_G.sp (lv1 := [(0, qm_R (some (0, 35, 0))), (1, qm_I (qm_i s)), (2, qm_I (qm_i T)), (4, qm_L sa), (6, qm_L mo), (8, qm_L le), (10, qm_I (qm_i (s + 8))), (11, qm_I (qm_i b))]) rfl rfl (qm_x_istore (lv' := [(12, qm_I (qm_i 6)), (0, qm_R (some (0, 35, 0))), (1, qm_I (qm_i s)), (2, qm_I (qm_i T)), (4, qm_L sa), (6, qm_L mo), (8, qm_L le), (10, qm_I (qm_i (s + 8))), (11, qm_I (qm_i b))]) rfl) ?_
      refine qm_G.pk (lv1 := [(0, qm_R (some (0, 35, 0))), (1, qm_I (qm_i s)), (2, qm_I (qm_i T)), (4, qm_L sa), (6, qm_L mo), (8, qm_L le), (10, qm_I (qm_i (s + 8))), (11, qm_I (qm_i b)), (12, qm_I (qm_i 6))]) rfl rfl rfl ?_
      refine qm_d_cha hS hR ⟨hl, rl, hPb, hPa, rPb, rPa⟩ r1 r2 (by omega) 1 6 v x y (by decide) (by decide) (fun v1 x1 y1 e1 => ?_)
      refine qm_G.sp (lv1 := [(0, qm_R (some (0, 35, 0))), (1, qm_I (qm_i s)), (2, qm_I (qm_i T)), (4, qm_L sa), (6, qm_L mo), (8, qm_L le), (10, qm_I (qm_i (s + 8))), (11, qm_I (qm_i b))]) rfl rfl (qm_x_iinc (lv' := [(11, qm_I (qm_i (b + 1))), (0, qm_R (some (0, 35, 0))), (1, qm_I (qm_i s)), (2, qm_I (qm_i T)), (4, qm_L sa), (6, qm_L mo), (8, qm_L le), (10, qm_I (qm_i (s + 8)))]) 1 rfl rfl rfl) ?_
      refine qm_G.s1 rfl (qm_x_goto) ?_
      refine qm_G.pk (lv1 := [(0, qm_R (some (0, 35, 0))), (1, qm_I (qm_i s)), (2, qm_I (qm_i T)), (4, qm_L sa), (6, qm_L mo), (8, qm_L le), (10, qm_I (qm_i (s + 8))), (11, qm_I (qm_i (b + 1)))]) rfl rfl rfl ?_
      exact ih (b + 1) _ _ _ (by omega) (by omega) (fun v' x' y' e => k v' x' y' ((qm_out_s (by simp only [if_pos (show s = -lim by omega)]; exact e1)).trans e))
theorem qm_d_choose {S : List qm_Sh} {J K : qm_J} {L : qm_Ct Int64} {D : qm_Ct UInt64} {R : qm_Ct (Option qm_Rf)} {X : Nat × (Nat → Int32)} {Q : Option qm_V → qm_Hp → Prop} {lim s T : Int} {Pb Pa : Int → Int} {V : Int → Int64} (hS : qm_Sd S) (hR : qm_Rd R) (hB : qm_Bk J lim Pb Pa) (rs : -lim ≤ s ∧ s ≤ lim) (r2 : 1 ≤ T ∧ T ≤ 8) (hV : ∀ (z : Int) (i : Nat), i = Int.toNat (z + 8) → -lim ≤ z → z ≤ lim → L 37 (Int.toNat (T - 1) + 1) i = V z) (k : ∀ (v' : Int64) (x' y' : Int), qm_out (fun b a => qm_mn (Pb b) (Pa a) b a (qm_hd V lim s) (qm_hd V lim (s + 1)) (qm_hd V lim (s - 1))) (if s = -lim then 6 else 0) (if s = -lim then 1 else 7) (if s = lim then 1 else 7) (if s = lim then 6 else 0) ((qm_l (-9223372036854775808)), J 38 (Int.toNat T + 1) (Int.toNat (s + 8)), J 39 (Int.toNat T + 1) (Int.toNat (s + 8))) = (v', x', y') → Q none (qm_H S (qm_set (qm_set J 38 (Int.toNat T + 1) (Int.toNat (s + 8)) x') 39 (Int.toNat T + 1) (Int.toNat (s + 8)) y') K (qm_set L 37 (Int.toNat T + 1) (Int.toNat (s + 8)) v') D R X)) : qm_C qm_P 159 [qm_R (some (0, 35, 0)), qm_I (qm_i s), qm_I (qm_i T)] (qm_H S J K L D R X) Q := by
  have rl := hB.2.1
  have r1 : -8 ≤ s ∧ s ≤ 8 := by omega
  refine qm_C.go (cd := qm_P159) (lv := [(0, qm_R (some (0, 35, 0))), (1, qm_I (qm_i s)), (2, qm_I (qm_i T))]) rfl rfl ?_
  refine qm_G.s1 rfl (qm_x_aload rfl) ?_
  refine qm_G.s1 rfl (qm_x_getfR (q := (some (0, 37, 0))) (hS 35 rfl) (hR 35 1 37 rfl rfl)) ?_
  refine qm_G.s1 rfl (qm_x_iload rfl) ?_
  refine qm_G.s1 rfl (qm_x_pushI 1 rfl) ?_
  refine qm_G.s1 rfl (qm_x_isub) ?_
  refine qm_G.s1 rfl (qm_x_aaldg (hS 37 rfl) rfl rfl (by omega) (by omega)) ?_
  refine qm_G.s1 rfl (qm_x_astore (lv' := [(3, qm_R (some (0, 37, Int.toNat (T - 1) + 1))), (0, qm_R (some (0, 35, 0))), (1, qm_I (qm_i s)), (2, qm_I (qm_i T))]) rfl) ?_
  refine qm_G.s1 rfl (qm_x_aload rfl) ?_
  refine qm_G.s1 rfl (qm_x_aload rfl) ?_
  refine qm_G.s1 rfl (qm_x_iload rfl) ?_
  refine qm_G.cm rfl rfl (hS 35 rfl) rfl ?_
  refine qm_v_held hS hR hB (by omega) (by omega) hV ⟨_, rfl, ?_⟩
  refine qm_G.s1 rfl (qm_x_lstore (lv' := [(4, qm_L (qm_hd V lim s)), (3, qm_R (some (0, 37, Int.toNat (T - 1) + 1))), (0, qm_R (some (0, 35, 0))), (1, qm_I (qm_i s)), (2, qm_I (qm_i T))]) rfl) ?_
  refine qm_G.s1 rfl (qm_x_aload rfl) ?_
  refine qm_G.s1 rfl (qm_x_aload rfl) ?_
  refine qm_G.s1 rfl (qm_x_iload rfl) ?_
  refine qm_G.s1 rfl (qm_x_pushI 1 rfl) ?_
  refine qm_G.s1 rfl (qm_x_iadd) ?_
  refine qm_G.cm rfl rfl (hS 35 rfl) rfl ?_
  refine qm_v_held hS hR hB (by omega) (by omega) hV ⟨_, rfl, ?_⟩
  refine qm_G.s1 rfl (qm_x_lstore (lv' := [(6, qm_L (qm_hd V lim (s + 1))), (4, qm_L (qm_hd V lim s)), (3, qm_R (some (0, 37, Int.toNat (T - 1) + 1))), (0, qm_R (some (0, 35, 0))), (1, qm_I (qm_i s)), (2, qm_I (qm_i T))]) rfl) ?_
  refine qm_G.s1 rfl (qm_x_aload rfl) ?_
  refine qm_G.s1 rfl (qm_x_aload rfl) ?_
  refine qm_G.s1 rfl (qm_x_iload rfl) ?_
  refine qm_G.s1 rfl (qm_x_pushI 1 rfl) ?_
  refine qm_G.s1 rfl (qm_x_isub) ?_
  refine qm_G.cm rfl rfl (hS 35 rfl) rfl ?_
  refine qm_v_held hS hR hB (by omega) (by omega) hV ⟨_, rfl, ?_⟩
  refine qm_G.s1 rfl (qm_x_lstore (lv' := [(8, qm_L (qm_hd V lim (s - 1))), (6, qm_L (qm_hd V lim (s + 1))), (4, qm_L (qm_hd V lim s)), (3, qm_R (some (0, 37, Int.toNat (T - 1) + 1))), (0, qm_R (some (0, 35, 0))), (1, qm_I (qm_i s)), (2, qm_I (qm_i T))]) rfl) ?_
  refine qm_G.s1 rfl (qm_x_iload rfl) ?_
  refine qm_G.s1 rfl (qm_x_pushI 8 rfl) ?_
  refine qm_G.s1 rfl (qm_x_iadd) ?_
  refine qm_G.s1 rfl (qm_x_istore (lv' := [(10, qm_I (qm_i (s + 8))), (8, qm_L (qm_hd V lim (s - 1))), (6, qm_L (qm_hd V lim (s + 1))), (4, qm_L (qm_hd V lim s)), (3, qm_R (some (0, 37, Int.toNat (T - 1) + 1))), (0, qm_R (some (0, 35, 0))), (1, qm_I (qm_i s)), (2, qm_I (qm_i T))]) rfl) ?_
  refine qm_G.s1 rfl (qm_x_aload rfl) ?_
  refine qm_G.s1 rfl (qm_x_getfR (q := (some (0, 37, 0))) (hS 35 rfl) (hR 35 1 37 rfl rfl)) ?_
  refine qm_G.s1 rfl (qm_x_iload rfl) ?_
  refine qm_G.s1 rfl (qm_x_aaldg (hS 37 rfl) rfl rfl (by omega) (by omega)) ?_
  refine qm_G.s1 rfl (qm_x_iload rfl) ?_
  refine qm_G.s1 rfl (qm_x_pushL (-9223372036854775808) rfl) ?_
  refine qm_G.s1 rfl (qm_x_last (qm_arS hS rfl rfl) rfl (by omega) (by omega) (by omega)) ?_
  refine qm_G.s1 rfl (qm_x_iload rfl) ?_
  refine qm_G.s1 rfl (qm_x_aload rfl) ?_
  refine qm_G.s1 rfl (qm_x_getfI (v := lim) (hS 35 rfl) hB.1) ?_
  refine qm_y_icmp_ne rfl ⟨by omega, by omega⟩ ⟨by omega, by omega⟩ (fun c1 => ?_) (fun c1 => ?_)
  · refine qm_G.sp (lv1 := [(0, qm_R (some (0, 35, 0))), (1, qm_I (qm_i s)), (2, qm_I (qm_i T)), (4, qm_L (qm_hd V lim s)), (6, qm_L (qm_hd V lim (s + 1))), (8, qm_L (qm_hd V lim (s - 1))), (10, qm_I (qm_i (s + 8)))]) rfl rfl (qm_x_pushI 0 rfl) ?_
    refine qm_G.sp (lv1 := [(0, qm_R (some (0, 35, 0))), (1, qm_I (qm_i s)), (2, qm_I (qm_i T)), (4, qm_L (qm_hd V lim s)), (6, qm_L (qm_hd V lim (s + 1))), (8, qm_L (qm_hd V lim (s - 1))), (10, qm_I (qm_i (s + 8)))]) rfl rfl (qm_x_istore (lv' := [(11, qm_I (qm_i 0)), (0, qm_R (some (0, 35, 0))), (1, qm_I (qm_i s)), (2, qm_I (qm_i T)), (4, qm_L (qm_hd V lim s)), (6, qm_L (qm_hd V lim (s + 1))), (8, qm_L (qm_hd V lim (s - 1))), (10, qm_I (qm_i (s + 8)))]) rfl) ?_
    have e0 : qm_set (qm_set J 38 (Int.toNat T + 1) (Int.toNat (s + 8)) (J 38 (Int.toNat T + 1) (Int.toNat (s + 8)))) 39 (Int.toNat T + 1) (Int.toNat (s + 8)) (J 39 (Int.toNat T + 1) (Int.toNat (s + 8))) = J := by rw [qm_set_own, qm_set_own]
    rw [← e0]
    refine qm_G.pk (lv1 := [(0, qm_R (some (0, 35, 0))), (1, qm_I (qm_i s)), (2, qm_I (qm_i T)), (4, qm_L (qm_hd V lim s)), (6, qm_L (qm_hd V lim (s + 1))), (8, qm_L (qm_hd V lim (s - 1))), (10, qm_I (qm_i (s + 8))), (11, qm_I (qm_i 0))]) rfl rfl rfl ?_
    exact qm_d_chb hS hR hB r1 r2 (by omega) 7 0 _ _ _ (by decide) (by decide) (fun v' x' y' e => k v' x' y' (by rw [if_neg (show ¬ s = lim by omega), if_neg (show ¬ s = lim by omega)]; exact e))
  · refine qm_G.s1 rfl (qm_x_pushI 6 rfl) ?_
    refine qm_G.s1 rfl (qm_x_goto) ?_
    refine qm_G.sp (lv1 := [(0, qm_R (some (0, 35, 0))), (1, qm_I (qm_i s)), (2, qm_I (qm_i T)), (4, qm_L (qm_hd V lim s)), (6, qm_L (qm_hd V lim (s + 1))), (8, qm_L (qm_hd V lim (s - 1))), (10, qm_I (qm_i (s + 8)))]) rfl rfl (qm_x_istore (lv' := [(11, qm_I (qm_i 6)), (0, qm_R (some (0, 35, 0))), (1, qm_I (qm_i s)), (2, qm_I (qm_i T)), (4, qm_L (qm_hd V lim s)), (6, qm_L (qm_hd V lim (s + 1))), (8, qm_L (qm_hd V lim (s - 1))), (10, qm_I (qm_i (s + 8)))]) rfl) ?_
    have e0 : qm_set (qm_set J 38 (Int.toNat T + 1) (Int.toNat (s + 8)) (J 38 (Int.toNat T + 1) (Int.toNat (s + 8)))) 39 (Int.toNat T + 1) (Int.toNat (s + 8)) (J 39 (Int.toNat T + 1) (Int.toNat (s + 8))) = J := by rw [qm_set_own, qm_set_own]
    rw [← e0]
    refine qm_G.pk (lv1 := [(0, qm_R (some (0, 35, 0))), (1, qm_I (qm_i s)), (2, qm_I (qm_i T)), (4, qm_L (qm_hd V lim s)), (6, qm_L (qm_hd V lim (s + 1))), (8, qm_L (qm_hd V lim (s - 1))), (10, qm_I (qm_i (s + 8))), (11, qm_I (qm_i 6))]) rfl rfl rfl ?_
    exact qm_d_chb hS hR hB r1 r2 (by omega) 1 6 _ _ _ (by decide) (by decide) (fun v' x' y' e => k v' x' y' (by rw [if_pos (show s = lim by omega), if_pos (show s = lim by omega)]; exact e))
