/-! CHANCE -/
theorem qm_v_max {Q : Option qm_V → qm_Hp → Prop} {a b : Int} {h : qm_Hp} (ha : qm_sm a) (hb : qm_sm b) (k : ∀ w : Int, (w = a ∧ b ≤ a) ∨ (w = b ∧ a ≤ b) → Q (some (qm_I (qm_i w))) h) : qm_C qm_P 11 [qm_I (qm_i a), qm_I (qm_i b)] (h) Q := by
  refine qm_C.go (cd := qm_P11) (lv := [(0, qm_I (qm_i a)), (1, qm_I (qm_i b))]) rfl rfl ?_
  refine qm_G.s1 rfl (qm_x_iload rfl) ?_
  refine qm_G.s1 rfl (qm_x_iload rfl) ?_
  refine qm_y_icmp_lt rfl ⟨by omega, by omega⟩ ⟨by omega, by omega⟩ (fun c1 => ?_) (fun c1 => ?_)
  · refine qm_G.sp (lv1 := [(1, qm_I (qm_i b))]) rfl rfl (qm_x_iload rfl) ?_
    exact qm_G.ret rfl rfl (k _ (by omega))
  · refine qm_G.s1 rfl (qm_x_iload rfl) ?_
    refine qm_G.s1 rfl (qm_x_goto) ?_
    exact qm_G.ret rfl rfl (k _ (by omega))
theorem qm_v_min {Q : Option qm_V → qm_Hp → Prop} {a b : Int} {h : qm_Hp} (ha : qm_sm a) (hb : qm_sm b) (k : ∀ w : Int, (w = a ∧ a ≤ b) ∨ (w = b ∧ b ≤ a) → Q (some (qm_I (qm_i w))) h) : qm_C qm_P 12 [qm_I (qm_i a), qm_I (qm_i b)] (h) Q := by
  refine qm_C.go (cd := qm_P12) (lv := [(0, qm_I (qm_i a)), (1, qm_I (qm_i b))]) rfl rfl ?_
  refine qm_G.s1 rfl (qm_x_iload rfl) ?_
  refine qm_G.s1 rfl (qm_x_iload rfl) ?_
  refine qm_y_icmp_gt rfl ⟨by omega, by omega⟩ ⟨by omega, by omega⟩ (fun c1 => ?_) (fun c1 => ?_)
  · refine qm_G.sp (lv1 := [(1, qm_I (qm_i b))]) rfl rfl (qm_x_iload rfl) ?_
    exact qm_G.ret rfl rfl (k _ (by omega))
  · refine qm_G.s1 rfl (qm_x_iload rfl) ?_
    refine qm_G.s1 rfl (qm_x_goto) ?_
    exact qm_G.ret rfl rfl (k _ (by omega))
def qm_the (kd x y sd d : Int) : Int := if kd = 0 then (if sd = 0 then x else y) else if kd = 1 then max 0 (d - 1) else if kd = 2 then min 6 (d + 1) else max 0 (max 0 (d - 1) - x)
def qm_bes (c t d : Int) : Int := if t < d then c / 2 else if t = d then 3 * c / 4 else c
def qm_plc (N : Nat → Int) (sd d c r : Int) : Int := if r < 0 then c else qm_bes c (qm_the (N (26 + 3 * Int.toNat r)) (N (27 + 3 * Int.toNat r)) (N (28 + 3 * Int.toNat r)) sd d) d
def qm_cho (N : Nat → Int) (sd d c r0 r1 r2 r3 : Int) : Int := if d = 6 then 0 else qm_plc N sd d (qm_plc N sd d (qm_plc N sd d (qm_plc N sd d c r0) r1) r2) r3
theorem qm_the_rng {kd x y sd d : Int} (h0 : 0 ≤ kd ∧ kd ≤ 3) (h1 : 0 ≤ x ∧ x ≤ 6) (h2 : 0 ≤ y ∧ y ≤ 6) (h3 : 0 ≤ d ∧ d ≤ 6) : 0 ≤ qm_the kd x y sd d ∧ qm_the kd x y sd d ≤ 6 := by
  unfold qm_the
  repeat' split
  all_goals omega
theorem qm_bes_rng {c t d : Int} (h : 0 ≤ c ∧ c ≤ 1000) : 0 ≤ qm_bes c t d ∧ qm_bes c t d ≤ 1000 := by
  unfold qm_bes
  repeat' split
  all_goals omega
theorem qm_plc_rng {N : Nat → Int} {sd d c r : Int} (h : 0 ≤ c ∧ c ≤ 1000) : 0 ≤ qm_plc N sd d c r ∧ qm_plc N sd d c r ≤ 1000 := by
  unfold qm_plc
  split
  · exact h
  · exact qm_bes_rng h
theorem qm_cho_rng {N : Nat → Int} {sd d c r0 r1 r2 r3 : Int} (h : 0 ≤ c ∧ c ≤ 1000) : 0 ≤ qm_cho N sd d c r0 r1 r2 r3 ∧ qm_cho N sd d c r0 r1 r2 r3 ≤ 1000 := by
  unfold qm_cho
  split
  · omega
  · exact qm_plc_rng (qm_plc_rng (qm_plc_rng (qm_plc_rng h)))
theorem qm_v_dist {S : List qm_Sh} {J K : qm_J} {L : qm_Ct Int64} {D : qm_Ct UInt64} {R : qm_Ct (Option qm_Rf)} {X : Nat × (Nat → Int32)} {Q : Option qm_V → qm_Hp → Prop} {q : Nat} {kd x y sd d : Int} (hs : qm_nth S q = some (Sum.inl 7)) (h0 : J q 0 0 = kd) (h1 : J q 0 1 = x) (h2 : J q 0 2 = y) (r0 : 0 ≤ kd ∧ kd ≤ 3) (r1 : 0 ≤ x ∧ x ≤ 6) (r2 : 0 ≤ y ∧ y ≤ 6) (r3 : 0 ≤ d ∧ d ≤ 6) (r4 : 0 ≤ sd ∧ sd ≤ 1) (k : ∀ w : Int, w = qm_the kd x y sd d → Q (some (qm_I (qm_i w))) (qm_H S J K L D R X)) : qm_C qm_P 112 [qm_R (some (0, q, 0)), qm_I (qm_i sd), qm_I (qm_i d)] (qm_H S J K L D R X) Q := by
  refine qm_C.go (cd := qm_P112) (lv := [(0, qm_R (some (0, q, 0))), (1, qm_I (qm_i sd)), (2, qm_I (qm_i d))]) rfl rfl ?_
  refine qm_G.s1 rfl (qm_x_aload rfl) ?_
  refine qm_G.s1 rfl (qm_x_getfI (v := (J q 0 0)) hs rfl) ?_
  rcases (show J q 0 0 = 0 ∨ J q 0 0 = 1 ∨ J q 0 0 = 2 ∨ (J q 0 0 < 0 ∨ 3 ≤ J q 0 0) by omega) with c1 | c1 | c1 | c1
  · refine qm_G.s1 rfl (qm_x_tsweq (v := 0) (t := 32) c1 rfl) ?_
    refine qm_G.sp (lv1 := [(0, qm_R (some (0, q, 0))), (1, qm_I (qm_i sd))]) rfl rfl (qm_x_iload rfl) ?_
    refine qm_y_if_ne rfl ⟨by omega, by omega⟩ (fun c2 => ?_) (fun c2 => ?_)
    · refine qm_G.sp (lv1 := [(0, qm_R (some (0, q, 0)))]) rfl rfl (qm_x_aload rfl) ?_
      refine qm_G.s1 rfl (qm_x_getfI (v := (J q 0 2)) hs rfl) ?_
      exact qm_G.ret rfl rfl (k _ (by unfold qm_the; (repeat' split) <;> omega))
    · refine qm_G.s1 rfl (qm_x_aload rfl) ?_
      refine qm_G.s1 rfl (qm_x_getfI (v := (J q 0 1)) hs rfl) ?_
      refine qm_G.s1 rfl (qm_x_goto) ?_
      exact qm_G.ret rfl rfl (k _ (by unfold qm_the; (repeat' split) <;> omega))
  · refine qm_G.s1 rfl (qm_x_tsweq (v := 1) (t := 48) c1 rfl) ?_
    refine qm_G.sp (lv1 := [(2, qm_I (qm_i d))]) rfl rfl (qm_x_iload rfl) ?_
    refine qm_G.cs rfl rfl rfl ?_
    refine qm_C.go (cd := qm_P67) (lv := [(0, qm_I (qm_i d))]) rfl rfl ?_
    refine qm_G.s1 rfl (qm_x_pushI 0 rfl) ?_
    refine qm_G.s1 rfl (qm_x_iload rfl) ?_
    refine qm_G.s1 rfl (qm_x_pushI 1 rfl) ?_
    refine qm_G.s1 rfl (qm_x_isub) ?_
    refine qm_G.cs rfl rfl rfl ?_
    refine qm_v_max ⟨by decide, by decide⟩ ⟨by omega, by omega⟩ (fun w3 c4 => ⟨_, rfl, ?_⟩)
    refine qm_G.ret rfl rfl ⟨_, rfl, ?_⟩
    exact qm_G.ret rfl rfl (k _ (by unfold qm_the; (repeat' split) <;> omega))
  · refine qm_G.s1 rfl (qm_x_tsweq (v := 2) (t := 53) c1 rfl) ?_
    refine qm_G.sp (lv1 := [(2, qm_I (qm_i d))]) rfl rfl (qm_x_pushI 6 rfl) ?_
    refine qm_G.s1 rfl (qm_x_iload rfl) ?_
    refine qm_G.s1 rfl (qm_x_pushI 1 rfl) ?_
    refine qm_G.s1 rfl (qm_x_iadd) ?_
    refine qm_G.cs rfl rfl rfl ?_
    refine qm_v_min ⟨by decide, by decide⟩ ⟨by omega, by omega⟩ (fun w5 c6 => ⟨_, rfl, ?_⟩)
    exact qm_G.ret rfl rfl (k _ (by unfold qm_the; (repeat' split) <;> omega))
  · refine qm_G.s1 rfl (qm_x_tswd (m := 3) rfl ⟨by omega, by omega⟩ (by omega) (by omega) (by decide)) ?_
    refine qm_G.sp (lv1 := [(0, qm_R (some (0, q, 0))), (2, qm_I (qm_i d))]) rfl rfl (qm_x_pushI 0 rfl) ?_
    refine qm_G.s1 rfl (qm_x_iload rfl) ?_
    refine qm_G.cs rfl rfl rfl ?_
    refine qm_C.go (cd := qm_P67) (lv := [(0, qm_I (qm_i d))]) rfl rfl ?_
    refine qm_G.s1 rfl (qm_x_pushI 0 rfl) ?_
    refine qm_G.s1 rfl (qm_x_iload rfl) ?_
    refine qm_G.s1 rfl (qm_x_pushI 1 rfl) ?_
    refine qm_G.s1 rfl (qm_x_isub) ?_
    refine qm_G.cs rfl rfl rfl ?_
    refine qm_v_max ⟨by decide, by decide⟩ ⟨by omega, by omega⟩ (fun w7 c8 => ⟨_, rfl, ?_⟩)
    refine qm_G.ret rfl rfl ⟨_, rfl, ?_⟩
    refine qm_G.s1 rfl (qm_x_aload rfl) ?_
    refine qm_G.s1 rfl (qm_x_getfI (v := (J q 0 1)) hs rfl) ?_
    refine qm_G.s1 rfl (qm_x_isub) ?_
    refine qm_G.cs rfl rfl rfl ?_
    refine qm_v_max ⟨by decide, by decide⟩ ⟨by omega, by omega⟩ (fun w9 c10 => ⟨_, rfl, ?_⟩)
    exact qm_G.ret rfl rfl (k _ (by unfold qm_the; (repeat' split) <;> omega))
theorem qm_v_bes {S : List qm_Sh} {J K : qm_J} {L : qm_Ct Int64} {D : qm_Ct UInt64} {R : qm_Ct (Option qm_Rf)} {X : Nat × (Nat → Int32)} {Q : Option qm_V → qm_Hp → Prop} {c t d : Int} (r0 : 0 ≤ c ∧ c ≤ 1000) (r1 : 0 ≤ t ∧ t ≤ 6) (r2 : 0 ≤ d ∧ d ≤ 6) (k : ∀ w : Int, w = qm_bes c t d → Q (some (qm_I (qm_i w))) (qm_H S J K L D R X)) : qm_C qm_P 37 [qm_I (qm_i c), qm_I (qm_i t), qm_I (qm_i d)] (qm_H S J K L D R X) Q := by
  refine qm_C.go (cd := qm_P37) (lv := [(0, qm_I (qm_i c)), (1, qm_I (qm_i t)), (2, qm_I (qm_i d))]) rfl rfl ?_
  refine qm_G.s1 rfl (qm_x_iload rfl) ?_
  refine qm_G.s1 rfl (qm_x_iload rfl) ?_
  refine qm_y_icmp_ge rfl ⟨by omega, by omega⟩ ⟨by omega, by omega⟩ (fun c1 => ?_) (fun c1 => ?_)
  · refine qm_G.sp (lv1 := [(0, qm_I (qm_i c)), (1, qm_I (qm_i t)), (2, qm_I (qm_i d))]) rfl rfl (qm_x_iload rfl) ?_
    refine qm_G.s1 rfl (qm_x_iload rfl) ?_
    refine qm_y_icmp_ne rfl ⟨by omega, by omega⟩ ⟨by omega, by omega⟩ (fun c2 => ?_) (fun c2 => ?_)
    · refine qm_G.sp (lv1 := [(0, qm_I (qm_i c))]) rfl rfl (qm_x_iload rfl) ?_
      exact qm_G.ret rfl rfl (k _ (by unfold qm_bes; (repeat' split) <;> omega))
    · refine qm_G.s1 rfl (qm_x_iload rfl) ?_
      refine qm_G.s1 rfl (qm_x_pushI 3 rfl) ?_
      refine qm_G.s1 rfl (qm_x_imul) ?_
      refine qm_G.s1 rfl (qm_x_pushI 4 rfl) ?_
      refine qm_G.s1 rfl (qm_x_idivp ⟨by omega, by omega⟩ (by omega) ⟨by decide, by decide⟩ (by decide)) ?_
      refine qm_G.s1 rfl (qm_x_goto) ?_
      exact qm_G.ret rfl rfl (k _ (by unfold qm_bes; (repeat' split) <;> omega))
  · refine qm_G.s1 rfl (qm_x_iload rfl) ?_
    refine qm_G.s1 rfl (qm_x_pushI 2 rfl) ?_
    refine qm_G.s1 rfl (qm_x_idivp ⟨by omega, by omega⟩ (by omega) ⟨by decide, by decide⟩ (by decide)) ?_
    exact qm_G.ret rfl rfl (k _ (by unfold qm_bes; (repeat' split) <;> omega))
theorem qm_m_the {S : List qm_Sh} {J K : qm_J} {L : qm_Ct Int64} {D : qm_Ct UInt64} {R : qm_Ct (Option qm_Rf)} {X : Nat × (Nat → Int32)} {Q : Option qm_V → qm_Hp → Prop} {r sd d : Int} (hS : qm_Sd S) (hR : qm_Rd R) (hr : 0 ≤ r ∧ r ≤ 7) (r0 : 0 ≤ J 62 0 (26 + 3 * Int.toNat r) ∧ J 62 0 (26 + 3 * Int.toNat r) ≤ 3) (r1 : 0 ≤ J 62 0 (27 + 3 * Int.toNat r) ∧ J 62 0 (27 + 3 * Int.toNat r) ≤ 6) (r2 : 0 ≤ J 62 0 (28 + 3 * Int.toNat r) ∧ J 62 0 (28 + 3 * Int.toNat r) ≤ 6) (r3 : 0 ≤ d ∧ d ≤ 6) (r4 : 0 ≤ sd ∧ sd ≤ 1) (k : ∀ w : Int, w = qm_the (J 62 0 (26 + 3 * Int.toNat r)) (J 62 0 (27 + 3 * Int.toNat r)) (J 62 0 (28 + 3 * Int.toNat r)) sd d → Q (some (qm_I (qm_i w))) (qm_H S J K L D R X)) : qm_C qm_P 65 [qm_R (some (0, 61, 0)), qm_I (qm_i r), qm_I (qm_i sd), qm_I (qm_i d)] (qm_H S J K L D R X) Q := by
  rcases (show sd = 0 ∨ sd = 1 by omega) with c0 | c0
  · subst c0
    refine qm_C.go (cd := qm_P65) (lv := [(0, qm_R (some (0, 61, 0))), (1, qm_I (qm_i r)), (2, qm_I (qm_i 0)), (3, qm_I (qm_i d))]) rfl rfl ?_
    refine qm_G.s1 rfl (qm_x_aload rfl) ?_
    refine qm_G.s1 rfl (qm_x_getfR (q := (some (0, 62, 0))) (hS 61 rfl) (hR 61 0 62 rfl rfl)) ?_
    refine qm_G.s1 rfl (qm_x_pushI 26 rfl) ?_
    refine qm_G.s1 rfl (qm_x_pushI 3 rfl) ?_
    refine qm_G.s1 rfl (qm_x_iload rfl) ?_
    refine qm_G.s1 rfl (qm_x_imul) ?_
    refine qm_G.s1 rfl (qm_x_iadd) ?_
    refine qm_G.s1 rfl (qm_x_pushI 1 rfl) ?_
    refine qm_G.s1 rfl (qm_x_iadd) ?_
    refine qm_G.s1 rfl (qm_x_iald (v := (J 62 0 (27 + 3 * (Int.toNat r)))) (qm_arS hS rfl rfl) rfl (by omega) (by omega) (by decide) (congrArg (J 62 0) (by omega))) ?_
    refine qm_G.s1 rfl (qm_x_istore (lv' := [(4, qm_I (qm_i (J 62 0 (27 + 3 * (Int.toNat r))))), (0, qm_R (some (0, 61, 0))), (1, qm_I (qm_i r)), (2, qm_I (qm_i 0)), (3, qm_I (qm_i d))]) rfl) ?_
    refine qm_G.s1 rfl (qm_x_aload rfl) ?_
    refine qm_G.s1 rfl (qm_x_getfR (q := (some (0, 62, 0))) (hS 61 rfl) (hR 61 0 62 rfl rfl)) ?_
    refine qm_G.s1 rfl (qm_x_pushI 26 rfl) ?_
    refine qm_G.s1 rfl (qm_x_pushI 3 rfl) ?_
    refine qm_G.s1 rfl (qm_x_iload rfl) ?_
    refine qm_G.s1 rfl (qm_x_imul) ?_
    refine qm_G.s1 rfl (qm_x_iadd) ?_
    refine qm_G.s1 rfl (qm_x_iald (v := (J 62 0 (26 + 3 * (Int.toNat r)))) (qm_arS hS rfl rfl) rfl (by omega) (by omega) (by decide) (congrArg (J 62 0) (by omega))) ?_
    rcases (show J 62 0 (26 + 3 * (Int.toNat r)) = 0 ∨ J 62 0 (26 + 3 * (Int.toNat r)) = 1 ∨ J 62 0 (26 + 3 * (Int.toNat r)) = 2 ∨ (J 62 0 (26 + 3 * (Int.toNat r)) < 0 ∨ 3 ≤ J 62 0 (26 + 3 * (Int.toNat r))) by omega) with c1 | c1 | c1 | c1
    · refine qm_G.s1 rfl (qm_x_tsweq (v := 0) (t := 52) c1 rfl) ?_
      refine qm_G.sp (lv1 := [(0, qm_R (some (0, 61, 0))), (1, qm_I (qm_i r)), (2, qm_I (qm_i 0))]) rfl rfl (qm_x_aload rfl) ?_
      refine qm_G.s1 rfl (qm_x_getfR (q := (some (0, 62, 0))) (hS 61 rfl) (hR 61 0 62 rfl rfl)) ?_
      refine qm_G.s1 rfl (qm_x_pushI 26 rfl) ?_
      refine qm_G.s1 rfl (qm_x_pushI 3 rfl) ?_
      refine qm_G.s1 rfl (qm_x_iload rfl) ?_
      refine qm_G.s1 rfl (qm_x_imul) ?_
      refine qm_G.s1 rfl (qm_x_iadd) ?_
      refine qm_G.s1 rfl (qm_x_pushI 1 rfl) ?_
      refine qm_G.s1 rfl (qm_x_iadd) ?_
      refine qm_G.s1 rfl (qm_x_iload rfl) ?_
      refine qm_G.s1 rfl (qm_x_iadd) ?_
      refine qm_G.s1 rfl (qm_x_iald (v := (J 62 0 (27 + 3 * (Int.toNat r)))) (qm_arS hS rfl rfl) rfl (by omega) (by omega) (by decide) (congrArg (J 62 0) (by omega))) ?_
      exact qm_G.ret rfl rfl (k _ (by unfold qm_the; (repeat' split) <;> omega))
    · refine qm_G.s1 rfl (qm_x_tsweq (v := 1) (t := 68) c1 rfl) ?_
      refine qm_G.sp (lv1 := [(3, qm_I (qm_i d))]) rfl rfl (qm_x_pushI 0 rfl) ?_
      refine qm_G.s1 rfl (qm_x_iload rfl) ?_
      refine qm_G.s1 rfl (qm_x_pushI 1 rfl) ?_
      refine qm_G.s1 rfl (qm_x_isub) ?_
      refine qm_G.cs rfl rfl rfl ?_
      refine qm_v_max ⟨by decide, by decide⟩ ⟨by omega, by omega⟩ (fun w2 c3 => ⟨_, rfl, ?_⟩)
      exact qm_G.ret rfl rfl (k _ (by unfold qm_the; (repeat' split) <;> omega))
    · refine qm_G.s1 rfl (qm_x_tsweq (v := 2) (t := 76) c1 rfl) ?_
      refine qm_G.sp (lv1 := [(3, qm_I (qm_i d))]) rfl rfl (qm_x_pushI 6 rfl) ?_
      refine qm_G.s1 rfl (qm_x_iload rfl) ?_
      refine qm_G.s1 rfl (qm_x_pushI 1 rfl) ?_
      refine qm_G.s1 rfl (qm_x_iadd) ?_
      refine qm_G.cs rfl rfl rfl ?_
      refine qm_v_min ⟨by decide, by decide⟩ ⟨by omega, by omega⟩ (fun w4 c5 => ⟨_, rfl, ?_⟩)
      exact qm_G.ret rfl rfl (k _ (by unfold qm_the; (repeat' split) <;> omega))
    · refine qm_G.s1 rfl (qm_x_tswd (m := 3) rfl ⟨by omega, by omega⟩ (by omega) (by omega) (by decide)) ?_
      refine qm_G.sp (lv1 := [(3, qm_I (qm_i d)), (4, qm_I (qm_i (J 62 0 (27 + 3 * (Int.toNat r)))))]) rfl rfl (qm_x_pushI 0 rfl) ?_
      refine qm_G.s1 rfl (qm_x_pushI 0 rfl) ?_
      refine qm_G.s1 rfl (qm_x_iload rfl) ?_
      refine qm_G.s1 rfl (qm_x_pushI 1 rfl) ?_
      refine qm_G.s1 rfl (qm_x_isub) ?_
      refine qm_G.cs rfl rfl rfl ?_
      refine qm_v_max ⟨by decide, by decide⟩ ⟨by omega, by omega⟩ (fun w6 c7 => ⟨_, rfl, ?_⟩)
      refine qm_G.s1 rfl (qm_x_iload rfl) ?_
      refine qm_G.s1 rfl (qm_x_isub) ?_
      refine qm_G.cs rfl rfl rfl ?_
      refine qm_v_max ⟨by decide, by decide⟩ ⟨by omega, by omega⟩ (fun w8 c9 => ⟨_, rfl, ?_⟩)
      exact qm_G.ret rfl rfl (k _ (by unfold qm_the; (repeat' split) <;> omega))
  · subst c0
    refine qm_C.go (cd := qm_P65) (lv := [(0, qm_R (some (0, 61, 0))), (1, qm_I (qm_i r)), (2, qm_I (qm_i 1)), (3, qm_I (qm_i d))]) rfl rfl ?_
    refine qm_G.s1 rfl (qm_x_aload rfl) ?_
    refine qm_G.s1 rfl (qm_x_getfR (q := (some (0, 62, 0))) (hS 61 rfl) (hR 61 0 62 rfl rfl)) ?_
    refine qm_G.s1 rfl (qm_x_pushI 26 rfl) ?_
    refine qm_G.s1 rfl (qm_x_pushI 3 rfl) ?_
    refine qm_G.s1 rfl (qm_x_iload rfl) ?_
    refine qm_G.s1 rfl (qm_x_imul) ?_
    refine qm_G.s1 rfl (qm_x_iadd) ?_
    refine qm_G.s1 rfl (qm_x_pushI 1 rfl) ?_
    refine qm_G.s1 rfl (qm_x_iadd) ?_
    refine qm_G.s1 rfl (qm_x_iald (v := (J 62 0 (27 + 3 * (Int.toNat r)))) (qm_arS hS rfl rfl) rfl (by omega) (by omega) (by decide) (congrArg (J 62 0) (by omega))) ?_
    refine qm_G.s1 rfl (qm_x_istore (lv' := [(4, qm_I (qm_i (J 62 0 (27 + 3 * (Int.toNat r))))), (0, qm_R (some (0, 61, 0))), (1, qm_I (qm_i r)), (2, qm_I (qm_i 1)), (3, qm_I (qm_i d))]) rfl) ?_
    refine qm_G.s1 rfl (qm_x_aload rfl) ?_
    refine qm_G.s1 rfl (qm_x_getfR (q := (some (0, 62, 0))) (hS 61 rfl) (hR 61 0 62 rfl rfl)) ?_
    refine qm_G.s1 rfl (qm_x_pushI 26 rfl) ?_
    refine qm_G.s1 rfl (qm_x_pushI 3 rfl) ?_
    refine qm_G.s1 rfl (qm_x_iload rfl) ?_
    refine qm_G.s1 rfl (qm_x_imul) ?_
    refine qm_G.s1 rfl (qm_x_iadd) ?_
    refine qm_G.s1 rfl (qm_x_iald (v := (J 62 0 (26 + 3 * (Int.toNat r)))) (qm_arS hS rfl rfl) rfl (by omega) (by omega) (by decide) (congrArg (J 62 0) (by omega))) ?_
    rcases (show J 62 0 (26 + 3 * (Int.toNat r)) = 0 ∨ J 62 0 (26 + 3 * (Int.toNat r)) = 1 ∨ J 62 0 (26 + 3 * (Int.toNat r)) = 2 ∨ (J 62 0 (26 + 3 * (Int.toNat r)) < 0 ∨ 3 ≤ J 62 0 (26 + 3 * (Int.toNat r))) by omega) with c10 | c10 | c10 | c10
    · refine qm_G.s1 rfl (qm_x_tsweq (v := 0) (t := 52) c10 rfl) ?_
      refine qm_G.sp (lv1 := [(0, qm_R (some (0, 61, 0))), (1, qm_I (qm_i r)), (2, qm_I (qm_i 1))]) rfl rfl (qm_x_aload rfl) ?_
      refine qm_G.s1 rfl (qm_x_getfR (q := (some (0, 62, 0))) (hS 61 rfl) (hR 61 0 62 rfl rfl)) ?_
      refine qm_G.s1 rfl (qm_x_pushI 26 rfl) ?_
      refine qm_G.s1 rfl (qm_x_pushI 3 rfl) ?_
      refine qm_G.s1 rfl (qm_x_iload rfl) ?_
      refine qm_G.s1 rfl (qm_x_imul) ?_
      refine qm_G.s1 rfl (qm_x_iadd) ?_
      refine qm_G.s1 rfl (qm_x_pushI 1 rfl) ?_
      refine qm_G.s1 rfl (qm_x_iadd) ?_
      refine qm_G.s1 rfl (qm_x_iload rfl) ?_
      refine qm_G.s1 rfl (qm_x_iadd) ?_
      refine qm_G.s1 rfl (qm_x_iald (v := (J 62 0 (28 + 3 * (Int.toNat r)))) (qm_arS hS rfl rfl) rfl (by omega) (by omega) (by decide) (congrArg (J 62 0) (by omega))) ?_
      exact qm_G.ret rfl rfl (k _ (by unfold qm_the; (repeat' split) <;> omega))
    · refine qm_G.s1 rfl (qm_x_tsweq (v := 1) (t := 68) c10 rfl) ?_
      refine qm_G.sp (lv1 := [(3, qm_I (qm_i d))]) rfl rfl (qm_x_pushI 0 rfl) ?_
      refine qm_G.s1 rfl (qm_x_iload rfl) ?_
      refine qm_G.s1 rfl (qm_x_pushI 1 rfl) ?_
      refine qm_G.s1 rfl (qm_x_isub) ?_
      refine qm_G.cs rfl rfl rfl ?_
      refine qm_v_max ⟨by decide, by decide⟩ ⟨by omega, by omega⟩ (fun w11 c12 => ⟨_, rfl, ?_⟩)
      exact qm_G.ret rfl rfl (k _ (by unfold qm_the; (repeat' split) <;> omega))
    · refine qm_G.s1 rfl (qm_x_tsweq (v := 2) (t := 76) c10 rfl) ?_
      refine qm_G.sp (lv1 := [(3, qm_I (qm_i d))]) rfl rfl (qm_x_pushI 6 rfl) ?_
      refine qm_G.s1 rfl (qm_x_iload rfl) ?_
      refine qm_G.s1 rfl (qm_x_pushI 1 rfl) ?_
      refine qm_G.s1 rfl (qm_x_iadd) ?_
      refine qm_G.cs rfl rfl rfl ?_
      refine qm_v_min ⟨by decide, by decide⟩ ⟨by omega, by omega⟩ (fun w13 c14 => ⟨_, rfl, ?_⟩)
      exact qm_G.ret rfl rfl (k _ (by unfold qm_the; (repeat' split) <;> omega))
    · refine qm_G.s1 rfl (qm_x_tswd (m := 3) rfl ⟨by omega, by omega⟩ (by omega) (by omega) (by decide)) ?_
      refine qm_G.sp (lv1 := [(3, qm_I (qm_i d)), (4, qm_I (qm_i (J 62 0 (27 + 3 * (Int.toNat r)))))]) rfl rfl (qm_x_pushI 0 rfl) ?_
      refine qm_G.s1 rfl (qm_x_pushI 0 rfl) ?_
      refine qm_G.s1 rfl (qm_x_iload rfl) ?_
      refine qm_G.s1 rfl (qm_x_pushI 1 rfl) ?_
      refine qm_G.s1 rfl (qm_x_isub) ?_
      refine qm_G.cs rfl rfl rfl ?_
      refine qm_v_max ⟨by decide, by decide⟩ ⟨by omega, by omega⟩ (fun w15 c16 => ⟨_, rfl, ?_⟩)
      refine qm_G.s1 rfl (qm_x_iload rfl) ?_
      refine qm_G.s1 rfl (qm_x_isub) ?_
      refine qm_G.cs rfl rfl rfl ?_
      refine qm_v_max ⟨by decide, by decide⟩ ⟨by omega, by omega⟩ (fun w17 c18 => ⟨_, rfl, ?_⟩)
      exact qm_G.ret rfl rfl (k _ (by unfold qm_the; (repeat' split) <;> omega))
/-- what the model's chances and values go by -/
def qm_Nk (N : Nat → Int) : Prop := (1 ≤ N 1 ∧ N 1 ≤ 8) ∧ (0 ≤ N 2 ∧ N 2 ≤ 8) ∧ (0 ≤ N 3 ∧ N 3 ≤ 99) ∧ (0 ≤ N 6 ∧ N 6 ≤ 2) ∧ (0 ≤ N 7 ∧ N 7 ≤ 8) ∧ (∀ d, d < 12 → 0 ≤ N (14 + d) ∧ N (14 + d) ≤ 1000) ∧ (∀ p, p < 12 → N (50 + p) = -5 ∨ (0 ≤ N (50 + p) ∧ N (50 + p) < N 7)) ∧ (∀ r : Nat, r < 8 → (r : Int) < N 7 → (0 ≤ N (26 + 3 * r) ∧ N (26 + 3 * r) ≤ 3) ∧ (0 ≤ N (27 + 3 * r) ∧ N (27 + 3 * r) ≤ 6) ∧ (0 ≤ N (28 + 3 * r) ∧ N (28 + 3 * r) ≤ 6))
theorem qm_Nk.lim {N : Nat → Int} (h : qm_Nk N) : 1 ≤ N 1 ∧ N 1 ≤ 8 := h.1
theorem qm_Nk.rnd {N : Nat → Int} (h : qm_Nk N) : 0 ≤ N 2 ∧ N 2 ≤ 8 := h.2.1
theorem qm_Nk.fin {N : Nat → Int} (h : qm_Nk N) : 0 ≤ N 3 ∧ N 3 ≤ 99 := h.2.2.1
theorem qm_Nk.str {N : Nat → Int} (h : qm_Nk N) : 0 ≤ N 6 ∧ N 6 ≤ 2 := h.2.2.2.1
theorem qm_Nk.cnt {N : Nat → Int} (h : qm_Nk N) : 0 ≤ N 7 ∧ N 7 ≤ 8 := h.2.2.2.2.1
theorem qm_Nk.odd {N : Nat → Int} (h : qm_Nk N) : ∀ d, d < 12 → 0 ≤ N (14 + d) ∧ N (14 + d) ≤ 1000 := h.2.2.2.2.2.1
theorem qm_Nk.dek {N : Nat → Int} (h : qm_Nk N) : ∀ p, p < 12 → N (50 + p) = -5 ∨ (0 ≤ N (50 + p) ∧ N (50 + p) < N 7) := h.2.2.2.2.2.2.1
theorem qm_Nk.riv {N : Nat → Int} (h : qm_Nk N) : ∀ r : Nat, r < 8 → (r : Int) < N 7 → (0 ≤ N (26 + 3 * r) ∧ N (26 + 3 * r) ≤ 3) ∧ (0 ≤ N (27 + 3 * r) ∧ N (27 + 3 * r) ≤ 6) ∧ (0 ≤ N (28 + 3 * r) ∧ N (28 + 3 * r) ≤ 6) := h.2.2.2.2.2.2.2
theorem qm_Mkn.nk {S : List qm_Sh} {J : qm_J} {R : qm_Ct (Option qm_Rf)} (h : qm_Mkn S J R) : qm_Nk (J 62 0) := by
  refine ⟨h.r1, h.r2, h.r3, h.rstr, h.rrc, h.rod, fun p hp => ?_, fun r h1 h2 => ?_⟩
  · have h9 := h.dek (p / 4) (p % 4) (by omega) (by omega)
    rw [show 50 + 4 * (p / 4) + p % 4 = 50 + p by omega] at h9
    omega
  · obtain ⟨q, h3, h4, h5, h6, h7, h8, h9, h10, h11⟩ := h.riv r h1 h2
    exact ⟨h9, h10, h11⟩
theorem qm_d_lk0_0 {S : List qm_Sh} {J K : qm_J} {L : qm_Ct Int64} {D : qm_Ct UInt64} {R : qm_Ct (Option qm_Rf)} {X : Nat × (Nat → Int32)} {Q : Option qm_V → qm_Hp → Prop} {sd d g c : Int} (hS : qm_Sd S) (hR : qm_Rd R) (hM : qm_Mkn S J R) (hst : J 2 0 5 = 0) (r0 : 0 ≤ sd ∧ sd ≤ 1) (r1 : 0 ≤ d ∧ d ≤ 5) (r2 : 0 ≤ g ∧ g ≤ 15) (r3 : 0 ≤ c ∧ c ≤ 1000) (k : ∀ c9 : Int, c9 = qm_plc (J 62 0) sd d c (if g % 2 = 1 then -5 else J 62 0 50) → qm_G qm_P qm_P161 21 [(0, qm_R (some (0, 2, 0))), (1, qm_I (qm_i sd)), (2, qm_I (qm_i d)), (3, qm_I (qm_i g)), (4, qm_I (qm_i c9)), (5, qm_I (qm_i (0 + 1)))] [] (qm_H S J K L D R X) Q) : qm_G qm_P qm_P161 21 [(0, qm_R (some (0, 2, 0))), (1, qm_I (qm_i sd)), (2, qm_I (qm_i d)), (3, qm_I (qm_i g)), (4, qm_I (qm_i c)), (5, qm_I (qm_i 0))] [] (qm_H S J K L D R X) Q := by
  have f62_7 : 0 ≤ J 62 0 7 ∧ J 62 0 7 ≤ 8 := hM.rrc
  have f2_3 : J 2 0 3 = J 62 0 7 := hM.rc
  have f2_5 : J 2 0 5 = 0 := hst
  refine qm_G.sp (lv1 := [(0, qm_R (some (0, 2, 0))), (1, qm_I (qm_i sd)), (2, qm_I (qm_i d)), (3, qm_I (qm_i g)), (4, qm_I (qm_i c)), (5, qm_I (qm_i 0))]) rfl rfl (qm_x_iload rfl) ?_
  refine qm_G.s1 rfl (qm_x_pushI 4 rfl) ?_
  refine qm_G.s1 rfl (qm_x_icmp_ge_f ⟨by decide, by decide⟩ ⟨by decide, by decide⟩ (by decide)) ?_
  refine qm_G.s1 rfl (qm_x_aload rfl) ?_
  refine qm_G.s1 rfl (qm_x_aload rfl) ?_
  refine qm_G.s1 rfl (qm_x_getfR (q := (some (0, 8, 0))) (hS 2 rfl) (hR 2 4 8 rfl rfl)) ?_
  refine qm_G.s1 rfl (qm_x_aload rfl) ?_
  refine qm_G.s1 rfl (qm_x_getfI (v := 0) (hS 2 rfl) f2_5) ?_
  refine qm_G.s1 rfl (qm_x_aaldg (hS 8 rfl) rfl rfl (by decide) (by decide)) ?_
  refine qm_G.s1 rfl (qm_x_iload rfl) ?_
  have g1 : (J 8 1 0 = -1 ∧ J 62 0 50 = -5) ∨ (J 8 1 0 = J 62 0 50 ∧ 0 ≤ J 62 0 50 ∧ J 62 0 50 < J 62 0 7) := hM.dek 0 0 (by decide) (by decide)
  refine qm_G.s1 rfl (qm_x_iald (v := (J 8 1 0)) (qm_arS hS rfl rfl) rfl (by decide) (by decide) (by decide) rfl) ?_
  refine qm_G.cm rfl rfl (hS 2 rfl) rfl ?_
  refine qm_C.go (cd := qm_P93) (lv := [(0, qm_R (some (0, 2, 0))), (1, qm_I (qm_i (J 8 1 0)))]) rfl rfl ?_
  refine qm_G.s1 rfl (qm_x_iload rfl) ?_
  refine qm_G.s1 rfl (qm_x_pushI 0 rfl) ?_
  refine qm_G.s1 rfl (qm_x_aload rfl) ?_
  refine qm_G.s1 rfl (qm_x_getfI (v := (J 2 0 3)) (hS 2 rfl) rfl) ?_
  refine qm_G.s1 rfl (qm_x_pushI 1 rfl) ?_
  refine qm_G.s1 rfl (qm_x_isub) ?_
  refine qm_G.cs rfl rfl rfl ?_
  refine qm_v_within10 ⟨by omega, by omega⟩ ⟨by decide, by decide⟩ ⟨by omega, by omega⟩ (fun c2 => ⟨_, rfl, ?_⟩) (fun c2 => ⟨_, rfl, ?_⟩)
  · refine qm_G.s1 rfl (qm_x_if_eq_f ⟨by decide, by decide⟩ (by decide)) ?_
    refine qm_G.s1 rfl (qm_x_aload rfl) ?_
    refine qm_G.s1 rfl (qm_x_getfR (q := (some (0, 7, 0))) (hS 2 rfl) (hR 2 2 7 rfl rfl)) ?_
    refine qm_G.s1 rfl (qm_x_iload rfl) ?_
    obtain ⟨q3, g4r, g4h, g4s, g4a, g4b, g4c, g4x, g4y, g4z⟩ := hM.riv (Int.toNat (J 8 1 0)) (by omega) (by omega)
    refine qm_G.s1 rfl (qm_x_aaldr (q := (some (0, q3, 0))) (hS 7 rfl) rfl rfl (by omega) (by omega) g4r) ?_
    refine qm_G.s1 rfl (qm_x_goto) ?_
    refine qm_G.ret rfl rfl ⟨_, rfl, ?_⟩
    refine qm_G.s1 rfl (qm_x_astore (lv' := [(6, qm_R (some (0, q3, 0))), (0, qm_R (some (0, 2, 0))), (1, qm_I (qm_i sd)), (2, qm_I (qm_i d)), (3, qm_I (qm_i g)), (4, qm_I (qm_i c)), (5, qm_I (qm_i 0))]) rfl) ?_
    refine qm_G.s1 rfl (qm_x_aload rfl) ?_
    refine qm_G.s1 rfl (qm_x_ifnull1) ?_
    refine qm_G.s1 rfl (qm_x_iload rfl) ?_
    refine qm_G.s1 rfl (qm_x_iload rfl) ?_
    refine qm_G.s1 rfl (qm_x_ishr4 (p := 0) (v := g) (by omega) (by decide) rfl (by omega)) ?_
    refine qm_G.s1 rfl (qm_x_pushI 1 rfl) ?_
    refine qm_G.s1 rfl (qm_x_iand1 (by omega)) ?_
    refine qm_y_if_ne rfl ⟨by omega, by omega⟩ (fun c5 => ?_) (fun c5 => ?_)
    · refine qm_G.sp (lv1 := [(0, qm_R (some (0, 2, 0))), (1, qm_I (qm_i sd)), (2, qm_I (qm_i d)), (3, qm_I (qm_i g)), (4, qm_I (qm_i c)), (5, qm_I (qm_i 0))]) rfl rfl (qm_x_iinc (lv' := [(5, qm_I (qm_i (0 + 1))), (0, qm_R (some (0, 2, 0))), (1, qm_I (qm_i sd)), (2, qm_I (qm_i d)), (3, qm_I (qm_i g)), (4, qm_I (qm_i c))]) 1 rfl rfl rfl) ?_
      refine qm_G.s1 rfl (qm_x_goto) ?_
      refine qm_G.pk (lv1 := [(0, qm_R (some (0, 2, 0))), (1, qm_I (qm_i sd)), (2, qm_I (qm_i d)), (3, qm_I (qm_i g)), (4, qm_I (qm_i c)), (5, qm_I (qm_i (0 + 1)))]) rfl rfl rfl ?_
      exact k _ (by unfold qm_plc; rw [if_pos (by split <;> omega)])
    · refine qm_G.s1 rfl (qm_x_iload rfl) ?_
      refine qm_G.s1 rfl (qm_x_aload rfl) ?_
      refine qm_G.s1 rfl (qm_x_iload rfl) ?_
      refine qm_G.s1 rfl (qm_x_iload rfl) ?_
      refine qm_G.cm rfl rfl g4s rfl ?_
      refine qm_v_dist g4s g4a g4b g4c g4x g4y g4z (by omega) (by omega) (fun w6 c7 => ⟨_, rfl, ?_⟩)
      have c7r : 0 ≤ w6 ∧ w6 ≤ 6 := by rw [c7]; exact qm_the_rng g4x g4y g4z (by omega)
      refine qm_G.s1 rfl (qm_x_iload rfl) ?_
      refine qm_G.cs rfl rfl rfl ?_
      refine qm_v_bes (by omega) (by omega) (by omega) (fun w8 c9 => ⟨_, rfl, ?_⟩)
      have c9r : 0 ≤ w8 ∧ w8 ≤ 1000 := by rw [c9]; exact qm_bes_rng (by omega)
      refine qm_G.s1 rfl (qm_x_istore (lv' := [(4, qm_I (qm_i w8)), (6, qm_R (some (0, q3, 0))), (0, qm_R (some (0, 2, 0))), (1, qm_I (qm_i sd)), (2, qm_I (qm_i d)), (3, qm_I (qm_i g)), (5, qm_I (qm_i 0))]) rfl) ?_
      refine qm_G.sp (lv1 := [(0, qm_R (some (0, 2, 0))), (1, qm_I (qm_i sd)), (2, qm_I (qm_i d)), (3, qm_I (qm_i g)), (4, qm_I (qm_i w8)), (5, qm_I (qm_i 0))]) rfl rfl (qm_x_iinc (lv' := [(5, qm_I (qm_i (0 + 1))), (0, qm_R (some (0, 2, 0))), (1, qm_I (qm_i sd)), (2, qm_I (qm_i d)), (3, qm_I (qm_i g)), (4, qm_I (qm_i w8))]) 1 rfl rfl rfl) ?_
      refine qm_G.s1 rfl (qm_x_goto) ?_
      refine qm_G.pk (lv1 := [(0, qm_R (some (0, 2, 0))), (1, qm_I (qm_i sd)), (2, qm_I (qm_i d)), (3, qm_I (qm_i g)), (4, qm_I (qm_i w8)), (5, qm_I (qm_i (0 + 1)))]) rfl rfl rfl ?_
      have e8 : J 8 1 0 = J 62 0 50 := by omega
      exact k _ (by unfold qm_plc; rw [if_neg (show ¬ (g % 2 = 1) by omega), if_neg (show ¬ (J 62 0 50 < 0) by omega), c9, c7, e8])
  · refine qm_G.s1 rfl (qm_x_if_eq_t ⟨by decide, by decide⟩ (by decide)) ?_
    refine qm_G.sp (lv1 := []) rfl rfl (qm_x_push) ?_
    refine qm_G.ret rfl rfl ⟨_, rfl, ?_⟩
    refine qm_G.s1 rfl (qm_x_astore (lv' := [(6, qm_R (none)), (0, qm_R (some (0, 2, 0))), (1, qm_I (qm_i sd)), (2, qm_I (qm_i d)), (3, qm_I (qm_i g)), (4, qm_I (qm_i c)), (5, qm_I (qm_i 0))]) rfl) ?_
    refine qm_G.s1 rfl (qm_x_aload rfl) ?_
    refine qm_G.s1 rfl (qm_x_ifnull0) ?_
    refine qm_G.sp (lv1 := [(0, qm_R (some (0, 2, 0))), (1, qm_I (qm_i sd)), (2, qm_I (qm_i d)), (3, qm_I (qm_i g)), (4, qm_I (qm_i c)), (5, qm_I (qm_i 0))]) rfl rfl (qm_x_iinc (lv' := [(5, qm_I (qm_i (0 + 1))), (0, qm_R (some (0, 2, 0))), (1, qm_I (qm_i sd)), (2, qm_I (qm_i d)), (3, qm_I (qm_i g)), (4, qm_I (qm_i c))]) 1 rfl rfl rfl) ?_
    refine qm_G.s1 rfl (qm_x_goto) ?_
    refine qm_G.pk (lv1 := [(0, qm_R (some (0, 2, 0))), (1, qm_I (qm_i sd)), (2, qm_I (qm_i d)), (3, qm_I (qm_i g)), (4, qm_I (qm_i c)), (5, qm_I (qm_i (0 + 1)))]) rfl rfl rfl ?_
    exact k _ (by unfold qm_plc; rw [if_pos (by split <;> omega)])
theorem qm_d_lk0_1 {S : List qm_Sh} {J K : qm_J} {L : qm_Ct Int64} {D : qm_Ct UInt64} {R : qm_Ct (Option qm_Rf)} {X : Nat × (Nat → Int32)} {Q : Option qm_V → qm_Hp → Prop} {sd d g c : Int} (hS : qm_Sd S) (hR : qm_Rd R) (hM : qm_Mkn S J R) (hst : J 2 0 5 = 0) (r0 : 0 ≤ sd ∧ sd ≤ 1) (r1 : 0 ≤ d ∧ d ≤ 5) (r2 : 0 ≤ g ∧ g ≤ 15) (r3 : 0 ≤ c ∧ c ≤ 1000) (k : ∀ c9 : Int, c9 = qm_plc (J 62 0) sd d c (if g / 2 % 2 = 1 then -5 else J 62 0 51) → qm_G qm_P qm_P161 21 [(0, qm_R (some (0, 2, 0))), (1, qm_I (qm_i sd)), (2, qm_I (qm_i d)), (3, qm_I (qm_i g)), (4, qm_I (qm_i c9)), (5, qm_I (qm_i (1 + 1)))] [] (qm_H S J K L D R X) Q) : qm_G qm_P qm_P161 21 [(0, qm_R (some (0, 2, 0))), (1, qm_I (qm_i sd)), (2, qm_I (qm_i d)), (3, qm_I (qm_i g)), (4, qm_I (qm_i c)), (5, qm_I (qm_i 1))] [] (qm_H S J K L D R X) Q := by
  have f62_7 : 0 ≤ J 62 0 7 ∧ J 62 0 7 ≤ 8 := hM.rrc
  have f2_3 : J 2 0 3 = J 62 0 7 := hM.rc
  have f2_5 : J 2 0 5 = 0 := hst
  refine qm_G.sp (lv1 := [(0, qm_R (some (0, 2, 0))), (1, qm_I (qm_i sd)), (2, qm_I (qm_i d)), (3, qm_I (qm_i g)), (4, qm_I (qm_i c)), (5, qm_I (qm_i 1))]) rfl rfl (qm_x_iload rfl) ?_
  refine qm_G.s1 rfl (qm_x_pushI 4 rfl) ?_
  refine qm_G.s1 rfl (qm_x_icmp_ge_f ⟨by decide, by decide⟩ ⟨by decide, by decide⟩ (by decide)) ?_
  refine qm_G.s1 rfl (qm_x_aload rfl) ?_
  refine qm_G.s1 rfl (qm_x_aload rfl) ?_
  refine qm_G.s1 rfl (qm_x_getfR (q := (some (0, 8, 0))) (hS 2 rfl) (hR 2 4 8 rfl rfl)) ?_
  refine qm_G.s1 rfl (qm_x_aload rfl) ?_
  refine qm_G.s1 rfl (qm_x_getfI (v := 0) (hS 2 rfl) f2_5) ?_
  refine qm_G.s1 rfl (qm_x_aaldg (hS 8 rfl) rfl rfl (by decide) (by decide)) ?_
  refine qm_G.s1 rfl (qm_x_iload rfl) ?_
  have g1 : (J 8 1 1 = -1 ∧ J 62 0 51 = -5) ∨ (J 8 1 1 = J 62 0 51 ∧ 0 ≤ J 62 0 51 ∧ J 62 0 51 < J 62 0 7) := hM.dek 0 1 (by decide) (by decide)
  refine qm_G.s1 rfl (qm_x_iald (v := (J 8 1 1)) (qm_arS hS rfl rfl) rfl (by decide) (by decide) (by decide) rfl) ?_
  refine qm_G.cm rfl rfl (hS 2 rfl) rfl ?_
  refine qm_C.go (cd := qm_P93) (lv := [(0, qm_R (some (0, 2, 0))), (1, qm_I (qm_i (J 8 1 1)))]) rfl rfl ?_
  refine qm_G.s1 rfl (qm_x_iload rfl) ?_
  refine qm_G.s1 rfl (qm_x_pushI 0 rfl) ?_
  refine qm_G.s1 rfl (qm_x_aload rfl) ?_
  refine qm_G.s1 rfl (qm_x_getfI (v := (J 2 0 3)) (hS 2 rfl) rfl) ?_
  refine qm_G.s1 rfl (qm_x_pushI 1 rfl) ?_
  refine qm_G.s1 rfl (qm_x_isub) ?_
  refine qm_G.cs rfl rfl rfl ?_
  refine qm_v_within10 ⟨by omega, by omega⟩ ⟨by decide, by decide⟩ ⟨by omega, by omega⟩ (fun c2 => ⟨_, rfl, ?_⟩) (fun c2 => ⟨_, rfl, ?_⟩)
  · refine qm_G.s1 rfl (qm_x_if_eq_f ⟨by decide, by decide⟩ (by decide)) ?_
    refine qm_G.s1 rfl (qm_x_aload rfl) ?_
    refine qm_G.s1 rfl (qm_x_getfR (q := (some (0, 7, 0))) (hS 2 rfl) (hR 2 2 7 rfl rfl)) ?_
    refine qm_G.s1 rfl (qm_x_iload rfl) ?_
    obtain ⟨q3, g4r, g4h, g4s, g4a, g4b, g4c, g4x, g4y, g4z⟩ := hM.riv (Int.toNat (J 8 1 1)) (by omega) (by omega)
    refine qm_G.s1 rfl (qm_x_aaldr (q := (some (0, q3, 0))) (hS 7 rfl) rfl rfl (by omega) (by omega) g4r) ?_
    refine qm_G.s1 rfl (qm_x_goto) ?_
    refine qm_G.ret rfl rfl ⟨_, rfl, ?_⟩
    refine qm_G.s1 rfl (qm_x_astore (lv' := [(6, qm_R (some (0, q3, 0))), (0, qm_R (some (0, 2, 0))), (1, qm_I (qm_i sd)), (2, qm_I (qm_i d)), (3, qm_I (qm_i g)), (4, qm_I (qm_i c)), (5, qm_I (qm_i 1))]) rfl) ?_
    refine qm_G.s1 rfl (qm_x_aload rfl) ?_
    refine qm_G.s1 rfl (qm_x_ifnull1) ?_
    refine qm_G.s1 rfl (qm_x_iload rfl) ?_
    refine qm_G.s1 rfl (qm_x_iload rfl) ?_
    refine qm_G.s1 rfl (qm_x_ishr4 (p := 1) (v := (g / 2)) (by omega) (by decide) rfl (by omega)) ?_
    refine qm_G.s1 rfl (qm_x_pushI 1 rfl) ?_
    refine qm_G.s1 rfl (qm_x_iand1 (by omega)) ?_
    refine qm_y_if_ne rfl ⟨by omega, by omega⟩ (fun c5 => ?_) (fun c5 => ?_)
    · refine qm_G.sp (lv1 := [(0, qm_R (some (0, 2, 0))), (1, qm_I (qm_i sd)), (2, qm_I (qm_i d)), (3, qm_I (qm_i g)), (4, qm_I (qm_i c)), (5, qm_I (qm_i 1))]) rfl rfl (qm_x_iinc (lv' := [(5, qm_I (qm_i (1 + 1))), (0, qm_R (some (0, 2, 0))), (1, qm_I (qm_i sd)), (2, qm_I (qm_i d)), (3, qm_I (qm_i g)), (4, qm_I (qm_i c))]) 1 rfl rfl rfl) ?_
      refine qm_G.s1 rfl (qm_x_goto) ?_
      refine qm_G.pk (lv1 := [(0, qm_R (some (0, 2, 0))), (1, qm_I (qm_i sd)), (2, qm_I (qm_i d)), (3, qm_I (qm_i g)), (4, qm_I (qm_i c)), (5, qm_I (qm_i (1 + 1)))]) rfl rfl rfl ?_
      exact k _ (by unfold qm_plc; rw [if_pos (by split <;> omega)])
    · refine qm_G.s1 rfl (qm_x_iload rfl) ?_
      refine qm_G.s1 rfl (qm_x_aload rfl) ?_
      refine qm_G.s1 rfl (qm_x_iload rfl) ?_
      refine qm_G.s1 rfl (qm_x_iload rfl) ?_
      refine qm_G.cm rfl rfl g4s rfl ?_
      refine qm_v_dist g4s g4a g4b g4c g4x g4y g4z (by omega) (by omega) (fun w6 c7 => ⟨_, rfl, ?_⟩)
      have c7r : 0 ≤ w6 ∧ w6 ≤ 6 := by rw [c7]; exact qm_the_rng g4x g4y g4z (by omega)
      refine qm_G.s1 rfl (qm_x_iload rfl) ?_
      refine qm_G.cs rfl rfl rfl ?_
      refine qm_v_bes (by omega) (by omega) (by omega) (fun w8 c9 => ⟨_, rfl, ?_⟩)
      have c9r : 0 ≤ w8 ∧ w8 ≤ 1000 := by rw [c9]; exact qm_bes_rng (by omega)
      refine qm_G.s1 rfl (qm_x_istore (lv' := [(4, qm_I (qm_i w8)), (6, qm_R (some (0, q3, 0))), (0, qm_R (some (0, 2, 0))), (1, qm_I (qm_i sd)), (2, qm_I (qm_i d)), (3, qm_I (qm_i g)), (5, qm_I (qm_i 1))]) rfl) ?_
      refine qm_G.sp (lv1 := [(0, qm_R (some (0, 2, 0))), (1, qm_I (qm_i sd)), (2, qm_I (qm_i d)), (3, qm_I (qm_i g)), (4, qm_I (qm_i w8)), (5, qm_I (qm_i 1))]) rfl rfl (qm_x_iinc (lv' := [(5, qm_I (qm_i (1 + 1))), (0, qm_R (some (0, 2, 0))), (1, qm_I (qm_i sd)), (2, qm_I (qm_i d)), (3, qm_I (qm_i g)), (4, qm_I (qm_i w8))]) 1 rfl rfl rfl) ?_
      refine qm_G.s1 rfl (qm_x_goto) ?_
      refine qm_G.pk (lv1 := [(0, qm_R (some (0, 2, 0))), (1, qm_I (qm_i sd)), (2, qm_I (qm_i d)), (3, qm_I (qm_i g)), (4, qm_I (qm_i w8)), (5, qm_I (qm_i (1 + 1)))]) rfl rfl rfl ?_
      have e8 : J 8 1 1 = J 62 0 51 := by omega
      exact k _ (by unfold qm_plc; rw [if_neg (show ¬ (g / 2 % 2 = 1) by omega), if_neg (show ¬ (J 62 0 51 < 0) by omega), c9, c7, e8])
  · refine qm_G.s1 rfl (qm_x_if_eq_t ⟨by decide, by decide⟩ (by decide)) ?_
    refine qm_G.sp (lv1 := []) rfl rfl (qm_x_push) ?_
    refine qm_G.ret rfl rfl ⟨_, rfl, ?_⟩
    refine qm_G.s1 rfl (qm_x_astore (lv' := [(6, qm_R (none)), (0, qm_R (some (0, 2, 0))), (1, qm_I (qm_i sd)), (2, qm_I (qm_i d)), (3, qm_I (qm_i g)), (4, qm_I (qm_i c)), (5, qm_I (qm_i 1))]) rfl) ?_
    refine qm_G.s1 rfl (qm_x_aload rfl) ?_
    refine qm_G.s1 rfl (qm_x_ifnull0) ?_
    refine qm_G.sp (lv1 := [(0, qm_R (some (0, 2, 0))), (1, qm_I (qm_i sd)), (2, qm_I (qm_i d)), (3, qm_I (qm_i g)), (4, qm_I (qm_i c)), (5, qm_I (qm_i 1))]) rfl rfl (qm_x_iinc (lv' := [(5, qm_I (qm_i (1 + 1))), (0, qm_R (some (0, 2, 0))), (1, qm_I (qm_i sd)), (2, qm_I (qm_i d)), (3, qm_I (qm_i g)), (4, qm_I (qm_i c))]) 1 rfl rfl rfl) ?_
    refine qm_G.s1 rfl (qm_x_goto) ?_
    refine qm_G.pk (lv1 := [(0, qm_R (some (0, 2, 0))), (1, qm_I (qm_i sd)), (2, qm_I (qm_i d)), (3, qm_I (qm_i g)), (4, qm_I (qm_i c)), (5, qm_I (qm_i (1 + 1)))]) rfl rfl rfl ?_
    exact k _ (by unfold qm_plc; rw [if_pos (by split <;> omega)])
theorem qm_d_lk0_2 {S : List qm_Sh} {J K : qm_J} {L : qm_Ct Int64} {D : qm_Ct UInt64} {R : qm_Ct (Option qm_Rf)} {X : Nat × (Nat → Int32)} {Q : Option qm_V → qm_Hp → Prop} {sd d g c : Int} (hS : qm_Sd S) (hR : qm_Rd R) (hM : qm_Mkn S J R) (hst : J 2 0 5 = 0) (r0 : 0 ≤ sd ∧ sd ≤ 1) (r1 : 0 ≤ d ∧ d ≤ 5) (r2 : 0 ≤ g ∧ g ≤ 15) (r3 : 0 ≤ c ∧ c ≤ 1000) (k : ∀ c9 : Int, c9 = qm_plc (J 62 0) sd d c (if g / 4 % 2 = 1 then -5 else J 62 0 52) → qm_G qm_P qm_P161 21 [(0, qm_R (some (0, 2, 0))), (1, qm_I (qm_i sd)), (2, qm_I (qm_i d)), (3, qm_I (qm_i g)), (4, qm_I (qm_i c9)), (5, qm_I (qm_i (2 + 1)))] [] (qm_H S J K L D R X) Q) : qm_G qm_P qm_P161 21 [(0, qm_R (some (0, 2, 0))), (1, qm_I (qm_i sd)), (2, qm_I (qm_i d)), (3, qm_I (qm_i g)), (4, qm_I (qm_i c)), (5, qm_I (qm_i 2))] [] (qm_H S J K L D R X) Q := by
  have f62_7 : 0 ≤ J 62 0 7 ∧ J 62 0 7 ≤ 8 := hM.rrc
  have f2_3 : J 2 0 3 = J 62 0 7 := hM.rc
  have f2_5 : J 2 0 5 = 0 := hst
  refine qm_G.sp (lv1 := [(0, qm_R (some (0, 2, 0))), (1, qm_I (qm_i sd)), (2, qm_I (qm_i d)), (3, qm_I (qm_i g)), (4, qm_I (qm_i c)), (5, qm_I (qm_i 2))]) rfl rfl (qm_x_iload rfl) ?_
  refine qm_G.s1 rfl (qm_x_pushI 4 rfl) ?_
  refine qm_G.s1 rfl (qm_x_icmp_ge_f ⟨by decide, by decide⟩ ⟨by decide, by decide⟩ (by decide)) ?_
  refine qm_G.s1 rfl (qm_x_aload rfl) ?_
  refine qm_G.s1 rfl (qm_x_aload rfl) ?_
  refine qm_G.s1 rfl (qm_x_getfR (q := (some (0, 8, 0))) (hS 2 rfl) (hR 2 4 8 rfl rfl)) ?_
  refine qm_G.s1 rfl (qm_x_aload rfl) ?_
  refine qm_G.s1 rfl (qm_x_getfI (v := 0) (hS 2 rfl) f2_5) ?_
  refine qm_G.s1 rfl (qm_x_aaldg (hS 8 rfl) rfl rfl (by decide) (by decide)) ?_
  refine qm_G.s1 rfl (qm_x_iload rfl) ?_
  have g1 : (J 8 1 2 = -1 ∧ J 62 0 52 = -5) ∨ (J 8 1 2 = J 62 0 52 ∧ 0 ≤ J 62 0 52 ∧ J 62 0 52 < J 62 0 7) := hM.dek 0 2 (by decide) (by decide)
  refine qm_G.s1 rfl (qm_x_iald (v := (J 8 1 2)) (qm_arS hS rfl rfl) rfl (by decide) (by decide) (by decide) rfl) ?_
  refine qm_G.cm rfl rfl (hS 2 rfl) rfl ?_
  refine qm_C.go (cd := qm_P93) (lv := [(0, qm_R (some (0, 2, 0))), (1, qm_I (qm_i (J 8 1 2)))]) rfl rfl ?_
  refine qm_G.s1 rfl (qm_x_iload rfl) ?_
  refine qm_G.s1 rfl (qm_x_pushI 0 rfl) ?_
  refine qm_G.s1 rfl (qm_x_aload rfl) ?_
  refine qm_G.s1 rfl (qm_x_getfI (v := (J 2 0 3)) (hS 2 rfl) rfl) ?_
  refine qm_G.s1 rfl (qm_x_pushI 1 rfl) ?_
  refine qm_G.s1 rfl (qm_x_isub) ?_
  refine qm_G.cs rfl rfl rfl ?_
  refine qm_v_within10 ⟨by omega, by omega⟩ ⟨by decide, by decide⟩ ⟨by omega, by omega⟩ (fun c2 => ⟨_, rfl, ?_⟩) (fun c2 => ⟨_, rfl, ?_⟩)
  · refine qm_G.s1 rfl (qm_x_if_eq_f ⟨by decide, by decide⟩ (by decide)) ?_
    refine qm_G.s1 rfl (qm_x_aload rfl) ?_
    refine qm_G.s1 rfl (qm_x_getfR (q := (some (0, 7, 0))) (hS 2 rfl) (hR 2 2 7 rfl rfl)) ?_
    refine qm_G.s1 rfl (qm_x_iload rfl) ?_
    obtain ⟨q3, g4r, g4h, g4s, g4a, g4b, g4c, g4x, g4y, g4z⟩ := hM.riv (Int.toNat (J 8 1 2)) (by omega) (by omega)
    refine qm_G.s1 rfl (qm_x_aaldr (q := (some (0, q3, 0))) (hS 7 rfl) rfl rfl (by omega) (by omega) g4r) ?_
    refine qm_G.s1 rfl (qm_x_goto) ?_
    refine qm_G.ret rfl rfl ⟨_, rfl, ?_⟩
    refine qm_G.s1 rfl (qm_x_astore (lv' := [(6, qm_R (some (0, q3, 0))), (0, qm_R (some (0, 2, 0))), (1, qm_I (qm_i sd)), (2, qm_I (qm_i d)), (3, qm_I (qm_i g)), (4, qm_I (qm_i c)), (5, qm_I (qm_i 2))]) rfl) ?_
    refine qm_G.s1 rfl (qm_x_aload rfl) ?_
    refine qm_G.s1 rfl (qm_x_ifnull1) ?_
    refine qm_G.s1 rfl (qm_x_iload rfl) ?_
    refine qm_G.s1 rfl (qm_x_iload rfl) ?_
    refine qm_G.s1 rfl (qm_x_ishr4 (p := 2) (v := (g / 4)) (by omega) (by decide) rfl (by omega)) ?_
    refine qm_G.s1 rfl (qm_x_pushI 1 rfl) ?_
    refine qm_G.s1 rfl (qm_x_iand1 (by omega)) ?_
    refine qm_y_if_ne rfl ⟨by omega, by omega⟩ (fun c5 => ?_) (fun c5 => ?_)
    · refine qm_G.sp (lv1 := [(0, qm_R (some (0, 2, 0))), (1, qm_I (qm_i sd)), (2, qm_I (qm_i d)), (3, qm_I (qm_i g)), (4, qm_I (qm_i c)), (5, qm_I (qm_i 2))]) rfl rfl (qm_x_iinc (lv' := [(5, qm_I (qm_i (2 + 1))), (0, qm_R (some (0, 2, 0))), (1, qm_I (qm_i sd)), (2, qm_I (qm_i d)), (3, qm_I (qm_i g)), (4, qm_I (qm_i c))]) 1 rfl rfl rfl) ?_
      refine qm_G.s1 rfl (qm_x_goto) ?_
      refine qm_G.pk (lv1 := [(0, qm_R (some (0, 2, 0))), (1, qm_I (qm_i sd)), (2, qm_I (qm_i d)), (3, qm_I (qm_i g)), (4, qm_I (qm_i c)), (5, qm_I (qm_i (2 + 1)))]) rfl rfl rfl ?_
      exact k _ (by unfold qm_plc; rw [if_pos (by split <;> omega)])
    · refine qm_G.s1 rfl (qm_x_iload rfl) ?_
      refine qm_G.s1 rfl (qm_x_aload rfl) ?_
      refine qm_G.s1 rfl (qm_x_iload rfl) ?_
      refine qm_G.s1 rfl (qm_x_iload rfl) ?_
      refine qm_G.cm rfl rfl g4s rfl ?_
      refine qm_v_dist g4s g4a g4b g4c g4x g4y g4z (by omega) (by omega) (fun w6 c7 => ⟨_, rfl, ?_⟩)
      have c7r : 0 ≤ w6 ∧ w6 ≤ 6 := by rw [c7]; exact qm_the_rng g4x g4y g4z (by omega)
      refine qm_G.s1 rfl (qm_x_iload rfl) ?_
      refine qm_G.cs rfl rfl rfl ?_
      refine qm_v_bes (by omega) (by omega) (by omega) (fun w8 c9 => ⟨_, rfl, ?_⟩)
      have c9r : 0 ≤ w8 ∧ w8 ≤ 1000 := by rw [c9]; exact qm_bes_rng (by omega)
      refine qm_G.s1 rfl (qm_x_istore (lv' := [(4, qm_I (qm_i w8)), (6, qm_R (some (0, q3, 0))), (0, qm_R (some (0, 2, 0))), (1, qm_I (qm_i sd)), (2, qm_I (qm_i d)), (3, qm_I (qm_i g)), (5, qm_I (qm_i 2))]) rfl) ?_
      refine qm_G.sp (lv1 := [(0, qm_R (some (0, 2, 0))), (1, qm_I (qm_i sd)), (2, qm_I (qm_i d)), (3, qm_I (qm_i g)), (4, qm_I (qm_i w8)), (5, qm_I (qm_i 2))]) rfl rfl (qm_x_iinc (lv' := [(5, qm_I (qm_i (2 + 1))), (0, qm_R (some (0, 2, 0))), (1, qm_I (qm_i sd)), (2, qm_I (qm_i d)), (3, qm_I (qm_i g)), (4, qm_I (qm_i w8))]) 1 rfl rfl rfl) ?_
      refine qm_G.s1 rfl (qm_x_goto) ?_
      refine qm_G.pk (lv1 := [(0, qm_R (some (0, 2, 0))), (1, qm_I (qm_i sd)), (2, qm_I (qm_i d)), (3, qm_I (qm_i g)), (4, qm_I (qm_i w8)), (5, qm_I (qm_i (2 + 1)))]) rfl rfl rfl ?_
      have e8 : J 8 1 2 = J 62 0 52 := by omega
      exact k _ (by unfold qm_plc; rw [if_neg (show ¬ (g / 4 % 2 = 1) by omega), if_neg (show ¬ (J 62 0 52 < 0) by omega), c9, c7, e8])
  · refine qm_G.s1 rfl (qm_x_if_eq_t ⟨by decide, by decide⟩ (by decide)) ?_
    refine qm_G.sp (lv1 := []) rfl rfl (qm_x_push) ?_
    refine qm_G.ret rfl rfl ⟨_, rfl, ?_⟩
    refine qm_G.s1 rfl (qm_x_astore (lv' := [(6, qm_R (none)), (0, qm_R (some (0, 2, 0))), (1, qm_I (qm_i sd)), (2, qm_I (qm_i d)), (3, qm_I (qm_i g)), (4, qm_I (qm_i c)), (5, qm_I (qm_i 2))]) rfl) ?_
    refine qm_G.s1 rfl (qm_x_aload rfl) ?_
    refine qm_G.s1 rfl (qm_x_ifnull0) ?_
    refine qm_G.sp (lv1 := [(0, qm_R (some (0, 2, 0))), (1, qm_I (qm_i sd)), (2, qm_I (qm_i d)), (3, qm_I (qm_i g)), (4, qm_I (qm_i c)), (5, qm_I (qm_i 2))]) rfl rfl (qm_x_iinc (lv' := [(5, qm_I (qm_i (2 + 1))), (0, qm_R (some (0, 2, 0))), (1, qm_I (qm_i sd)), (2, qm_I (qm_i d)), (3, qm_I (qm_i g)), (4, qm_I (qm_i c))]) 1 rfl rfl rfl) ?_
    refine qm_G.s1 rfl (qm_x_goto) ?_
    refine qm_G.pk (lv1 := [(0, qm_R (some (0, 2, 0))), (1, qm_I (qm_i sd)), (2, qm_I (qm_i d)), (3, qm_I (qm_i g)), (4, qm_I (qm_i c)), (5, qm_I (qm_i (2 + 1)))]) rfl rfl rfl ?_
    exact k _ (by unfold qm_plc; rw [if_pos (by split <;> omega)])
theorem qm_d_lk0_3 {S : List qm_Sh} {J K : qm_J} {L : qm_Ct Int64} {D : qm_Ct UInt64} {R : qm_Ct (Option qm_Rf)} {X : Nat × (Nat → Int32)} {Q : Option qm_V → qm_Hp → Prop} {sd d g c : Int} (hS : qm_Sd S) (hR : qm_Rd R) (hM : qm_Mkn S J R) (hst : J 2 0 5 = 0) (r0 : 0 ≤ sd ∧ sd ≤ 1) (r1 : 0 ≤ d ∧ d ≤ 5) (r2 : 0 ≤ g ∧ g ≤ 15) (r3 : 0 ≤ c ∧ c ≤ 1000) (k : ∀ c9 : Int, c9 = qm_plc (J 62 0) sd d c (if g / 8 % 2 = 1 then -5 else J 62 0 53) → qm_G qm_P qm_P161 21 [(0, qm_R (some (0, 2, 0))), (1, qm_I (qm_i sd)), (2, qm_I (qm_i d)), (3, qm_I (qm_i g)), (4, qm_I (qm_i c9)), (5, qm_I (qm_i (3 + 1)))] [] (qm_H S J K L D R X) Q) : qm_G qm_P qm_P161 21 [(0, qm_R (some (0, 2, 0))), (1, qm_I (qm_i sd)), (2, qm_I (qm_i d)), (3, qm_I (qm_i g)), (4, qm_I (qm_i c)), (5, qm_I (qm_i 3))] [] (qm_H S J K L D R X) Q := by
  have f62_7 : 0 ≤ J 62 0 7 ∧ J 62 0 7 ≤ 8 := hM.rrc
  have f2_3 : J 2 0 3 = J 62 0 7 := hM.rc
  have f2_5 : J 2 0 5 = 0 := hst
  refine qm_G.sp (lv1 := [(0, qm_R (some (0, 2, 0))), (1, qm_I (qm_i sd)), (2, qm_I (qm_i d)), (3, qm_I (qm_i g)), (4, qm_I (qm_i c)), (5, qm_I (qm_i 3))]) rfl rfl (qm_x_iload rfl) ?_
  refine qm_G.s1 rfl (qm_x_pushI 4 rfl) ?_
  refine qm_G.s1 rfl (qm_x_icmp_ge_f ⟨by decide, by decide⟩ ⟨by decide, by decide⟩ (by decide)) ?_
  refine qm_G.s1 rfl (qm_x_aload rfl) ?_
  refine qm_G.s1 rfl (qm_x_aload rfl) ?_
  refine qm_G.s1 rfl (qm_x_getfR (q := (some (0, 8, 0))) (hS 2 rfl) (hR 2 4 8 rfl rfl)) ?_
  refine qm_G.s1 rfl (qm_x_aload rfl) ?_
  refine qm_G.s1 rfl (qm_x_getfI (v := 0) (hS 2 rfl) f2_5) ?_
  refine qm_G.s1 rfl (qm_x_aaldg (hS 8 rfl) rfl rfl (by decide) (by decide)) ?_
  refine qm_G.s1 rfl (qm_x_iload rfl) ?_
  have g1 : (J 8 1 3 = -1 ∧ J 62 0 53 = -5) ∨ (J 8 1 3 = J 62 0 53 ∧ 0 ≤ J 62 0 53 ∧ J 62 0 53 < J 62 0 7) := hM.dek 0 3 (by decide) (by decide)
  refine qm_G.s1 rfl (qm_x_iald (v := (J 8 1 3)) (qm_arS hS rfl rfl) rfl (by decide) (by decide) (by decide) rfl) ?_
  refine qm_G.cm rfl rfl (hS 2 rfl) rfl ?_
  refine qm_C.go (cd := qm_P93) (lv := [(0, qm_R (some (0, 2, 0))), (1, qm_I (qm_i (J 8 1 3)))]) rfl rfl ?_
  refine qm_G.s1 rfl (qm_x_iload rfl) ?_
  refine qm_G.s1 rfl (qm_x_pushI 0 rfl) ?_
  refine qm_G.s1 rfl (qm_x_aload rfl) ?_
  refine qm_G.s1 rfl (qm_x_getfI (v := (J 2 0 3)) (hS 2 rfl) rfl) ?_
  refine qm_G.s1 rfl (qm_x_pushI 1 rfl) ?_
  refine qm_G.s1 rfl (qm_x_isub) ?_
  refine qm_G.cs rfl rfl rfl ?_
  refine qm_v_within10 ⟨by omega, by omega⟩ ⟨by decide, by decide⟩ ⟨by omega, by omega⟩ (fun c2 => ⟨_, rfl, ?_⟩) (fun c2 => ⟨_, rfl, ?_⟩)
  · refine qm_G.s1 rfl (qm_x_if_eq_f ⟨by decide, by decide⟩ (by decide)) ?_
    refine qm_G.s1 rfl (qm_x_aload rfl) ?_
    refine qm_G.s1 rfl (qm_x_getfR (q := (some (0, 7, 0))) (hS 2 rfl) (hR 2 2 7 rfl rfl)) ?_
    refine qm_G.s1 rfl (qm_x_iload rfl) ?_
    obtain ⟨q3, g4r, g4h, g4s, g4a, g4b, g4c, g4x, g4y, g4z⟩ := hM.riv (Int.toNat (J 8 1 3)) (by omega) (by omega)
    refine qm_G.s1 rfl (qm_x_aaldr (q := (some (0, q3, 0))) (hS 7 rfl) rfl rfl (by omega) (by omega) g4r) ?_
    refine qm_G.s1 rfl (qm_x_goto) ?_
    refine qm_G.ret rfl rfl ⟨_, rfl, ?_⟩
    refine qm_G.s1 rfl (qm_x_astore (lv' := [(6, qm_R (some (0, q3, 0))), (0, qm_R (some (0, 2, 0))), (1, qm_I (qm_i sd)), (2, qm_I (qm_i d)), (3, qm_I (qm_i g)), (4, qm_I (qm_i c)), (5, qm_I (qm_i 3))]) rfl) ?_
    refine qm_G.s1 rfl (qm_x_aload rfl) ?_
    refine qm_G.s1 rfl (qm_x_ifnull1) ?_
    refine qm_G.s1 rfl (qm_x_iload rfl) ?_
    refine qm_G.s1 rfl (qm_x_iload rfl) ?_
    refine qm_G.s1 rfl (qm_x_ishr4 (p := 3) (v := (g / 8)) (by omega) (by decide) rfl (by omega)) ?_
    refine qm_G.s1 rfl (qm_x_pushI 1 rfl) ?_
    refine qm_G.s1 rfl (qm_x_iand1 (by omega)) ?_
    refine qm_y_if_ne rfl ⟨by omega, by omega⟩ (fun c5 => ?_) (fun c5 => ?_)
    · refine qm_G.sp (lv1 := [(0, qm_R (some (0, 2, 0))), (1, qm_I (qm_i sd)), (2, qm_I (qm_i d)), (3, qm_I (qm_i g)), (4, qm_I (qm_i c)), (5, qm_I (qm_i 3))]) rfl rfl (qm_x_iinc (lv' := [(5, qm_I (qm_i (3 + 1))), (0, qm_R (some (0, 2, 0))), (1, qm_I (qm_i sd)), (2, qm_I (qm_i d)), (3, qm_I (qm_i g)), (4, qm_I (qm_i c))]) 1 rfl rfl rfl) ?_
      refine qm_G.s1 rfl (qm_x_goto) ?_
      refine qm_G.pk (lv1 := [(0, qm_R (some (0, 2, 0))), (1, qm_I (qm_i sd)), (2, qm_I (qm_i d)), (3, qm_I (qm_i g)), (4, qm_I (qm_i c)), (5, qm_I (qm_i (3 + 1)))]) rfl rfl rfl ?_
      exact k _ (by unfold qm_plc; rw [if_pos (by split <;> omega)])
    · refine qm_G.s1 rfl (qm_x_iload rfl) ?_
      refine qm_G.s1 rfl (qm_x_aload rfl) ?_
      refine qm_G.s1 rfl (qm_x_iload rfl) ?_
      refine qm_G.s1 rfl (qm_x_iload rfl) ?_
      refine qm_G.cm rfl rfl g4s rfl ?_
      refine qm_v_dist g4s g4a g4b g4c g4x g4y g4z (by omega) (by omega) (fun w6 c7 => ⟨_, rfl, ?_⟩)
      have c7r : 0 ≤ w6 ∧ w6 ≤ 6 := by rw [c7]; exact qm_the_rng g4x g4y g4z (by omega)
      refine qm_G.s1 rfl (qm_x_iload rfl) ?_
      refine qm_G.cs rfl rfl rfl ?_
      refine qm_v_bes (by omega) (by omega) (by omega) (fun w8 c9 => ⟨_, rfl, ?_⟩)
      have c9r : 0 ≤ w8 ∧ w8 ≤ 1000 := by rw [c9]; exact qm_bes_rng (by omega)
      refine qm_G.s1 rfl (qm_x_istore (lv' := [(4, qm_I (qm_i w8)), (6, qm_R (some (0, q3, 0))), (0, qm_R (some (0, 2, 0))), (1, qm_I (qm_i sd)), (2, qm_I (qm_i d)), (3, qm_I (qm_i g)), (5, qm_I (qm_i 3))]) rfl) ?_
      refine qm_G.sp (lv1 := [(0, qm_R (some (0, 2, 0))), (1, qm_I (qm_i sd)), (2, qm_I (qm_i d)), (3, qm_I (qm_i g)), (4, qm_I (qm_i w8)), (5, qm_I (qm_i 3))]) rfl rfl (qm_x_iinc (lv' := [(5, qm_I (qm_i (3 + 1))), (0, qm_R (some (0, 2, 0))), (1, qm_I (qm_i sd)), (2, qm_I (qm_i d)), (3, qm_I (qm_i g)), (4, qm_I (qm_i w8))]) 1 rfl rfl rfl) ?_
      refine qm_G.s1 rfl (qm_x_goto) ?_
      refine qm_G.pk (lv1 := [(0, qm_R (some (0, 2, 0))), (1, qm_I (qm_i sd)), (2, qm_I (qm_i d)), (3, qm_I (qm_i g)), (4, qm_I (qm_i w8)), (5, qm_I (qm_i (3 + 1)))]) rfl rfl rfl ?_
      have e8 : J 8 1 3 = J 62 0 53 := by omega
      exact k _ (by unfold qm_plc; rw [if_neg (show ¬ (g / 8 % 2 = 1) by omega), if_neg (show ¬ (J 62 0 53 < 0) by omega), c9, c7, e8])
  · refine qm_G.s1 rfl (qm_x_if_eq_t ⟨by decide, by decide⟩ (by decide)) ?_
    refine qm_G.sp (lv1 := []) rfl rfl (qm_x_push) ?_
    refine qm_G.ret rfl rfl ⟨_, rfl, ?_⟩
    refine qm_G.s1 rfl (qm_x_astore (lv' := [(6, qm_R (none)), (0, qm_R (some (0, 2, 0))), (1, qm_I (qm_i sd)), (2, qm_I (qm_i d)), (3, qm_I (qm_i g)), (4, qm_I (qm_i c)), (5, qm_I (qm_i 3))]) rfl) ?_
    refine qm_G.s1 rfl (qm_x_aload rfl) ?_
    refine qm_G.s1 rfl (qm_x_ifnull0) ?_
    refine qm_G.sp (lv1 := [(0, qm_R (some (0, 2, 0))), (1, qm_I (qm_i sd)), (2, qm_I (qm_i d)), (3, qm_I (qm_i g)), (4, qm_I (qm_i c)), (5, qm_I (qm_i 3))]) rfl rfl (qm_x_iinc (lv' := [(5, qm_I (qm_i (3 + 1))), (0, qm_R (some (0, 2, 0))), (1, qm_I (qm_i sd)), (2, qm_I (qm_i d)), (3, qm_I (qm_i g)), (4, qm_I (qm_i c))]) 1 rfl rfl rfl) ?_
    refine qm_G.s1 rfl (qm_x_goto) ?_
    refine qm_G.pk (lv1 := [(0, qm_R (some (0, 2, 0))), (1, qm_I (qm_i sd)), (2, qm_I (qm_i d)), (3, qm_I (qm_i g)), (4, qm_I (qm_i c)), (5, qm_I (qm_i (3 + 1)))]) rfl rfl rfl ?_
    exact k _ (by unfold qm_plc; rw [if_pos (by split <;> omega)])
theorem qm_d_lk1_0 {S : List qm_Sh} {J K : qm_J} {L : qm_Ct Int64} {D : qm_Ct UInt64} {R : qm_Ct (Option qm_Rf)} {X : Nat × (Nat → Int32)} {Q : Option qm_V → qm_Hp → Prop} {sd d g c : Int} (hS : qm_Sd S) (hR : qm_Rd R) (hM : qm_Mkn S J R) (hst : J 2 0 5 = 1) (r0 : 0 ≤ sd ∧ sd ≤ 1) (r1 : 0 ≤ d ∧ d ≤ 5) (r2 : 0 ≤ g ∧ g ≤ 15) (r3 : 0 ≤ c ∧ c ≤ 1000) (k : ∀ c9 : Int, c9 = qm_plc (J 62 0) sd d c (if g % 2 = 1 then -5 else J 62 0 54) → qm_G qm_P qm_P161 21 [(0, qm_R (some (0, 2, 0))), (1, qm_I (qm_i sd)), (2, qm_I (qm_i d)), (3, qm_I (qm_i g)), (4, qm_I (qm_i c9)), (5, qm_I (qm_i (0 + 1)))] [] (qm_H S J K L D R X) Q) : qm_G qm_P qm_P161 21 [(0, qm_R (some (0, 2, 0))), (1, qm_I (qm_i sd)), (2, qm_I (qm_i d)), (3, qm_I (qm_i g)), (4, qm_I (qm_i c)), (5, qm_I (qm_i 0))] [] (qm_H S J K L D R X) Q := by
  have f62_7 : 0 ≤ J 62 0 7 ∧ J 62 0 7 ≤ 8 := hM.rrc
  have f2_3 : J 2 0 3 = J 62 0 7 := hM.rc
  have f2_5 : J 2 0 5 = 1 := hst
  refine qm_G.sp (lv1 := [(0, qm_R (some (0, 2, 0))), (1, qm_I (qm_i sd)), (2, qm_I (qm_i d)), (3, qm_I (qm_i g)), (4, qm_I (qm_i c)), (5, qm_I (qm_i 0))]) rfl rfl (qm_x_iload rfl) ?_
  refine qm_G.s1 rfl (qm_x_pushI 4 rfl) ?_
  refine qm_G.s1 rfl (qm_x_icmp_ge_f ⟨by decide, by decide⟩ ⟨by decide, by decide⟩ (by decide)) ?_
  refine qm_G.s1 rfl (qm_x_aload rfl) ?_
  refine qm_G.s1 rfl (qm_x_aload rfl) ?_
  refine qm_G.s1 rfl (qm_x_getfR (q := (some (0, 8, 0))) (hS 2 rfl) (hR 2 4 8 rfl rfl)) ?_
  refine qm_G.s1 rfl (qm_x_aload rfl) ?_
  refine qm_G.s1 rfl (qm_x_getfI (v := 1) (hS 2 rfl) f2_5) ?_
  refine qm_G.s1 rfl (qm_x_aaldg (hS 8 rfl) rfl rfl (by decide) (by decide)) ?_
  refine qm_G.s1 rfl (qm_x_iload rfl) ?_
  have g1 : (J 8 2 0 = -1 ∧ J 62 0 54 = -5) ∨ (J 8 2 0 = J 62 0 54 ∧ 0 ≤ J 62 0 54 ∧ J 62 0 54 < J 62 0 7) := hM.dek 1 0 (by decide) (by decide)
  refine qm_G.s1 rfl (qm_x_iald (v := (J 8 2 0)) (qm_arS hS rfl rfl) rfl (by decide) (by decide) (by decide) rfl) ?_
  refine qm_G.cm rfl rfl (hS 2 rfl) rfl ?_
  refine qm_C.go (cd := qm_P93) (lv := [(0, qm_R (some (0, 2, 0))), (1, qm_I (qm_i (J 8 2 0)))]) rfl rfl ?_
  refine qm_G.s1 rfl (qm_x_iload rfl) ?_
  refine qm_G.s1 rfl (qm_x_pushI 0 rfl) ?_
  refine qm_G.s1 rfl (qm_x_aload rfl) ?_
  refine qm_G.s1 rfl (qm_x_getfI (v := (J 2 0 3)) (hS 2 rfl) rfl) ?_
  refine qm_G.s1 rfl (qm_x_pushI 1 rfl) ?_
  refine qm_G.s1 rfl (qm_x_isub) ?_
  refine qm_G.cs rfl rfl rfl ?_
  refine qm_v_within10 ⟨by omega, by omega⟩ ⟨by decide, by decide⟩ ⟨by omega, by omega⟩ (fun c2 => ⟨_, rfl, ?_⟩) (fun c2 => ⟨_, rfl, ?_⟩)
  · refine qm_G.s1 rfl (qm_x_if_eq_f ⟨by decide, by decide⟩ (by decide)) ?_
    refine qm_G.s1 rfl (qm_x_aload rfl) ?_
    refine qm_G.s1 rfl (qm_x_getfR (q := (some (0, 7, 0))) (hS 2 rfl) (hR 2 2 7 rfl rfl)) ?_
    refine qm_G.s1 rfl (qm_x_iload rfl) ?_
    obtain ⟨q3, g4r, g4h, g4s, g4a, g4b, g4c, g4x, g4y, g4z⟩ := hM.riv (Int.toNat (J 8 2 0)) (by omega) (by omega)
    refine qm_G.s1 rfl (qm_x_aaldr (q := (some (0, q3, 0))) (hS 7 rfl) rfl rfl (by omega) (by omega) g4r) ?_
    refine qm_G.s1 rfl (qm_x_goto) ?_
    refine qm_G.ret rfl rfl ⟨_, rfl, ?_⟩
    refine qm_G.s1 rfl (qm_x_astore (lv' := [(6, qm_R (some (0, q3, 0))), (0, qm_R (some (0, 2, 0))), (1, qm_I (qm_i sd)), (2, qm_I (qm_i d)), (3, qm_I (qm_i g)), (4, qm_I (qm_i c)), (5, qm_I (qm_i 0))]) rfl) ?_
    refine qm_G.s1 rfl (qm_x_aload rfl) ?_
    refine qm_G.s1 rfl (qm_x_ifnull1) ?_
    refine qm_G.s1 rfl (qm_x_iload rfl) ?_
    refine qm_G.s1 rfl (qm_x_iload rfl) ?_
    refine qm_G.s1 rfl (qm_x_ishr4 (p := 0) (v := g) (by omega) (by decide) rfl (by omega)) ?_
    refine qm_G.s1 rfl (qm_x_pushI 1 rfl) ?_
    refine qm_G.s1 rfl (qm_x_iand1 (by omega)) ?_
    refine qm_y_if_ne rfl ⟨by omega, by omega⟩ (fun c5 => ?_) (fun c5 => ?_)
    · refine qm_G.sp (lv1 := [(0, qm_R (some (0, 2, 0))), (1, qm_I (qm_i sd)), (2, qm_I (qm_i d)), (3, qm_I (qm_i g)), (4, qm_I (qm_i c)), (5, qm_I (qm_i 0))]) rfl rfl (qm_x_iinc (lv' := [(5, qm_I (qm_i (0 + 1))), (0, qm_R (some (0, 2, 0))), (1, qm_I (qm_i sd)), (2, qm_I (qm_i d)), (3, qm_I (qm_i g)), (4, qm_I (qm_i c))]) 1 rfl rfl rfl) ?_
      refine qm_G.s1 rfl (qm_x_goto) ?_
      refine qm_G.pk (lv1 := [(0, qm_R (some (0, 2, 0))), (1, qm_I (qm_i sd)), (2, qm_I (qm_i d)), (3, qm_I (qm_i g)), (4, qm_I (qm_i c)), (5, qm_I (qm_i (0 + 1)))]) rfl rfl rfl ?_
      exact k _ (by unfold qm_plc; rw [if_pos (by split <;> omega)])
    · refine qm_G.s1 rfl (qm_x_iload rfl) ?_
      refine qm_G.s1 rfl (qm_x_aload rfl) ?_
      refine qm_G.s1 rfl (qm_x_iload rfl) ?_
      refine qm_G.s1 rfl (qm_x_iload rfl) ?_
      refine qm_G.cm rfl rfl g4s rfl ?_
      refine qm_v_dist g4s g4a g4b g4c g4x g4y g4z (by omega) (by omega) (fun w6 c7 => ⟨_, rfl, ?_⟩)
      have c7r : 0 ≤ w6 ∧ w6 ≤ 6 := by rw [c7]; exact qm_the_rng g4x g4y g4z (by omega)
      refine qm_G.s1 rfl (qm_x_iload rfl) ?_
      refine qm_G.cs rfl rfl rfl ?_
      refine qm_v_bes (by omega) (by omega) (by omega) (fun w8 c9 => ⟨_, rfl, ?_⟩)
      have c9r : 0 ≤ w8 ∧ w8 ≤ 1000 := by rw [c9]; exact qm_bes_rng (by omega)
      refine qm_G.s1 rfl (qm_x_istore (lv' := [(4, qm_I (qm_i w8)), (6, qm_R (some (0, q3, 0))), (0, qm_R (some (0, 2, 0))), (1, qm_I (qm_i sd)), (2, qm_I (qm_i d)), (3, qm_I (qm_i g)), (5, qm_I (qm_i 0))]) rfl) ?_
      refine qm_G.sp (lv1 := [(0, qm_R (some (0, 2, 0))), (1, qm_I (qm_i sd)), (2, qm_I (qm_i d)), (3, qm_I (qm_i g)), (4, qm_I (qm_i w8)), (5, qm_I (qm_i 0))]) rfl rfl (qm_x_iinc (lv' := [(5, qm_I (qm_i (0 + 1))), (0, qm_R (some (0, 2, 0))), (1, qm_I (qm_i sd)), (2, qm_I (qm_i d)), (3, qm_I (qm_i g)), (4, qm_I (qm_i w8))]) 1 rfl rfl rfl) ?_
      refine qm_G.s1 rfl (qm_x_goto) ?_
      refine qm_G.pk (lv1 := [(0, qm_R (some (0, 2, 0))), (1, qm_I (qm_i sd)), (2, qm_I (qm_i d)), (3, qm_I (qm_i g)), (4, qm_I (qm_i w8)), (5, qm_I (qm_i (0 + 1)))]) rfl rfl rfl ?_
      have e8 : J 8 2 0 = J 62 0 54 := by omega
      exact k _ (by unfold qm_plc; rw [if_neg (show ¬ (g % 2 = 1) by omega), if_neg (show ¬ (J 62 0 54 < 0) by omega), c9, c7, e8])
  · refine qm_G.s1 rfl (qm_x_if_eq_t ⟨by decide, by decide⟩ (by decide)) ?_
    refine qm_G.sp (lv1 := []) rfl rfl (qm_x_push) ?_
    refine qm_G.ret rfl rfl ⟨_, rfl, ?_⟩
    refine qm_G.s1 rfl (qm_x_astore (lv' := [(6, qm_R (none)), (0, qm_R (some (0, 2, 0))), (1, qm_I (qm_i sd)), (2, qm_I (qm_i d)), (3, qm_I (qm_i g)), (4, qm_I (qm_i c)), (5, qm_I (qm_i 0))]) rfl) ?_
    refine qm_G.s1 rfl (qm_x_aload rfl) ?_
    refine qm_G.s1 rfl (qm_x_ifnull0) ?_
    refine qm_G.sp (lv1 := [(0, qm_R (some (0, 2, 0))), (1, qm_I (qm_i sd)), (2, qm_I (qm_i d)), (3, qm_I (qm_i g)), (4, qm_I (qm_i c)), (5, qm_I (qm_i 0))]) rfl rfl (qm_x_iinc (lv' := [(5, qm_I (qm_i (0 + 1))), (0, qm_R (some (0, 2, 0))), (1, qm_I (qm_i sd)), (2, qm_I (qm_i d)), (3, qm_I (qm_i g)), (4, qm_I (qm_i c))]) 1 rfl rfl rfl) ?_
    refine qm_G.s1 rfl (qm_x_goto) ?_
    refine qm_G.pk (lv1 := [(0, qm_R (some (0, 2, 0))), (1, qm_I (qm_i sd)), (2, qm_I (qm_i d)), (3, qm_I (qm_i g)), (4, qm_I (qm_i c)), (5, qm_I (qm_i (0 + 1)))]) rfl rfl rfl ?_
    exact k _ (by unfold qm_plc; rw [if_pos (by split <;> omega)])
theorem qm_d_lk1_1 {S : List qm_Sh} {J K : qm_J} {L : qm_Ct Int64} {D : qm_Ct UInt64} {R : qm_Ct (Option qm_Rf)} {X : Nat × (Nat → Int32)} {Q : Option qm_V → qm_Hp → Prop} {sd d g c : Int} (hS : qm_Sd S) (hR : qm_Rd R) (hM : qm_Mkn S J R) (hst : J 2 0 5 = 1) (r0 : 0 ≤ sd ∧ sd ≤ 1) (r1 : 0 ≤ d ∧ d ≤ 5) (r2 : 0 ≤ g ∧ g ≤ 15) (r3 : 0 ≤ c ∧ c ≤ 1000) (k : ∀ c9 : Int, c9 = qm_plc (J 62 0) sd d c (if g / 2 % 2 = 1 then -5 else J 62 0 55) → qm_G qm_P qm_P161 21 [(0, qm_R (some (0, 2, 0))), (1, qm_I (qm_i sd)), (2, qm_I (qm_i d)), (3, qm_I (qm_i g)), (4, qm_I (qm_i c9)), (5, qm_I (qm_i (1 + 1)))] [] (qm_H S J K L D R X) Q) : qm_G qm_P qm_P161 21 [(0, qm_R (some (0, 2, 0))), (1, qm_I (qm_i sd)), (2, qm_I (qm_i d)), (3, qm_I (qm_i g)), (4, qm_I (qm_i c)), (5, qm_I (qm_i 1))] [] (qm_H S J K L D R X) Q := by
  have f62_7 : 0 ≤ J 62 0 7 ∧ J 62 0 7 ≤ 8 := hM.rrc
  have f2_3 : J 2 0 3 = J 62 0 7 := hM.rc
  have f2_5 : J 2 0 5 = 1 := hst
  refine qm_G.sp (lv1 := [(0, qm_R (some (0, 2, 0))), (1, qm_I (qm_i sd)), (2, qm_I (qm_i d)), (3, qm_I (qm_i g)), (4, qm_I (qm_i c)), (5, qm_I (qm_i 1))]) rfl rfl (qm_x_iload rfl) ?_
  refine qm_G.s1 rfl (qm_x_pushI 4 rfl) ?_
  refine qm_G.s1 rfl (qm_x_icmp_ge_f ⟨by decide, by decide⟩ ⟨by decide, by decide⟩ (by decide)) ?_
  refine qm_G.s1 rfl (qm_x_aload rfl) ?_
  refine qm_G.s1 rfl (qm_x_aload rfl) ?_
  refine qm_G.s1 rfl (qm_x_getfR (q := (some (0, 8, 0))) (hS 2 rfl) (hR 2 4 8 rfl rfl)) ?_
  refine qm_G.s1 rfl (qm_x_aload rfl) ?_
  refine qm_G.s1 rfl (qm_x_getfI (v := 1) (hS 2 rfl) f2_5) ?_
  refine qm_G.s1 rfl (qm_x_aaldg (hS 8 rfl) rfl rfl (by decide) (by decide)) ?_
  refine qm_G.s1 rfl (qm_x_iload rfl) ?_
  have g1 : (J 8 2 1 = -1 ∧ J 62 0 55 = -5) ∨ (J 8 2 1 = J 62 0 55 ∧ 0 ≤ J 62 0 55 ∧ J 62 0 55 < J 62 0 7) := hM.dek 1 1 (by decide) (by decide)
  refine qm_G.s1 rfl (qm_x_iald (v := (J 8 2 1)) (qm_arS hS rfl rfl) rfl (by decide) (by decide) (by decide) rfl) ?_
  refine qm_G.cm rfl rfl (hS 2 rfl) rfl ?_
  refine qm_C.go (cd := qm_P93) (lv := [(0, qm_R (some (0, 2, 0))), (1, qm_I (qm_i (J 8 2 1)))]) rfl rfl ?_
  refine qm_G.s1 rfl (qm_x_iload rfl) ?_
  refine qm_G.s1 rfl (qm_x_pushI 0 rfl) ?_
  refine qm_G.s1 rfl (qm_x_aload rfl) ?_
  refine qm_G.s1 rfl (qm_x_getfI (v := (J 2 0 3)) (hS 2 rfl) rfl) ?_
  refine qm_G.s1 rfl (qm_x_pushI 1 rfl) ?_
  refine qm_G.s1 rfl (qm_x_isub) ?_
  refine qm_G.cs rfl rfl rfl ?_
  refine qm_v_within10 ⟨by omega, by omega⟩ ⟨by decide, by decide⟩ ⟨by omega, by omega⟩ (fun c2 => ⟨_, rfl, ?_⟩) (fun c2 => ⟨_, rfl, ?_⟩)
  · refine qm_G.s1 rfl (qm_x_if_eq_f ⟨by decide, by decide⟩ (by decide)) ?_
    refine qm_G.s1 rfl (qm_x_aload rfl) ?_
    refine qm_G.s1 rfl (qm_x_getfR (q := (some (0, 7, 0))) (hS 2 rfl) (hR 2 2 7 rfl rfl)) ?_
    refine qm_G.s1 rfl (qm_x_iload rfl) ?_
    obtain ⟨q3, g4r, g4h, g4s, g4a, g4b, g4c, g4x, g4y, g4z⟩ := hM.riv (Int.toNat (J 8 2 1)) (by omega) (by omega)
    refine qm_G.s1 rfl (qm_x_aaldr (q := (some (0, q3, 0))) (hS 7 rfl) rfl rfl (by omega) (by omega) g4r) ?_
    refine qm_G.s1 rfl (qm_x_goto) ?_
    refine qm_G.ret rfl rfl ⟨_, rfl, ?_⟩
    refine qm_G.s1 rfl (qm_x_astore (lv' := [(6, qm_R (some (0, q3, 0))), (0, qm_R (some (0, 2, 0))), (1, qm_I (qm_i sd)), (2, qm_I (qm_i d)), (3, qm_I (qm_i g)), (4, qm_I (qm_i c)), (5, qm_I (qm_i 1))]) rfl) ?_
    refine qm_G.s1 rfl (qm_x_aload rfl) ?_
    refine qm_G.s1 rfl (qm_x_ifnull1) ?_
    refine qm_G.s1 rfl (qm_x_iload rfl) ?_
    refine qm_G.s1 rfl (qm_x_iload rfl) ?_
    refine qm_G.s1 rfl (qm_x_ishr4 (p := 1) (v := (g / 2)) (by omega) (by decide) rfl (by omega)) ?_
    refine qm_G.s1 rfl (qm_x_pushI 1 rfl) ?_
    refine qm_G.s1 rfl (qm_x_iand1 (by omega)) ?_
    refine qm_y_if_ne rfl ⟨by omega, by omega⟩ (fun c5 => ?_) (fun c5 => ?_)
    · refine qm_G.sp (lv1 := [(0, qm_R (some (0, 2, 0))), (1, qm_I (qm_i sd)), (2, qm_I (qm_i d)), (3, qm_I (qm_i g)), (4, qm_I (qm_i c)), (5, qm_I (qm_i 1))]) rfl rfl (qm_x_iinc (lv' := [(5, qm_I (qm_i (1 + 1))), (0, qm_R (some (0, 2, 0))), (1, qm_I (qm_i sd)), (2, qm_I (qm_i d)), (3, qm_I (qm_i g)), (4, qm_I (qm_i c))]) 1 rfl rfl rfl) ?_
      refine qm_G.s1 rfl (qm_x_goto) ?_
      refine qm_G.pk (lv1 := [(0, qm_R (some (0, 2, 0))), (1, qm_I (qm_i sd)), (2, qm_I (qm_i d)), (3, qm_I (qm_i g)), (4, qm_I (qm_i c)), (5, qm_I (qm_i (1 + 1)))]) rfl rfl rfl ?_
      exact k _ (by unfold qm_plc; rw [if_pos (by split <;> omega)])
    · refine qm_G.s1 rfl (qm_x_iload rfl) ?_
      refine qm_G.s1 rfl (qm_x_aload rfl) ?_
      refine qm_G.s1 rfl (qm_x_iload rfl) ?_
      refine qm_G.s1 rfl (qm_x_iload rfl) ?_
      refine qm_G.cm rfl rfl g4s rfl ?_
      refine qm_v_dist g4s g4a g4b g4c g4x g4y g4z (by omega) (by omega) (fun w6 c7 => ⟨_, rfl, ?_⟩)
      have c7r : 0 ≤ w6 ∧ w6 ≤ 6 := by rw [c7]; exact qm_the_rng g4x g4y g4z (by omega)
      refine qm_G.s1 rfl (qm_x_iload rfl) ?_
      refine qm_G.cs rfl rfl rfl ?_
      refine qm_v_bes (by omega) (by omega) (by omega) (fun w8 c9 => ⟨_, rfl, ?_⟩)
      have c9r : 0 ≤ w8 ∧ w8 ≤ 1000 := by rw [c9]; exact qm_bes_rng (by omega)
      refine qm_G.s1 rfl (qm_x_istore (lv' := [(4, qm_I (qm_i w8)), (6, qm_R (some (0, q3, 0))), (0, qm_R (some (0, 2, 0))), (1, qm_I (qm_i sd)), (2, qm_I (qm_i d)), (3, qm_I (qm_i g)), (5, qm_I (qm_i 1))]) rfl) ?_
      refine qm_G.sp (lv1 := [(0, qm_R (some (0, 2, 0))), (1, qm_I (qm_i sd)), (2, qm_I (qm_i d)), (3, qm_I (qm_i g)), (4, qm_I (qm_i w8)), (5, qm_I (qm_i 1))]) rfl rfl (qm_x_iinc (lv' := [(5, qm_I (qm_i (1 + 1))), (0, qm_R (some (0, 2, 0))), (1, qm_I (qm_i sd)), (2, qm_I (qm_i d)), (3, qm_I (qm_i g)), (4, qm_I (qm_i w8))]) 1 rfl rfl rfl) ?_
      refine qm_G.s1 rfl (qm_x_goto) ?_
      refine qm_G.pk (lv1 := [(0, qm_R (some (0, 2, 0))), (1, qm_I (qm_i sd)), (2, qm_I (qm_i d)), (3, qm_I (qm_i g)), (4, qm_I (qm_i w8)), (5, qm_I (qm_i (1 + 1)))]) rfl rfl rfl ?_
      have e8 : J 8 2 1 = J 62 0 55 := by omega
      exact k _ (by unfold qm_plc; rw [if_neg (show ¬ (g / 2 % 2 = 1) by omega), if_neg (show ¬ (J 62 0 55 < 0) by omega), c9, c7, e8])
  · refine qm_G.s1 rfl (qm_x_if_eq_t ⟨by decide, by decide⟩ (by decide)) ?_
    refine qm_G.sp (lv1 := []) rfl rfl (qm_x_push) ?_
    refine qm_G.ret rfl rfl ⟨_, rfl, ?_⟩
    refine qm_G.s1 rfl (qm_x_astore (lv' := [(6, qm_R (none)), (0, qm_R (some (0, 2, 0))), (1, qm_I (qm_i sd)), (2, qm_I (qm_i d)), (3, qm_I (qm_i g)), (4, qm_I (qm_i c)), (5, qm_I (qm_i 1))]) rfl) ?_
    refine qm_G.s1 rfl (qm_x_aload rfl) ?_
    refine qm_G.s1 rfl (qm_x_ifnull0) ?_
    refine qm_G.sp (lv1 := [(0, qm_R (some (0, 2, 0))), (1, qm_I (qm_i sd)), (2, qm_I (qm_i d)), (3, qm_I (qm_i g)), (4, qm_I (qm_i c)), (5, qm_I (qm_i 1))]) rfl rfl (qm_x_iinc (lv' := [(5, qm_I (qm_i (1 + 1))), (0, qm_R (some (0, 2, 0))), (1, qm_I (qm_i sd)), (2, qm_I (qm_i d)), (3, qm_I (qm_i g)), (4, qm_I (qm_i c))]) 1 rfl rfl rfl) ?_
    refine qm_G.s1 rfl (qm_x_goto) ?_
    refine qm_G.pk (lv1 := [(0, qm_R (some (0, 2, 0))), (1, qm_I (qm_i sd)), (2, qm_I (qm_i d)), (3, qm_I (qm_i g)), (4, qm_I (qm_i c)), (5, qm_I (qm_i (1 + 1)))]) rfl rfl rfl ?_
    exact k _ (by unfold qm_plc; rw [if_pos (by split <;> omega)])
theorem qm_d_lk1_2 {S : List qm_Sh} {J K : qm_J} {L : qm_Ct Int64} {D : qm_Ct UInt64} {R : qm_Ct (Option qm_Rf)} {X : Nat × (Nat → Int32)} {Q : Option qm_V → qm_Hp → Prop} {sd d g c : Int} (hS : qm_Sd S) (hR : qm_Rd R) (hM : qm_Mkn S J R) (hst : J 2 0 5 = 1) (r0 : 0 ≤ sd ∧ sd ≤ 1) (r1 : 0 ≤ d ∧ d ≤ 5) (r2 : 0 ≤ g ∧ g ≤ 15) (r3 : 0 ≤ c ∧ c ≤ 1000) (k : ∀ c9 : Int, c9 = qm_plc (J 62 0) sd d c (if g / 4 % 2 = 1 then -5 else J 62 0 56) → qm_G qm_P qm_P161 21 [(0, qm_R (some (0, 2, 0))), (1, qm_I (qm_i sd)), (2, qm_I (qm_i d)), (3, qm_I (qm_i g)), (4, qm_I (qm_i c9)), (5, qm_I (qm_i (2 + 1)))] [] (qm_H S J K L D R X) Q) : qm_G qm_P qm_P161 21 [(0, qm_R (some (0, 2, 0))), (1, qm_I (qm_i sd)), (2, qm_I (qm_i d)), (3, qm_I (qm_i g)), (4, qm_I (qm_i c)), (5, qm_I (qm_i 2))] [] (qm_H S J K L D R X) Q := by
  have f62_7 : 0 ≤ J 62 0 7 ∧ J 62 0 7 ≤ 8 := hM.rrc
  have f2_3 : J 2 0 3 = J 62 0 7 := hM.rc
  have f2_5 : J 2 0 5 = 1 := hst
  refine qm_G.sp (lv1 := [(0, qm_R (some (0, 2, 0))), (1, qm_I (qm_i sd)), (2, qm_I (qm_i d)), (3, qm_I (qm_i g)), (4, qm_I (qm_i c)), (5, qm_I (qm_i 2))]) rfl rfl (qm_x_iload rfl) ?_
  refine qm_G.s1 rfl (qm_x_pushI 4 rfl) ?_
  refine qm_G.s1 rfl (qm_x_icmp_ge_f ⟨by decide, by decide⟩ ⟨by decide, by decide⟩ (by decide)) ?_
  refine qm_G.s1 rfl (qm_x_aload rfl) ?_
  refine qm_G.s1 rfl (qm_x_aload rfl) ?_
  refine qm_G.s1 rfl (qm_x_getfR (q := (some (0, 8, 0))) (hS 2 rfl) (hR 2 4 8 rfl rfl)) ?_
  refine qm_G.s1 rfl (qm_x_aload rfl) ?_
  refine qm_G.s1 rfl (qm_x_getfI (v := 1) (hS 2 rfl) f2_5) ?_
  refine qm_G.s1 rfl (qm_x_aaldg (hS 8 rfl) rfl rfl (by decide) (by decide)) ?_
  refine qm_G.s1 rfl (qm_x_iload rfl) ?_
  have g1 : (J 8 2 2 = -1 ∧ J 62 0 56 = -5) ∨ (J 8 2 2 = J 62 0 56 ∧ 0 ≤ J 62 0 56 ∧ J 62 0 56 < J 62 0 7) := hM.dek 1 2 (by decide) (by decide)
  refine qm_G.s1 rfl (qm_x_iald (v := (J 8 2 2)) (qm_arS hS rfl rfl) rfl (by decide) (by decide) (by decide) rfl) ?_
  refine qm_G.cm rfl rfl (hS 2 rfl) rfl ?_
  refine qm_C.go (cd := qm_P93) (lv := [(0, qm_R (some (0, 2, 0))), (1, qm_I (qm_i (J 8 2 2)))]) rfl rfl ?_
  refine qm_G.s1 rfl (qm_x_iload rfl) ?_
  refine qm_G.s1 rfl (qm_x_pushI 0 rfl) ?_
  refine qm_G.s1 rfl (qm_x_aload rfl) ?_
  refine qm_G.s1 rfl (qm_x_getfI (v := (J 2 0 3)) (hS 2 rfl) rfl) ?_
  refine qm_G.s1 rfl (qm_x_pushI 1 rfl) ?_
  refine qm_G.s1 rfl (qm_x_isub) ?_
  refine qm_G.cs rfl rfl rfl ?_
  refine qm_v_within10 ⟨by omega, by omega⟩ ⟨by decide, by decide⟩ ⟨by omega, by omega⟩ (fun c2 => ⟨_, rfl, ?_⟩) (fun c2 => ⟨_, rfl, ?_⟩)
  · refine qm_G.s1 rfl (qm_x_if_eq_f ⟨by decide, by decide⟩ (by decide)) ?_
    refine qm_G.s1 rfl (qm_x_aload rfl) ?_
    refine qm_G.s1 rfl (qm_x_getfR (q := (some (0, 7, 0))) (hS 2 rfl) (hR 2 2 7 rfl rfl)) ?_
    refine qm_G.s1 rfl (qm_x_iload rfl) ?_
    obtain ⟨q3, g4r, g4h, g4s, g4a, g4b, g4c, g4x, g4y, g4z⟩ := hM.riv (Int.toNat (J 8 2 2)) (by omega) (by omega)
    refine qm_G.s1 rfl (qm_x_aaldr (q := (some (0, q3, 0))) (hS 7 rfl) rfl rfl (by omega) (by omega) g4r) ?_
    refine qm_G.s1 rfl (qm_x_goto) ?_
    refine qm_G.ret rfl rfl ⟨_, rfl, ?_⟩
    refine qm_G.s1 rfl (qm_x_astore (lv' := [(6, qm_R (some (0, q3, 0))), (0, qm_R (some (0, 2, 0))), (1, qm_I (qm_i sd)), (2, qm_I (qm_i d)), (3, qm_I (qm_i g)), (4, qm_I (qm_i c)), (5, qm_I (qm_i 2))]) rfl) ?_
    refine qm_G.s1 rfl (qm_x_aload rfl) ?_
    refine qm_G.s1 rfl (qm_x_ifnull1) ?_
    refine qm_G.s1 rfl (qm_x_iload rfl) ?_
    refine qm_G.s1 rfl (qm_x_iload rfl) ?_
    refine qm_G.s1 rfl (qm_x_ishr4 (p := 2) (v := (g / 4)) (by omega) (by decide) rfl (by omega)) ?_
    refine qm_G.s1 rfl (qm_x_pushI 1 rfl) ?_
    refine qm_G.s1 rfl (qm_x_iand1 (by omega)) ?_
    refine qm_y_if_ne rfl ⟨by omega, by omega⟩ (fun c5 => ?_) (fun c5 => ?_)
    · refine qm_G.sp (lv1 := [(0, qm_R (some (0, 2, 0))), (1, qm_I (qm_i sd)), (2, qm_I (qm_i d)), (3, qm_I (qm_i g)), (4, qm_I (qm_i c)), (5, qm_I (qm_i 2))]) rfl rfl (qm_x_iinc (lv' := [(5, qm_I (qm_i (2 + 1))), (0, qm_R (some (0, 2, 0))), (1, qm_I (qm_i sd)), (2, qm_I (qm_i d)), (3, qm_I (qm_i g)), (4, qm_I (qm_i c))]) 1 rfl rfl rfl) ?_
      refine qm_G.s1 rfl (qm_x_goto) ?_
      refine qm_G.pk (lv1 := [(0, qm_R (some (0, 2, 0))), (1, qm_I (qm_i sd)), (2, qm_I (qm_i d)), (3, qm_I (qm_i g)), (4, qm_I (qm_i c)), (5, qm_I (qm_i (2 + 1)))]) rfl rfl rfl ?_
      exact k _ (by unfold qm_plc; rw [if_pos (by split <;> omega)])
    · refine qm_G.s1 rfl (qm_x_iload rfl) ?_
      refine qm_G.s1 rfl (qm_x_aload rfl) ?_
      refine qm_G.s1 rfl (qm_x_iload rfl) ?_
      refine qm_G.s1 rfl (qm_x_iload rfl) ?_
      refine qm_G.cm rfl rfl g4s rfl ?_
      refine qm_v_dist g4s g4a g4b g4c g4x g4y g4z (by omega) (by omega) (fun w6 c7 => ⟨_, rfl, ?_⟩)
      have c7r : 0 ≤ w6 ∧ w6 ≤ 6 := by rw [c7]; exact qm_the_rng g4x g4y g4z (by omega)
      refine qm_G.s1 rfl (qm_x_iload rfl) ?_
      refine qm_G.cs rfl rfl rfl ?_
      refine qm_v_bes (by omega) (by omega) (by omega) (fun w8 c9 => ⟨_, rfl, ?_⟩)
      have c9r : 0 ≤ w8 ∧ w8 ≤ 1000 := by rw [c9]; exact qm_bes_rng (by omega)
      refine qm_G.s1 rfl (qm_x_istore (lv' := [(4, qm_I (qm_i w8)), (6, qm_R (some (0, q3, 0))), (0, qm_R (some (0, 2, 0))), (1, qm_I (qm_i sd)), (2, qm_I (qm_i d)), (3, qm_I (qm_i g)), (5, qm_I (qm_i 2))]) rfl) ?_
      refine qm_G.sp (lv1 := [(0, qm_R (some (0, 2, 0))), (1, qm_I (qm_i sd)), (2, qm_I (qm_i d)), (3, qm_I (qm_i g)), (4, qm_I (qm_i w8)), (5, qm_I (qm_i 2))]) rfl rfl (qm_x_iinc (lv' := [(5, qm_I (qm_i (2 + 1))), (0, qm_R (some (0, 2, 0))), (1, qm_I (qm_i sd)), (2, qm_I (qm_i d)), (3, qm_I (qm_i g)), (4, qm_I (qm_i w8))]) 1 rfl rfl rfl) ?_
      refine qm_G.s1 rfl (qm_x_goto) ?_
      refine qm_G.pk (lv1 := [(0, qm_R (some (0, 2, 0))), (1, qm_I (qm_i sd)), (2, qm_I (qm_i d)), (3, qm_I (qm_i g)), (4, qm_I (qm_i w8)), (5, qm_I (qm_i (2 + 1)))]) rfl rfl rfl ?_
      have e8 : J 8 2 2 = J 62 0 56 := by omega
      exact k _ (by unfold qm_plc; rw [if_neg (show ¬ (g / 4 % 2 = 1) by omega), if_neg (show ¬ (J 62 0 56 < 0) by omega), c9, c7, e8])
  · refine qm_G.s1 rfl (qm_x_if_eq_t ⟨by decide, by decide⟩ (by decide)) ?_
    refine qm_G.sp (lv1 := []) rfl rfl (qm_x_push) ?_
    refine qm_G.ret rfl rfl ⟨_, rfl, ?_⟩
    refine qm_G.s1 rfl (qm_x_astore (lv' := [(6, qm_R (none)), (0, qm_R (some (0, 2, 0))), (1, qm_I (qm_i sd)), (2, qm_I (qm_i d)), (3, qm_I (qm_i g)), (4, qm_I (qm_i c)), (5, qm_I (qm_i 2))]) rfl) ?_
    refine qm_G.s1 rfl (qm_x_aload rfl) ?_
    refine qm_G.s1 rfl (qm_x_ifnull0) ?_
    refine qm_G.sp (lv1 := [(0, qm_R (some (0, 2, 0))), (1, qm_I (qm_i sd)), (2, qm_I (qm_i d)), (3, qm_I (qm_i g)), (4, qm_I (qm_i c)), (5, qm_I (qm_i 2))]) rfl rfl (qm_x_iinc (lv' := [(5, qm_I (qm_i (2 + 1))), (0, qm_R (some (0, 2, 0))), (1, qm_I (qm_i sd)), (2, qm_I (qm_i d)), (3, qm_I (qm_i g)), (4, qm_I (qm_i c))]) 1 rfl rfl rfl) ?_
    refine qm_G.s1 rfl (qm_x_goto) ?_
    refine qm_G.pk (lv1 := [(0, qm_R (some (0, 2, 0))), (1, qm_I (qm_i sd)), (2, qm_I (qm_i d)), (3, qm_I (qm_i g)), (4, qm_I (qm_i c)), (5, qm_I (qm_i (2 + 1)))]) rfl rfl rfl ?_
    exact k _ (by unfold qm_plc; rw [if_pos (by split <;> omega)])
theorem qm_d_lk1_3 {S : List qm_Sh} {J K : qm_J} {L : qm_Ct Int64} {D : qm_Ct UInt64} {R : qm_Ct (Option qm_Rf)} {X : Nat × (Nat → Int32)} {Q : Option qm_V → qm_Hp → Prop} {sd d g c : Int} (hS : qm_Sd S) (hR : qm_Rd R) (hM : qm_Mkn S J R) (hst : J 2 0 5 = 1) (r0 : 0 ≤ sd ∧ sd ≤ 1) (r1 : 0 ≤ d ∧ d ≤ 5) (r2 : 0 ≤ g ∧ g ≤ 15) (r3 : 0 ≤ c ∧ c ≤ 1000) (k : ∀ c9 : Int, c9 = qm_plc (J 62 0) sd d c (if g / 8 % 2 = 1 then -5 else J 62 0 57) → qm_G qm_P qm_P161 21 [(0, qm_R (some (0, 2, 0))), (1, qm_I (qm_i sd)), (2, qm_I (qm_i d)), (3, qm_I (qm_i g)), (4, qm_I (qm_i c9)), (5, qm_I (qm_i (3 + 1)))] [] (qm_H S J K L D R X) Q) : qm_G qm_P qm_P161 21 [(0, qm_R (some (0, 2, 0))), (1, qm_I (qm_i sd)), (2, qm_I (qm_i d)), (3, qm_I (qm_i g)), (4, qm_I (qm_i c)), (5, qm_I (qm_i 3))] [] (qm_H S J K L D R X) Q := by
  have f62_7 : 0 ≤ J 62 0 7 ∧ J 62 0 7 ≤ 8 := hM.rrc
  have f2_3 : J 2 0 3 = J 62 0 7 := hM.rc
  have f2_5 : J 2 0 5 = 1 := hst
  refine qm_G.sp (lv1 := [(0, qm_R (some (0, 2, 0))), (1, qm_I (qm_i sd)), (2, qm_I (qm_i d)), (3, qm_I (qm_i g)), (4, qm_I (qm_i c)), (5, qm_I (qm_i 3))]) rfl rfl (qm_x_iload rfl) ?_
  refine qm_G.s1 rfl (qm_x_pushI 4 rfl) ?_
  refine qm_G.s1 rfl (qm_x_icmp_ge_f ⟨by decide, by decide⟩ ⟨by decide, by decide⟩ (by decide)) ?_
  refine qm_G.s1 rfl (qm_x_aload rfl) ?_
  refine qm_G.s1 rfl (qm_x_aload rfl) ?_
  refine qm_G.s1 rfl (qm_x_getfR (q := (some (0, 8, 0))) (hS 2 rfl) (hR 2 4 8 rfl rfl)) ?_
  refine qm_G.s1 rfl (qm_x_aload rfl) ?_
  refine qm_G.s1 rfl (qm_x_getfI (v := 1) (hS 2 rfl) f2_5) ?_
  refine qm_G.s1 rfl (qm_x_aaldg (hS 8 rfl) rfl rfl (by decide) (by decide)) ?_
  refine qm_G.s1 rfl (qm_x_iload rfl) ?_
  have g1 : (J 8 2 3 = -1 ∧ J 62 0 57 = -5) ∨ (J 8 2 3 = J 62 0 57 ∧ 0 ≤ J 62 0 57 ∧ J 62 0 57 < J 62 0 7) := hM.dek 1 3 (by decide) (by decide)
  refine qm_G.s1 rfl (qm_x_iald (v := (J 8 2 3)) (qm_arS hS rfl rfl) rfl (by decide) (by decide) (by decide) rfl) ?_
  refine qm_G.cm rfl rfl (hS 2 rfl) rfl ?_
  refine qm_C.go (cd := qm_P93) (lv := [(0, qm_R (some (0, 2, 0))), (1, qm_I (qm_i (J 8 2 3)))]) rfl rfl ?_
  refine qm_G.s1 rfl (qm_x_iload rfl) ?_
  refine qm_G.s1 rfl (qm_x_pushI 0 rfl) ?_
  refine qm_G.s1 rfl (qm_x_aload rfl) ?_
  refine qm_G.s1 rfl (qm_x_getfI (v := (J 2 0 3)) (hS 2 rfl) rfl) ?_
  refine qm_G.s1 rfl (qm_x_pushI 1 rfl) ?_
  refine qm_G.s1 rfl (qm_x_isub) ?_
  refine qm_G.cs rfl rfl rfl ?_
  refine qm_v_within10 ⟨by omega, by omega⟩ ⟨by decide, by decide⟩ ⟨by omega, by omega⟩ (fun c2 => ⟨_, rfl, ?_⟩) (fun c2 => ⟨_, rfl, ?_⟩)
  · refine qm_G.s1 rfl (qm_x_if_eq_f ⟨by decide, by decide⟩ (by decide)) ?_
    refine qm_G.s1 rfl (qm_x_aload rfl) ?_
    refine qm_G.s1 rfl (qm_x_getfR (q := (some (0, 7, 0))) (hS 2 rfl) (hR 2 2 7 rfl rfl)) ?_
    refine qm_G.s1 rfl (qm_x_iload rfl) ?_
    obtain ⟨q3, g4r, g4h, g4s, g4a, g4b, g4c, g4x, g4y, g4z⟩ := hM.riv (Int.toNat (J 8 2 3)) (by omega) (by omega)
    refine qm_G.s1 rfl (qm_x_aaldr (q := (some (0, q3, 0))) (hS 7 rfl) rfl rfl (by omega) (by omega) g4r) ?_
    refine qm_G.s1 rfl (qm_x_goto) ?_
    refine qm_G.ret rfl rfl ⟨_, rfl, ?_⟩
    refine qm_G.s1 rfl (qm_x_astore (lv' := [(6, qm_R (some (0, q3, 0))), (0, qm_R (some (0, 2, 0))), (1, qm_I (qm_i sd)), (2, qm_I (qm_i d)), (3, qm_I (qm_i g)), (4, qm_I (qm_i c)), (5, qm_I (qm_i 3))]) rfl) ?_
    refine qm_G.s1 rfl (qm_x_aload rfl) ?_
    refine qm_G.s1 rfl (qm_x_ifnull1) ?_
    refine qm_G.s1 rfl (qm_x_iload rfl) ?_
    refine qm_G.s1 rfl (qm_x_iload rfl) ?_
    refine qm_G.s1 rfl (qm_x_ishr4 (p := 3) (v := (g / 8)) (by omega) (by decide) rfl (by omega)) ?_
    refine qm_G.s1 rfl (qm_x_pushI 1 rfl) ?_
    refine qm_G.s1 rfl (qm_x_iand1 (by omega)) ?_
    refine qm_y_if_ne rfl ⟨by omega, by omega⟩ (fun c5 => ?_) (fun c5 => ?_)
    · refine qm_G.sp (lv1 := [(0, qm_R (some (0, 2, 0))), (1, qm_I (qm_i sd)), (2, qm_I (qm_i d)), (3, qm_I (qm_i g)), (4, qm_I (qm_i c)), (5, qm_I (qm_i 3))]) rfl rfl (qm_x_iinc (lv' := [(5, qm_I (qm_i (3 + 1))), (0, qm_R (some (0, 2, 0))), (1, qm_I (qm_i sd)), (2, qm_I (qm_i d)), (3, qm_I (qm_i g)), (4, qm_I (qm_i c))]) 1 rfl rfl rfl) ?_
      refine qm_G.s1 rfl (qm_x_goto) ?_
      refine qm_G.pk (lv1 := [(0, qm_R (some (0, 2, 0))), (1, qm_I (qm_i sd)), (2, qm_I (qm_i d)), (3, qm_I (qm_i g)), (4, qm_I (qm_i c)), (5, qm_I (qm_i (3 + 1)))]) rfl rfl rfl ?_
      exact k _ (by unfold qm_plc; rw [if_pos (by split <;> omega)])
    · refine qm_G.s1 rfl (qm_x_iload rfl) ?_
      refine qm_G.s1 rfl (qm_x_aload rfl) ?_
      refine qm_G.s1 rfl (qm_x_iload rfl) ?_
      refine qm_G.s1 rfl (qm_x_iload rfl) ?_
      refine qm_G.cm rfl rfl g4s rfl ?_
      refine qm_v_dist g4s g4a g4b g4c g4x g4y g4z (by omega) (by omega) (fun w6 c7 => ⟨_, rfl, ?_⟩)
      have c7r : 0 ≤ w6 ∧ w6 ≤ 6 := by rw [c7]; exact qm_the_rng g4x g4y g4z (by omega)
      refine qm_G.s1 rfl (qm_x_iload rfl) ?_
      refine qm_G.cs rfl rfl rfl ?_
      refine qm_v_bes (by omega) (by omega) (by omega) (fun w8 c9 => ⟨_, rfl, ?_⟩)
      have c9r : 0 ≤ w8 ∧ w8 ≤ 1000 := by rw [c9]; exact qm_bes_rng (by omega)
      refine qm_G.s1 rfl (qm_x_istore (lv' := [(4, qm_I (qm_i w8)), (6, qm_R (some (0, q3, 0))), (0, qm_R (some (0, 2, 0))), (1, qm_I (qm_i sd)), (2, qm_I (qm_i d)), (3, qm_I (qm_i g)), (5, qm_I (qm_i 3))]) rfl) ?_
      refine qm_G.sp (lv1 := [(0, qm_R (some (0, 2, 0))), (1, qm_I (qm_i sd)), (2, qm_I (qm_i d)), (3, qm_I (qm_i g)), (4, qm_I (qm_i w8)), (5, qm_I (qm_i 3))]) rfl rfl (qm_x_iinc (lv' := [(5, qm_I (qm_i (3 + 1))), (0, qm_R (some (0, 2, 0))), (1, qm_I (qm_i sd)), (2, qm_I (qm_i d)), (3, qm_I (qm_i g)), (4, qm_I (qm_i w8))]) 1 rfl rfl rfl) ?_
      refine qm_G.s1 rfl (qm_x_goto) ?_
      refine qm_G.pk (lv1 := [(0, qm_R (some (0, 2, 0))), (1, qm_I (qm_i sd)), (2, qm_I (qm_i d)), (3, qm_I (qm_i g)), (4, qm_I (qm_i w8)), (5, qm_I (qm_i (3 + 1)))]) rfl rfl rfl ?_
      have e8 : J 8 2 3 = J 62 0 57 := by omega
      exact k _ (by unfold qm_plc; rw [if_neg (show ¬ (g / 8 % 2 = 1) by omega), if_neg (show ¬ (J 62 0 57 < 0) by omega), c9, c7, e8])
  · refine qm_G.s1 rfl (qm_x_if_eq_t ⟨by decide, by decide⟩ (by decide)) ?_
    refine qm_G.sp (lv1 := []) rfl rfl (qm_x_push) ?_
    refine qm_G.ret rfl rfl ⟨_, rfl, ?_⟩
    refine qm_G.s1 rfl (qm_x_astore (lv' := [(6, qm_R (none)), (0, qm_R (some (0, 2, 0))), (1, qm_I (qm_i sd)), (2, qm_I (qm_i d)), (3, qm_I (qm_i g)), (4, qm_I (qm_i c)), (5, qm_I (qm_i 3))]) rfl) ?_
    refine qm_G.s1 rfl (qm_x_aload rfl) ?_
    refine qm_G.s1 rfl (qm_x_ifnull0) ?_
    refine qm_G.sp (lv1 := [(0, qm_R (some (0, 2, 0))), (1, qm_I (qm_i sd)), (2, qm_I (qm_i d)), (3, qm_I (qm_i g)), (4, qm_I (qm_i c)), (5, qm_I (qm_i 3))]) rfl rfl (qm_x_iinc (lv' := [(5, qm_I (qm_i (3 + 1))), (0, qm_R (some (0, 2, 0))), (1, qm_I (qm_i sd)), (2, qm_I (qm_i d)), (3, qm_I (qm_i g)), (4, qm_I (qm_i c))]) 1 rfl rfl rfl) ?_
    refine qm_G.s1 rfl (qm_x_goto) ?_
    refine qm_G.pk (lv1 := [(0, qm_R (some (0, 2, 0))), (1, qm_I (qm_i sd)), (2, qm_I (qm_i d)), (3, qm_I (qm_i g)), (4, qm_I (qm_i c)), (5, qm_I (qm_i (3 + 1)))]) rfl rfl rfl ?_
    exact k _ (by unfold qm_plc; rw [if_pos (by split <;> omega)])
theorem qm_d_lk2_0 {S : List qm_Sh} {J K : qm_J} {L : qm_Ct Int64} {D : qm_Ct UInt64} {R : qm_Ct (Option qm_Rf)} {X : Nat × (Nat → Int32)} {Q : Option qm_V → qm_Hp → Prop} {sd d g c : Int} (hS : qm_Sd S) (hR : qm_Rd R) (hM : qm_Mkn S J R) (hst : J 2 0 5 = 2) (r0 : 0 ≤ sd ∧ sd ≤ 1) (r1 : 0 ≤ d ∧ d ≤ 5) (r2 : 0 ≤ g ∧ g ≤ 15) (r3 : 0 ≤ c ∧ c ≤ 1000) (k : ∀ c9 : Int, c9 = qm_plc (J 62 0) sd d c (if g % 2 = 1 then -5 else J 62 0 58) → qm_G qm_P qm_P161 21 [(0, qm_R (some (0, 2, 0))), (1, qm_I (qm_i sd)), (2, qm_I (qm_i d)), (3, qm_I (qm_i g)), (4, qm_I (qm_i c9)), (5, qm_I (qm_i (0 + 1)))] [] (qm_H S J K L D R X) Q) : qm_G qm_P qm_P161 21 [(0, qm_R (some (0, 2, 0))), (1, qm_I (qm_i sd)), (2, qm_I (qm_i d)), (3, qm_I (qm_i g)), (4, qm_I (qm_i c)), (5, qm_I (qm_i 0))] [] (qm_H S J K L D R X) Q := by
  have f62_7 : 0 ≤ J 62 0 7 ∧ J 62 0 7 ≤ 8 := hM.rrc
  have f2_3 : J 2 0 3 = J 62 0 7 := hM.rc
  have f2_5 : J 2 0 5 = 2 := hst
  refine qm_G.sp (lv1 := [(0, qm_R (some (0, 2, 0))), (1, qm_I (qm_i sd)), (2, qm_I (qm_i d)), (3, qm_I (qm_i g)), (4, qm_I (qm_i c)), (5, qm_I (qm_i 0))]) rfl rfl (qm_x_iload rfl) ?_
  refine qm_G.s1 rfl (qm_x_pushI 4 rfl) ?_
  refine qm_G.s1 rfl (qm_x_icmp_ge_f ⟨by decide, by decide⟩ ⟨by decide, by decide⟩ (by decide)) ?_
  refine qm_G.s1 rfl (qm_x_aload rfl) ?_
  refine qm_G.s1 rfl (qm_x_aload rfl) ?_
  refine qm_G.s1 rfl (qm_x_getfR (q := (some (0, 8, 0))) (hS 2 rfl) (hR 2 4 8 rfl rfl)) ?_
  refine qm_G.s1 rfl (qm_x_aload rfl) ?_
  refine qm_G.s1 rfl (qm_x_getfI (v := 2) (hS 2 rfl) f2_5) ?_
  refine qm_G.s1 rfl (qm_x_aaldg (hS 8 rfl) rfl rfl (by decide) (by decide)) ?_
  refine qm_G.s1 rfl (qm_x_iload rfl) ?_
  have g1 : (J 8 3 0 = -1 ∧ J 62 0 58 = -5) ∨ (J 8 3 0 = J 62 0 58 ∧ 0 ≤ J 62 0 58 ∧ J 62 0 58 < J 62 0 7) := hM.dek 2 0 (by decide) (by decide)
  refine qm_G.s1 rfl (qm_x_iald (v := (J 8 3 0)) (qm_arS hS rfl rfl) rfl (by decide) (by decide) (by decide) rfl) ?_
  refine qm_G.cm rfl rfl (hS 2 rfl) rfl ?_
  refine qm_C.go (cd := qm_P93) (lv := [(0, qm_R (some (0, 2, 0))), (1, qm_I (qm_i (J 8 3 0)))]) rfl rfl ?_
  refine qm_G.s1 rfl (qm_x_iload rfl) ?_
  refine qm_G.s1 rfl (qm_x_pushI 0 rfl) ?_
  refine qm_G.s1 rfl (qm_x_aload rfl) ?_
  refine qm_G.s1 rfl (qm_x_getfI (v := (J 2 0 3)) (hS 2 rfl) rfl) ?_
  refine qm_G.s1 rfl (qm_x_pushI 1 rfl) ?_
  refine qm_G.s1 rfl (qm_x_isub) ?_
  refine qm_G.cs rfl rfl rfl ?_
  refine qm_v_within10 ⟨by omega, by omega⟩ ⟨by decide, by decide⟩ ⟨by omega, by omega⟩ (fun c2 => ⟨_, rfl, ?_⟩) (fun c2 => ⟨_, rfl, ?_⟩)
  · refine qm_G.s1 rfl (qm_x_if_eq_f ⟨by decide, by decide⟩ (by decide)) ?_
    refine qm_G.s1 rfl (qm_x_aload rfl) ?_
    refine qm_G.s1 rfl (qm_x_getfR (q := (some (0, 7, 0))) (hS 2 rfl) (hR 2 2 7 rfl rfl)) ?_
    refine qm_G.s1 rfl (qm_x_iload rfl) ?_
    obtain ⟨q3, g4r, g4h, g4s, g4a, g4b, g4c, g4x, g4y, g4z⟩ := hM.riv (Int.toNat (J 8 3 0)) (by omega) (by omega)
    refine qm_G.s1 rfl (qm_x_aaldr (q := (some (0, q3, 0))) (hS 7 rfl) rfl rfl (by omega) (by omega) g4r) ?_
    refine qm_G.s1 rfl (qm_x_goto) ?_
    refine qm_G.ret rfl rfl ⟨_, rfl, ?_⟩
    refine qm_G.s1 rfl (qm_x_astore (lv' := [(6, qm_R (some (0, q3, 0))), (0, qm_R (some (0, 2, 0))), (1, qm_I (qm_i sd)), (2, qm_I (qm_i d)), (3, qm_I (qm_i g)), (4, qm_I (qm_i c)), (5, qm_I (qm_i 0))]) rfl) ?_
    refine qm_G.s1 rfl (qm_x_aload rfl) ?_
    refine qm_G.s1 rfl (qm_x_ifnull1) ?_
    refine qm_G.s1 rfl (qm_x_iload rfl) ?_
    refine qm_G.s1 rfl (qm_x_iload rfl) ?_
    refine qm_G.s1 rfl (qm_x_ishr4 (p := 0) (v := g) (by omega) (by decide) rfl (by omega)) ?_
    refine qm_G.s1 rfl (qm_x_pushI 1 rfl) ?_
    refine qm_G.s1 rfl (qm_x_iand1 (by omega)) ?_
    refine qm_y_if_ne rfl ⟨by omega, by omega⟩ (fun c5 => ?_) (fun c5 => ?_)
    · refine qm_G.sp (lv1 := [(0, qm_R (some (0, 2, 0))), (1, qm_I (qm_i sd)), (2, qm_I (qm_i d)), (3, qm_I (qm_i g)), (4, qm_I (qm_i c)), (5, qm_I (qm_i 0))]) rfl rfl (qm_x_iinc (lv' := [(5, qm_I (qm_i (0 + 1))), (0, qm_R (some (0, 2, 0))), (1, qm_I (qm_i sd)), (2, qm_I (qm_i d)), (3, qm_I (qm_i g)), (4, qm_I (qm_i c))]) 1 rfl rfl rfl) ?_
      refine qm_G.s1 rfl (qm_x_goto) ?_
      refine qm_G.pk (lv1 := [(0, qm_R (some (0, 2, 0))), (1, qm_I (qm_i sd)), (2, qm_I (qm_i d)), (3, qm_I (qm_i g)), (4, qm_I (qm_i c)), (5, qm_I (qm_i (0 + 1)))]) rfl rfl rfl ?_
      exact k _ (by unfold qm_plc; rw [if_pos (by split <;> omega)])
    · refine qm_G.s1 rfl (qm_x_iload rfl) ?_
      refine qm_G.s1 rfl (qm_x_aload rfl) ?_
      refine qm_G.s1 rfl (qm_x_iload rfl) ?_
      refine qm_G.s1 rfl (qm_x_iload rfl) ?_
      refine qm_G.cm rfl rfl g4s rfl ?_
      refine qm_v_dist g4s g4a g4b g4c g4x g4y g4z (by omega) (by omega) (fun w6 c7 => ⟨_, rfl, ?_⟩)
      have c7r : 0 ≤ w6 ∧ w6 ≤ 6 := by rw [c7]; exact qm_the_rng g4x g4y g4z (by omega)
      refine qm_G.s1 rfl (qm_x_iload rfl) ?_
      refine qm_G.cs rfl rfl rfl ?_
      refine qm_v_bes (by omega) (by omega) (by omega) (fun w8 c9 => ⟨_, rfl, ?_⟩)
      have c9r : 0 ≤ w8 ∧ w8 ≤ 1000 := by rw [c9]; exact qm_bes_rng (by omega)
      refine qm_G.s1 rfl (qm_x_istore (lv' := [(4, qm_I (qm_i w8)), (6, qm_R (some (0, q3, 0))), (0, qm_R (some (0, 2, 0))), (1, qm_I (qm_i sd)), (2, qm_I (qm_i d)), (3, qm_I (qm_i g)), (5, qm_I (qm_i 0))]) rfl) ?_
      refine qm_G.sp (lv1 := [(0, qm_R (some (0, 2, 0))), (1, qm_I (qm_i sd)), (2, qm_I (qm_i d)), (3, qm_I (qm_i g)), (4, qm_I (qm_i w8)), (5, qm_I (qm_i 0))]) rfl rfl (qm_x_iinc (lv' := [(5, qm_I (qm_i (0 + 1))), (0, qm_R (some (0, 2, 0))), (1, qm_I (qm_i sd)), (2, qm_I (qm_i d)), (3, qm_I (qm_i g)), (4, qm_I (qm_i w8))]) 1 rfl rfl rfl) ?_
      refine qm_G.s1 rfl (qm_x_goto) ?_
      refine qm_G.pk (lv1 := [(0, qm_R (some (0, 2, 0))), (1, qm_I (qm_i sd)), (2, qm_I (qm_i d)), (3, qm_I (qm_i g)), (4, qm_I (qm_i w8)), (5, qm_I (qm_i (0 + 1)))]) rfl rfl rfl ?_
      have e8 : J 8 3 0 = J 62 0 58 := by omega
      exact k _ (by unfold qm_plc; rw [if_neg (show ¬ (g % 2 = 1) by omega), if_neg (show ¬ (J 62 0 58 < 0) by omega), c9, c7, e8])
  · refine qm_G.s1 rfl (qm_x_if_eq_t ⟨by decide, by decide⟩ (by decide)) ?_
    refine qm_G.sp (lv1 := []) rfl rfl (qm_x_push) ?_
    refine qm_G.ret rfl rfl ⟨_, rfl, ?_⟩
    refine qm_G.s1 rfl (qm_x_astore (lv' := [(6, qm_R (none)), (0, qm_R (some (0, 2, 0))), (1, qm_I (qm_i sd)), (2, qm_I (qm_i d)), (3, qm_I (qm_i g)), (4, qm_I (qm_i c)), (5, qm_I (qm_i 0))]) rfl) ?_
    refine qm_G.s1 rfl (qm_x_aload rfl) ?_
    refine qm_G.s1 rfl (qm_x_ifnull0) ?_
    refine qm_G.sp (lv1 := [(0, qm_R (some (0, 2, 0))), (1, qm_I (qm_i sd)), (2, qm_I (qm_i d)), (3, qm_I (qm_i g)), (4, qm_I (qm_i c)), (5, qm_I (qm_i 0))]) rfl rfl (qm_x_iinc (lv' := [(5, qm_I (qm_i (0 + 1))), (0, qm_R (some (0, 2, 0))), (1, qm_I (qm_i sd)), (2, qm_I (qm_i d)), (3, qm_I (qm_i g)), (4, qm_I (qm_i c))]) 1 rfl rfl rfl) ?_
    refine qm_G.s1 rfl (qm_x_goto) ?_
    refine qm_G.pk (lv1 := [(0, qm_R (some (0, 2, 0))), (1, qm_I (qm_i sd)), (2, qm_I (qm_i d)), (3, qm_I (qm_i g)), (4, qm_I (qm_i c)), (5, qm_I (qm_i (0 + 1)))]) rfl rfl rfl ?_
    exact k _ (by unfold qm_plc; rw [if_pos (by split <;> omega)])
theorem qm_d_lk2_1 {S : List qm_Sh} {J K : qm_J} {L : qm_Ct Int64} {D : qm_Ct UInt64} {R : qm_Ct (Option qm_Rf)} {X : Nat × (Nat → Int32)} {Q : Option qm_V → qm_Hp → Prop} {sd d g c : Int} (hS : qm_Sd S) (hR : qm_Rd R) (hM : qm_Mkn S J R) (hst : J 2 0 5 = 2) (r0 : 0 ≤ sd ∧ sd ≤ 1) (r1 : 0 ≤ d ∧ d ≤ 5) (r2 : 0 ≤ g ∧ g ≤ 15) (r3 : 0 ≤ c ∧ c ≤ 1000) (k : ∀ c9 : Int, c9 = qm_plc (J 62 0) sd d c (if g / 2 % 2 = 1 then -5 else J 62 0 59) → qm_G qm_P qm_P161 21 [(0, qm_R (some (0, 2, 0))), (1, qm_I (qm_i sd)), (2, qm_I (qm_i d)), (3, qm_I (qm_i g)), (4, qm_I (qm_i c9)), (5, qm_I (qm_i (1 + 1)))] [] (qm_H S J K L D R X) Q) : qm_G qm_P qm_P161 21 [(0, qm_R (some (0, 2, 0))), (1, qm_I (qm_i sd)), (2, qm_I (qm_i d)), (3, qm_I (qm_i g)), (4, qm_I (qm_i c)), (5, qm_I (qm_i 1))] [] (qm_H S J K L D R X) Q := by
  have f62_7 : 0 ≤ J 62 0 7 ∧ J 62 0 7 ≤ 8 := hM.rrc
  have f2_3 : J 2 0 3 = J 62 0 7 := hM.rc
  have f2_5 : J 2 0 5 = 2 := hst
  refine qm_G.sp (lv1 := [(0, qm_R (some (0, 2, 0))), (1, qm_I (qm_i sd)), (2, qm_I (qm_i d)), (3, qm_I (qm_i g)), (4, qm_I (qm_i c)), (5, qm_I (qm_i 1))]) rfl rfl (qm_x_iload rfl) ?_
  refine qm_G.s1 rfl (qm_x_pushI 4 rfl) ?_
  refine qm_G.s1 rfl (qm_x_icmp_ge_f ⟨by decide, by decide⟩ ⟨by decide, by decide⟩ (by decide)) ?_
  refine qm_G.s1 rfl (qm_x_aload rfl) ?_
  refine qm_G.s1 rfl (qm_x_aload rfl) ?_
  refine qm_G.s1 rfl (qm_x_getfR (q := (some (0, 8, 0))) (hS 2 rfl) (hR 2 4 8 rfl rfl)) ?_
  refine qm_G.s1 rfl (qm_x_aload rfl) ?_
  refine qm_G.s1 rfl (qm_x_getfI (v := 2) (hS 2 rfl) f2_5) ?_
  refine qm_G.s1 rfl (qm_x_aaldg (hS 8 rfl) rfl rfl (by decide) (by decide)) ?_
  refine qm_G.s1 rfl (qm_x_iload rfl) ?_
  have g1 : (J 8 3 1 = -1 ∧ J 62 0 59 = -5) ∨ (J 8 3 1 = J 62 0 59 ∧ 0 ≤ J 62 0 59 ∧ J 62 0 59 < J 62 0 7) := hM.dek 2 1 (by decide) (by decide)
  refine qm_G.s1 rfl (qm_x_iald (v := (J 8 3 1)) (qm_arS hS rfl rfl) rfl (by decide) (by decide) (by decide) rfl) ?_
  refine qm_G.cm rfl rfl (hS 2 rfl) rfl ?_
  refine qm_C.go (cd := qm_P93) (lv := [(0, qm_R (some (0, 2, 0))), (1, qm_I (qm_i (J 8 3 1)))]) rfl rfl ?_
  refine qm_G.s1 rfl (qm_x_iload rfl) ?_
  refine qm_G.s1 rfl (qm_x_pushI 0 rfl) ?_
  refine qm_G.s1 rfl (qm_x_aload rfl) ?_
  refine qm_G.s1 rfl (qm_x_getfI (v := (J 2 0 3)) (hS 2 rfl) rfl) ?_
  refine qm_G.s1 rfl (qm_x_pushI 1 rfl) ?_
  refine qm_G.s1 rfl (qm_x_isub) ?_
  refine qm_G.cs rfl rfl rfl ?_
  refine qm_v_within10 ⟨by omega, by omega⟩ ⟨by decide, by decide⟩ ⟨by omega, by omega⟩ (fun c2 => ⟨_, rfl, ?_⟩) (fun c2 => ⟨_, rfl, ?_⟩)
  · refine qm_G.s1 rfl (qm_x_if_eq_f ⟨by decide, by decide⟩ (by decide)) ?_
    refine qm_G.s1 rfl (qm_x_aload rfl) ?_
    refine qm_G.s1 rfl (qm_x_getfR (q := (some (0, 7, 0))) (hS 2 rfl) (hR 2 2 7 rfl rfl)) ?_
    refine qm_G.s1 rfl (qm_x_iload rfl) ?_
    obtain ⟨q3, g4r, g4h, g4s, g4a, g4b, g4c, g4x, g4y, g4z⟩ := hM.riv (Int.toNat (J 8 3 1)) (by omega) (by omega)
    refine qm_G.s1 rfl (qm_x_aaldr (q := (some (0, q3, 0))) (hS 7 rfl) rfl rfl (by omega) (by omega) g4r) ?_
    refine qm_G.s1 rfl (qm_x_goto) ?_
    refine qm_G.ret rfl rfl ⟨_, rfl, ?_⟩
    refine qm_G.s1 rfl (qm_x_astore (lv' := [(6, qm_R (some (0, q3, 0))), (0, qm_R (some (0, 2, 0))), (1, qm_I (qm_i sd)), (2, qm_I (qm_i d)), (3, qm_I (qm_i g)), (4, qm_I (qm_i c)), (5, qm_I (qm_i 1))]) rfl) ?_
    refine qm_G.s1 rfl (qm_x_aload rfl) ?_
    refine qm_G.s1 rfl (qm_x_ifnull1) ?_
    refine qm_G.s1 rfl (qm_x_iload rfl) ?_
    refine qm_G.s1 rfl (qm_x_iload rfl) ?_
    refine qm_G.s1 rfl (qm_x_ishr4 (p := 1) (v := (g / 2)) (by omega) (by decide) rfl (by omega)) ?_
    refine qm_G.s1 rfl (qm_x_pushI 1 rfl) ?_
    refine qm_G.s1 rfl (qm_x_iand1 (by omega)) ?_
    refine qm_y_if_ne rfl ⟨by omega, by omega⟩ (fun c5 => ?_) (fun c5 => ?_)
    · refine qm_G.sp (lv1 := [(0, qm_R (some (0, 2, 0))), (1, qm_I (qm_i sd)), (2, qm_I (qm_i d)), (3, qm_I (qm_i g)), (4, qm_I (qm_i c)), (5, qm_I (qm_i 1))]) rfl rfl (qm_x_iinc (lv' := [(5, qm_I (qm_i (1 + 1))), (0, qm_R (some (0, 2, 0))), (1, qm_I (qm_i sd)), (2, qm_I (qm_i d)), (3, qm_I (qm_i g)), (4, qm_I (qm_i c))]) 1 rfl rfl rfl) ?_
      refine qm_G.s1 rfl (qm_x_goto) ?_
      refine qm_G.pk (lv1 := [(0, qm_R (some (0, 2, 0))), (1, qm_I (qm_i sd)), (2, qm_I (qm_i d)), (3, qm_I (qm_i g)), (4, qm_I (qm_i c)), (5, qm_I (qm_i (1 + 1)))]) rfl rfl rfl ?_
      exact k _ (by unfold qm_plc; rw [if_pos (by split <;> omega)])
    · refine qm_G.s1 rfl (qm_x_iload rfl) ?_
      refine qm_G.s1 rfl (qm_x_aload rfl) ?_
      refine qm_G.s1 rfl (qm_x_iload rfl) ?_
      refine qm_G.s1 rfl (qm_x_iload rfl) ?_
      refine qm_G.cm rfl rfl g4s rfl ?_
      refine qm_v_dist g4s g4a g4b g4c g4x g4y g4z (by omega) (by omega) (fun w6 c7 => ⟨_, rfl, ?_⟩)
      have c7r : 0 ≤ w6 ∧ w6 ≤ 6 := by rw [c7]; exact qm_the_rng g4x g4y g4z (by omega)
      refine qm_G.s1 rfl (qm_x_iload rfl) ?_
      refine qm_G.cs rfl rfl rfl ?_
      refine qm_v_bes (by omega) (by omega) (by omega) (fun w8 c9 => ⟨_, rfl, ?_⟩)
      have c9r : 0 ≤ w8 ∧ w8 ≤ 1000 := by rw [c9]; exact qm_bes_rng (by omega)
      refine qm_G.s1 rfl (qm_x_istore (lv' := [(4, qm_I (qm_i w8)), (6, qm_R (some (0, q3, 0))), (0, qm_R (some (0, 2, 0))), (1, qm_I (qm_i sd)), (2, qm_I (qm_i d)), (3, qm_I (qm_i g)), (5, qm_I (qm_i 1))]) rfl) ?_
      refine qm_G.sp (lv1 := [(0, qm_R (some (0, 2, 0))), (1, qm_I (qm_i sd)), (2, qm_I (qm_i d)), (3, qm_I (qm_i g)), (4, qm_I (qm_i w8)), (5, qm_I (qm_i 1))]) rfl rfl (qm_x_iinc (lv' := [(5, qm_I (qm_i (1 + 1))), (0, qm_R (some (0, 2, 0))), (1, qm_I (qm_i sd)), (2, qm_I (qm_i d)), (3, qm_I (qm_i g)), (4, qm_I (qm_i w8))]) 1 rfl rfl rfl) ?_
      refine qm_G.s1 rfl (qm_x_goto) ?_
      refine qm_G.pk (lv1 := [(0, qm_R (some (0, 2, 0))), (1, qm_I (qm_i sd)), (2, qm_I (qm_i d)), (3, qm_I (qm_i g)), (4, qm_I (qm_i w8)), (5, qm_I (qm_i (1 + 1)))]) rfl rfl rfl ?_
      have e8 : J 8 3 1 = J 62 0 59 := by omega
      exact k _ (by unfold qm_plc; rw [if_neg (show ¬ (g / 2 % 2 = 1) by omega), if_neg (show ¬ (J 62 0 59 < 0) by omega), c9, c7, e8])
  · refine qm_G.s1 rfl (qm_x_if_eq_t ⟨by decide, by decide⟩ (by decide)) ?_
    refine qm_G.sp (lv1 := []) rfl rfl (qm_x_push) ?_
    refine qm_G.ret rfl rfl ⟨_, rfl, ?_⟩
    refine qm_G.s1 rfl (qm_x_astore (lv' := [(6, qm_R (none)), (0, qm_R (some (0, 2, 0))), (1, qm_I (qm_i sd)), (2, qm_I (qm_i d)), (3, qm_I (qm_i g)), (4, qm_I (qm_i c)), (5, qm_I (qm_i 1))]) rfl) ?_
    refine qm_G.s1 rfl (qm_x_aload rfl) ?_
    refine qm_G.s1 rfl (qm_x_ifnull0) ?_
    refine qm_G.sp (lv1 := [(0, qm_R (some (0, 2, 0))), (1, qm_I (qm_i sd)), (2, qm_I (qm_i d)), (3, qm_I (qm_i g)), (4, qm_I (qm_i c)), (5, qm_I (qm_i 1))]) rfl rfl (qm_x_iinc (lv' := [(5, qm_I (qm_i (1 + 1))), (0, qm_R (some (0, 2, 0))), (1, qm_I (qm_i sd)), (2, qm_I (qm_i d)), (3, qm_I (qm_i g)), (4, qm_I (qm_i c))]) 1 rfl rfl rfl) ?_
    refine qm_G.s1 rfl (qm_x_goto) ?_
    refine qm_G.pk (lv1 := [(0, qm_R (some (0, 2, 0))), (1, qm_I (qm_i sd)), (2, qm_I (qm_i d)), (3, qm_I (qm_i g)), (4, qm_I (qm_i c)), (5, qm_I (qm_i (1 + 1)))]) rfl rfl rfl ?_
    exact k _ (by unfold qm_plc; rw [if_pos (by split <;> omega)])
theorem qm_d_lk2_2 {S : List qm_Sh} {J K : qm_J} {L : qm_Ct Int64} {D : qm_Ct UInt64} {R : qm_Ct (Option qm_Rf)} {X : Nat × (Nat → Int32)} {Q : Option qm_V → qm_Hp → Prop} {sd d g c : Int} (hS : qm_Sd S) (hR : qm_Rd R) (hM : qm_Mkn S J R) (hst : J 2 0 5 = 2) (r0 : 0 ≤ sd ∧ sd ≤ 1) (r1 : 0 ≤ d ∧ d ≤ 5) (r2 : 0 ≤ g ∧ g ≤ 15) (r3 : 0 ≤ c ∧ c ≤ 1000) (k : ∀ c9 : Int, c9 = qm_plc (J 62 0) sd d c (if g / 4 % 2 = 1 then -5 else J 62 0 60) → qm_G qm_P qm_P161 21 [(0, qm_R (some (0, 2, 0))), (1, qm_I (qm_i sd)), (2, qm_I (qm_i d)), (3, qm_I (qm_i g)), (4, qm_I (qm_i c9)), (5, qm_I (qm_i (2 + 1)))] [] (qm_H S J K L D R X) Q) : qm_G qm_P qm_P161 21 [(0, qm_R (some (0, 2, 0))), (1, qm_I (qm_i sd)), (2, qm_I (qm_i d)), (3, qm_I (qm_i g)), (4, qm_I (qm_i c)), (5, qm_I (qm_i 2))] [] (qm_H S J K L D R X) Q := by
  have f62_7 : 0 ≤ J 62 0 7 ∧ J 62 0 7 ≤ 8 := hM.rrc
  have f2_3 : J 2 0 3 = J 62 0 7 := hM.rc
  have f2_5 : J 2 0 5 = 2 := hst
  refine qm_G.sp (lv1 := [(0, qm_R (some (0, 2, 0))), (1, qm_I (qm_i sd)), (2, qm_I (qm_i d)), (3, qm_I (qm_i g)), (4, qm_I (qm_i c)), (5, qm_I (qm_i 2))]) rfl rfl (qm_x_iload rfl) ?_
  refine qm_G.s1 rfl (qm_x_pushI 4 rfl) ?_
  refine qm_G.s1 rfl (qm_x_icmp_ge_f ⟨by decide, by decide⟩ ⟨by decide, by decide⟩ (by decide)) ?_
  refine qm_G.s1 rfl (qm_x_aload rfl) ?_
  refine qm_G.s1 rfl (qm_x_aload rfl) ?_
  refine qm_G.s1 rfl (qm_x_getfR (q := (some (0, 8, 0))) (hS 2 rfl) (hR 2 4 8 rfl rfl)) ?_
  refine qm_G.s1 rfl (qm_x_aload rfl) ?_
  refine qm_G.s1 rfl (qm_x_getfI (v := 2) (hS 2 rfl) f2_5) ?_
  refine qm_G.s1 rfl (qm_x_aaldg (hS 8 rfl) rfl rfl (by decide) (by decide)) ?_
  refine qm_G.s1 rfl (qm_x_iload rfl) ?_
  have g1 : (J 8 3 2 = -1 ∧ J 62 0 60 = -5) ∨ (J 8 3 2 = J 62 0 60 ∧ 0 ≤ J 62 0 60 ∧ J 62 0 60 < J 62 0 7) := hM.dek 2 2 (by decide) (by decide)
  refine qm_G.s1 rfl (qm_x_iald (v := (J 8 3 2)) (qm_arS hS rfl rfl) rfl (by decide) (by decide) (by decide) rfl) ?_
  refine qm_G.cm rfl rfl (hS 2 rfl) rfl ?_
  refine qm_C.go (cd := qm_P93) (lv := [(0, qm_R (some (0, 2, 0))), (1, qm_I (qm_i (J 8 3 2)))]) rfl rfl ?_
  refine qm_G.s1 rfl (qm_x_iload rfl) ?_
  refine qm_G.s1 rfl (qm_x_pushI 0 rfl) ?_
  refine qm_G.s1 rfl (qm_x_aload rfl) ?_
  refine qm_G.s1 rfl (qm_x_getfI (v := (J 2 0 3)) (hS 2 rfl) rfl) ?_
  refine qm_G.s1 rfl (qm_x_pushI 1 rfl) ?_
  refine qm_G.s1 rfl (qm_x_isub) ?_
  refine qm_G.cs rfl rfl rfl ?_
  refine qm_v_within10 ⟨by omega, by omega⟩ ⟨by decide, by decide⟩ ⟨by omega, by omega⟩ (fun c2 => ⟨_, rfl, ?_⟩) (fun c2 => ⟨_, rfl, ?_⟩)
  · refine qm_G.s1 rfl (qm_x_if_eq_f ⟨by decide, by decide⟩ (by decide)) ?_
    refine qm_G.s1 rfl (qm_x_aload rfl) ?_
    refine qm_G.s1 rfl (qm_x_getfR (q := (some (0, 7, 0))) (hS 2 rfl) (hR 2 2 7 rfl rfl)) ?_
    refine qm_G.s1 rfl (qm_x_iload rfl) ?_
    obtain ⟨q3, g4r, g4h, g4s, g4a, g4b, g4c, g4x, g4y, g4z⟩ := hM.riv (Int.toNat (J 8 3 2)) (by omega) (by omega)
    refine qm_G.s1 rfl (qm_x_aaldr (q := (some (0, q3, 0))) (hS 7 rfl) rfl rfl (by omega) (by omega) g4r) ?_
    refine qm_G.s1 rfl (qm_x_goto) ?_
    refine qm_G.ret rfl rfl ⟨_, rfl, ?_⟩
    refine qm_G.s1 rfl (qm_x_astore (lv' := [(6, qm_R (some (0, q3, 0))), (0, qm_R (some (0, 2, 0))), (1, qm_I (qm_i sd)), (2, qm_I (qm_i d)), (3, qm_I (qm_i g)), (4, qm_I (qm_i c)), (5, qm_I (qm_i 2))]) rfl) ?_
    refine qm_G.s1 rfl (qm_x_aload rfl) ?_
    refine qm_G.s1 rfl (qm_x_ifnull1) ?_
    refine qm_G.s1 rfl (qm_x_iload rfl) ?_
    refine qm_G.s1 rfl (qm_x_iload rfl) ?_
    refine qm_G.s1 rfl (qm_x_ishr4 (p := 2) (v := (g / 4)) (by omega) (by decide) rfl (by omega)) ?_
    refine qm_G.s1 rfl (qm_x_pushI 1 rfl) ?_
    refine qm_G.s1 rfl (qm_x_iand1 (by omega)) ?_
    refine qm_y_if_ne rfl ⟨by omega, by omega⟩ (fun c5 => ?_) (fun c5 => ?_)
    · refine qm_G.sp (lv1 := [(0, qm_R (some (0, 2, 0))), (1, qm_I (qm_i sd)), (2, qm_I (qm_i d)), (3, qm_I (qm_i g)), (4, qm_I (qm_i c)), (5, qm_I (qm_i 2))]) rfl rfl (qm_x_iinc (lv' := [(5, qm_I (qm_i (2 + 1))), (0, qm_R (some (0, 2, 0))), (1, qm_I (qm_i sd)), (2, qm_I (qm_i d)), (3, qm_I (qm_i g)), (4, qm_I (qm_i c))]) 1 rfl rfl rfl) ?_
      refine qm_G.s1 rfl (qm_x_goto) ?_
      refine qm_G.pk (lv1 := [(0, qm_R (some (0, 2, 0))), (1, qm_I (qm_i sd)), (2, qm_I (qm_i d)), (3, qm_I (qm_i g)), (4, qm_I (qm_i c)), (5, qm_I (qm_i (2 + 1)))]) rfl rfl rfl ?_
      exact k _ (by unfold qm_plc; rw [if_pos (by split <;> omega)])
    · refine qm_G.s1 rfl (qm_x_iload rfl) ?_
      refine qm_G.s1 rfl (qm_x_aload rfl) ?_
      refine qm_G.s1 rfl (qm_x_iload rfl) ?_
      refine qm_G.s1 rfl (qm_x_iload rfl) ?_
      refine qm_G.cm rfl rfl g4s rfl ?_
      refine qm_v_dist g4s g4a g4b g4c g4x g4y g4z (by omega) (by omega) (fun w6 c7 => ⟨_, rfl, ?_⟩)
      have c7r : 0 ≤ w6 ∧ w6 ≤ 6 := by rw [c7]; exact qm_the_rng g4x g4y g4z (by omega)
      refine qm_G.s1 rfl (qm_x_iload rfl) ?_
      refine qm_G.cs rfl rfl rfl ?_
      refine qm_v_bes (by omega) (by omega) (by omega) (fun w8 c9 => ⟨_, rfl, ?_⟩)
      have c9r : 0 ≤ w8 ∧ w8 ≤ 1000 := by rw [c9]; exact qm_bes_rng (by omega)
      refine qm_G.s1 rfl (qm_x_istore (lv' := [(4, qm_I (qm_i w8)), (6, qm_R (some (0, q3, 0))), (0, qm_R (some (0, 2, 0))), (1, qm_I (qm_i sd)), (2, qm_I (qm_i d)), (3, qm_I (qm_i g)), (5, qm_I (qm_i 2))]) rfl) ?_
      refine qm_G.sp (lv1 := [(0, qm_R (some (0, 2, 0))), (1, qm_I (qm_i sd)), (2, qm_I (qm_i d)), (3, qm_I (qm_i g)), (4, qm_I (qm_i w8)), (5, qm_I (qm_i 2))]) rfl rfl (qm_x_iinc (lv' := [(5, qm_I (qm_i (2 + 1))), (0, qm_R (some (0, 2, 0))), (1, qm_I (qm_i sd)), (2, qm_I (qm_i d)), (3, qm_I (qm_i g)), (4, qm_I (qm_i w8))]) 1 rfl rfl rfl) ?_
      refine qm_G.s1 rfl (qm_x_goto) ?_
      refine qm_G.pk (lv1 := [(0, qm_R (some (0, 2, 0))), (1, qm_I (qm_i sd)), (2, qm_I (qm_i d)), (3, qm_I (qm_i g)), (4, qm_I (qm_i w8)), (5, qm_I (qm_i (2 + 1)))]) rfl rfl rfl ?_
      have e8 : J 8 3 2 = J 62 0 60 := by omega
      exact k _ (by unfold qm_plc; rw [if_neg (show ¬ (g / 4 % 2 = 1) by omega), if_neg (show ¬ (J 62 0 60 < 0) by omega), c9, c7, e8])
  · refine qm_G.s1 rfl (qm_x_if_eq_t ⟨by decide, by decide⟩ (by decide)) ?_
    refine qm_G.sp (lv1 := []) rfl rfl (qm_x_push) ?_
    refine qm_G.ret rfl rfl ⟨_, rfl, ?_⟩
    refine qm_G.s1 rfl (qm_x_astore (lv' := [(6, qm_R (none)), (0, qm_R (some (0, 2, 0))), (1, qm_I (qm_i sd)), (2, qm_I (qm_i d)), (3, qm_I (qm_i g)), (4, qm_I (qm_i c)), (5, qm_I (qm_i 2))]) rfl) ?_
    refine qm_G.s1 rfl (qm_x_aload rfl) ?_
    refine qm_G.s1 rfl (qm_x_ifnull0) ?_
    refine qm_G.sp (lv1 := [(0, qm_R (some (0, 2, 0))), (1, qm_I (qm_i sd)), (2, qm_I (qm_i d)), (3, qm_I (qm_i g)), (4, qm_I (qm_i c)), (5, qm_I (qm_i 2))]) rfl rfl (qm_x_iinc (lv' := [(5, qm_I (qm_i (2 + 1))), (0, qm_R (some (0, 2, 0))), (1, qm_I (qm_i sd)), (2, qm_I (qm_i d)), (3, qm_I (qm_i g)), (4, qm_I (qm_i c))]) 1 rfl rfl rfl) ?_
    refine qm_G.s1 rfl (qm_x_goto) ?_
    refine qm_G.pk (lv1 := [(0, qm_R (some (0, 2, 0))), (1, qm_I (qm_i sd)), (2, qm_I (qm_i d)), (3, qm_I (qm_i g)), (4, qm_I (qm_i c)), (5, qm_I (qm_i (2 + 1)))]) rfl rfl rfl ?_
    exact k _ (by unfold qm_plc; rw [if_pos (by split <;> omega)])
theorem qm_d_lk2_3 {S : List qm_Sh} {J K : qm_J} {L : qm_Ct Int64} {D : qm_Ct UInt64} {R : qm_Ct (Option qm_Rf)} {X : Nat × (Nat → Int32)} {Q : Option qm_V → qm_Hp → Prop} {sd d g c : Int} (hS : qm_Sd S) (hR : qm_Rd R) (hM : qm_Mkn S J R) (hst : J 2 0 5 = 2) (r0 : 0 ≤ sd ∧ sd ≤ 1) (r1 : 0 ≤ d ∧ d ≤ 5) (r2 : 0 ≤ g ∧ g ≤ 15) (r3 : 0 ≤ c ∧ c ≤ 1000) (k : ∀ c9 : Int, c9 = qm_plc (J 62 0) sd d c (if g / 8 % 2 = 1 then -5 else J 62 0 61) → qm_G qm_P qm_P161 21 [(0, qm_R (some (0, 2, 0))), (1, qm_I (qm_i sd)), (2, qm_I (qm_i d)), (3, qm_I (qm_i g)), (4, qm_I (qm_i c9)), (5, qm_I (qm_i (3 + 1)))] [] (qm_H S J K L D R X) Q) : qm_G qm_P qm_P161 21 [(0, qm_R (some (0, 2, 0))), (1, qm_I (qm_i sd)), (2, qm_I (qm_i d)), (3, qm_I (qm_i g)), (4, qm_I (qm_i c)), (5, qm_I (qm_i 3))] [] (qm_H S J K L D R X) Q := by
  have f62_7 : 0 ≤ J 62 0 7 ∧ J 62 0 7 ≤ 8 := hM.rrc
  have f2_3 : J 2 0 3 = J 62 0 7 := hM.rc
  have f2_5 : J 2 0 5 = 2 := hst
  refine qm_G.sp (lv1 := [(0, qm_R (some (0, 2, 0))), (1, qm_I (qm_i sd)), (2, qm_I (qm_i d)), (3, qm_I (qm_i g)), (4, qm_I (qm_i c)), (5, qm_I (qm_i 3))]) rfl rfl (qm_x_iload rfl) ?_
  refine qm_G.s1 rfl (qm_x_pushI 4 rfl) ?_
  refine qm_G.s1 rfl (qm_x_icmp_ge_f ⟨by decide, by decide⟩ ⟨by decide, by decide⟩ (by decide)) ?_
  refine qm_G.s1 rfl (qm_x_aload rfl) ?_
  refine qm_G.s1 rfl (qm_x_aload rfl) ?_
  refine qm_G.s1 rfl (qm_x_getfR (q := (some (0, 8, 0))) (hS 2 rfl) (hR 2 4 8 rfl rfl)) ?_
  refine qm_G.s1 rfl (qm_x_aload rfl) ?_
  refine qm_G.s1 rfl (qm_x_getfI (v := 2) (hS 2 rfl) f2_5) ?_
  refine qm_G.s1 rfl (qm_x_aaldg (hS 8 rfl) rfl rfl (by decide) (by decide)) ?_
  refine qm_G.s1 rfl (qm_x_iload rfl) ?_
  have g1 : (J 8 3 3 = -1 ∧ J 62 0 61 = -5) ∨ (J 8 3 3 = J 62 0 61 ∧ 0 ≤ J 62 0 61 ∧ J 62 0 61 < J 62 0 7) := hM.dek 2 3 (by decide) (by decide)
  refine qm_G.s1 rfl (qm_x_iald (v := (J 8 3 3)) (qm_arS hS rfl rfl) rfl (by decide) (by decide) (by decide) rfl) ?_
  refine qm_G.cm rfl rfl (hS 2 rfl) rfl ?_
  refine qm_C.go (cd := qm_P93) (lv := [(0, qm_R (some (0, 2, 0))), (1, qm_I (qm_i (J 8 3 3)))]) rfl rfl ?_
  refine qm_G.s1 rfl (qm_x_iload rfl) ?_
  refine qm_G.s1 rfl (qm_x_pushI 0 rfl) ?_
  refine qm_G.s1 rfl (qm_x_aload rfl) ?_
  refine qm_G.s1 rfl (qm_x_getfI (v := (J 2 0 3)) (hS 2 rfl) rfl) ?_
  refine qm_G.s1 rfl (qm_x_pushI 1 rfl) ?_
  refine qm_G.s1 rfl (qm_x_isub) ?_
  refine qm_G.cs rfl rfl rfl ?_
  refine qm_v_within10 ⟨by omega, by omega⟩ ⟨by decide, by decide⟩ ⟨by omega, by omega⟩ (fun c2 => ⟨_, rfl, ?_⟩) (fun c2 => ⟨_, rfl, ?_⟩)
  · refine qm_G.s1 rfl (qm_x_if_eq_f ⟨by decide, by decide⟩ (by decide)) ?_
    refine qm_G.s1 rfl (qm_x_aload rfl) ?_
    refine qm_G.s1 rfl (qm_x_getfR (q := (some (0, 7, 0))) (hS 2 rfl) (hR 2 2 7 rfl rfl)) ?_
    refine qm_G.s1 rfl (qm_x_iload rfl) ?_
    obtain ⟨q3, g4r, g4h, g4s, g4a, g4b, g4c, g4x, g4y, g4z⟩ := hM.riv (Int.toNat (J 8 3 3)) (by omega) (by omega)
    refine qm_G.s1 rfl (qm_x_aaldr (q := (some (0, q3, 0))) (hS 7 rfl) rfl rfl (by omega) (by omega) g4r) ?_
    refine qm_G.s1 rfl (qm_x_goto) ?_
    refine qm_G.ret rfl rfl ⟨_, rfl, ?_⟩
    refine qm_G.s1 rfl (qm_x_astore (lv' := [(6, qm_R (some (0, q3, 0))), (0, qm_R (some (0, 2, 0))), (1, qm_I (qm_i sd)), (2, qm_I (qm_i d)), (3, qm_I (qm_i g)), (4, qm_I (qm_i c)), (5, qm_I (qm_i 3))]) rfl) ?_
    refine qm_G.s1 rfl (qm_x_aload rfl) ?_
    refine qm_G.s1 rfl (qm_x_ifnull1) ?_
    refine qm_G.s1 rfl (qm_x_iload rfl) ?_
    refine qm_G.s1 rfl (qm_x_iload rfl) ?_
    refine qm_G.s1 rfl (qm_x_ishr4 (p := 3) (v := (g / 8)) (by omega) (by decide) rfl (by omega)) ?_
    refine qm_G.s1 rfl (qm_x_pushI 1 rfl) ?_
    refine qm_G.s1 rfl (qm_x_iand1 (by omega)) ?_
    refine qm_y_if_ne rfl ⟨by omega, by omega⟩ (fun c5 => ?_) (fun c5 => ?_)
    · refine qm_G.sp (lv1 := [(0, qm_R (some (0, 2, 0))), (1, qm_I (qm_i sd)), (2, qm_I (qm_i d)), (3, qm_I (qm_i g)), (4, qm_I (qm_i c)), (5, qm_I (qm_i 3))]) rfl rfl (qm_x_iinc (lv' := [(5, qm_I (qm_i (3 + 1))), (0, qm_R (some (0, 2, 0))), (1, qm_I (qm_i sd)), (2, qm_I (qm_i d)), (3, qm_I (qm_i g)), (4, qm_I (qm_i c))]) 1 rfl rfl rfl) ?_
      refine qm_G.s1 rfl (qm_x_goto) ?_
      refine qm_G.pk (lv1 := [(0, qm_R (some (0, 2, 0))), (1, qm_I (qm_i sd)), (2, qm_I (qm_i d)), (3, qm_I (qm_i g)), (4, qm_I (qm_i c)), (5, qm_I (qm_i (3 + 1)))]) rfl rfl rfl ?_
      exact k _ (by unfold qm_plc; rw [if_pos (by split <;> omega)])
    · refine qm_G.s1 rfl (qm_x_iload rfl) ?_
      refine qm_G.s1 rfl (qm_x_aload rfl) ?_
      refine qm_G.s1 rfl (qm_x_iload rfl) ?_
      refine qm_G.s1 rfl (qm_x_iload rfl) ?_
      refine qm_G.cm rfl rfl g4s rfl ?_
      refine qm_v_dist g4s g4a g4b g4c g4x g4y g4z (by omega) (by omega) (fun w6 c7 => ⟨_, rfl, ?_⟩)
      have c7r : 0 ≤ w6 ∧ w6 ≤ 6 := by rw [c7]; exact qm_the_rng g4x g4y g4z (by omega)
      refine qm_G.s1 rfl (qm_x_iload rfl) ?_
      refine qm_G.cs rfl rfl rfl ?_
      refine qm_v_bes (by omega) (by omega) (by omega) (fun w8 c9 => ⟨_, rfl, ?_⟩)
      have c9r : 0 ≤ w8 ∧ w8 ≤ 1000 := by rw [c9]; exact qm_bes_rng (by omega)
      refine qm_G.s1 rfl (qm_x_istore (lv' := [(4, qm_I (qm_i w8)), (6, qm_R (some (0, q3, 0))), (0, qm_R (some (0, 2, 0))), (1, qm_I (qm_i sd)), (2, qm_I (qm_i d)), (3, qm_I (qm_i g)), (5, qm_I (qm_i 3))]) rfl) ?_
      refine qm_G.sp (lv1 := [(0, qm_R (some (0, 2, 0))), (1, qm_I (qm_i sd)), (2, qm_I (qm_i d)), (3, qm_I (qm_i g)), (4, qm_I (qm_i w8)), (5, qm_I (qm_i 3))]) rfl rfl (qm_x_iinc (lv' := [(5, qm_I (qm_i (3 + 1))), (0, qm_R (some (0, 2, 0))), (1, qm_I (qm_i sd)), (2, qm_I (qm_i d)), (3, qm_I (qm_i g)), (4, qm_I (qm_i w8))]) 1 rfl rfl rfl) ?_
      refine qm_G.s1 rfl (qm_x_goto) ?_
      refine qm_G.pk (lv1 := [(0, qm_R (some (0, 2, 0))), (1, qm_I (qm_i sd)), (2, qm_I (qm_i d)), (3, qm_I (qm_i g)), (4, qm_I (qm_i w8)), (5, qm_I (qm_i (3 + 1)))]) rfl rfl rfl ?_
      have e8 : J 8 3 3 = J 62 0 61 := by omega
      exact k _ (by unfold qm_plc; rw [if_neg (show ¬ (g / 8 % 2 = 1) by omega), if_neg (show ¬ (J 62 0 61 < 0) by omega), c9, c7, e8])
  · refine qm_G.s1 rfl (qm_x_if_eq_t ⟨by decide, by decide⟩ (by decide)) ?_
    refine qm_G.sp (lv1 := []) rfl rfl (qm_x_push) ?_
    refine qm_G.ret rfl rfl ⟨_, rfl, ?_⟩
    refine qm_G.s1 rfl (qm_x_astore (lv' := [(6, qm_R (none)), (0, qm_R (some (0, 2, 0))), (1, qm_I (qm_i sd)), (2, qm_I (qm_i d)), (3, qm_I (qm_i g)), (4, qm_I (qm_i c)), (5, qm_I (qm_i 3))]) rfl) ?_
    refine qm_G.s1 rfl (qm_x_aload rfl) ?_
    refine qm_G.s1 rfl (qm_x_ifnull0) ?_
    refine qm_G.sp (lv1 := [(0, qm_R (some (0, 2, 0))), (1, qm_I (qm_i sd)), (2, qm_I (qm_i d)), (3, qm_I (qm_i g)), (4, qm_I (qm_i c)), (5, qm_I (qm_i 3))]) rfl rfl (qm_x_iinc (lv' := [(5, qm_I (qm_i (3 + 1))), (0, qm_R (some (0, 2, 0))), (1, qm_I (qm_i sd)), (2, qm_I (qm_i d)), (3, qm_I (qm_i g)), (4, qm_I (qm_i c))]) 1 rfl rfl rfl) ?_
    refine qm_G.s1 rfl (qm_x_goto) ?_
    refine qm_G.pk (lv1 := [(0, qm_R (some (0, 2, 0))), (1, qm_I (qm_i sd)), (2, qm_I (qm_i d)), (3, qm_I (qm_i g)), (4, qm_I (qm_i c)), (5, qm_I (qm_i (3 + 1)))]) rfl rfl rfl ?_
    exact k _ (by unfold qm_plc; rw [if_pos (by split <;> omega)])
