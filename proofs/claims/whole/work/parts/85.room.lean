/-! THE SLIP: its room, its digits -/
theorem qm_d_ens {S0 S : List qm_Sh} {J0 J K0 K : qm_J} {L0 L : qm_Ct Int64} {D0 D : qm_Ct UInt64} {R0 R : qm_Ct (Option qm_Rf)} {q n : Nat} {m : Int} {F : Nat → Int} {X : Nat × (Nat → Int32)} {Q : Option qm_V → qm_Hp → Prop} {x : Int} (T : qm_Tq S0 S J0 J K0 K L0 L D0 D R0 R q n m F) (hx : 0 ≤ x ∧ x ≤ 34) (k : ∀ S' J' K' L' D' R' q' n', qm_Tq S0 S' J0 J' K0 K' L0 L' D0 D' R0 R' q' n' m F → x ≤ (n' : Int) → Q none (qm_H S' J' K' L' D' R' X)) : qm_C qm_P 168 [qm_R (some (0, 47, 0)), qm_I (qm_i x)] (qm_H S J K L D R X) Q := by
  have gn1 := T.hn
  have gm2 := T.rm
  refine qm_C.go (cd := qm_P168) (lv := [(0, qm_R (some (0, 47, 0))), (1, qm_I (qm_i x))]) rfl rfl ?_
  refine qm_G.s1 rfl (qm_x_aload rfl) ?_
  refine qm_G.s1 rfl (qm_x_getfR (q := (some (0, q, 0))) (T.sd 47 rfl) T.rq) ?_
  refine qm_G.s1 rfl (qm_x_alen T.sq rfl) ?_
  refine qm_G.s1 rfl (qm_x_aload rfl) ?_
  refine qm_G.s1 rfl (qm_x_getfI (v := 0) (T.sd 47 rfl) T.cd) ?_
  refine qm_G.s1 rfl (qm_x_ishr0) ?_
  refine qm_G.s1 rfl (qm_x_istore (lv' := [(2, qm_I (qm_i (n : Int))), (0, qm_R (some (0, 47, 0))), (1, qm_I (qm_i x))]) rfl) ?_
  refine qm_G.s1 rfl (qm_x_iload rfl) ?_
  refine qm_G.s1 rfl (qm_x_iload rfl) ?_
  refine qm_G.s1 rfl (qm_x_isub) ?_
  refine qm_y_if_le rfl ⟨by omega, by omega⟩ (fun c3 => ?_) (fun c3 => ?_)
  · exact qm_G.retv rfl (k _ _ _ _ _ _ _ _ T (by omega))
  · refine qm_G.s1 rfl (qm_x_aload rfl) ?_
    refine qm_G.s1 rfl (qm_x_aload rfl) ?_
    refine qm_G.s1 rfl (qm_x_getfR (q := (some (0, q, 0))) (T.sd 47 rfl) T.rq) ?_
    refine qm_G.s1 rfl (qm_x_aload rfl) ?_
    refine qm_G.s1 rfl (qm_x_iload rfl) ?_
    refine qm_G.cm rfl rfl (T.sd 47 rfl) rfl ?_
    refine qm_C.go (cd := qm_P146) (lv := [(0, qm_R (some (0, 47, 0))), (1, qm_I (qm_i x))]) rfl rfl ?_
    refine qm_G.s1 rfl (qm_x_aload rfl) ?_
    refine qm_G.s1 rfl (qm_x_getfR (q := (some (0, q, 0))) (T.sd 47 rfl) T.rq) ?_
    refine qm_G.s1 rfl (qm_x_alen T.sq rfl) ?_
    refine qm_G.s1 rfl (qm_x_istore (lv' := [(2, qm_I (qm_i (n : Int))), (0, qm_R (some (0, 47, 0))), (1, qm_I (qm_i x))]) rfl) ?_
    refine qm_G.s1 rfl (qm_x_iload rfl) ?_
    refine qm_G.s1 rfl (qm_x_aload rfl) ?_
    refine qm_G.s1 rfl (qm_x_getfI (v := 0) (T.sd 47 rfl) T.cd) ?_
    refine qm_G.s1 rfl (qm_x_ishl0) ?_
    refine qm_G.s1 rfl (qm_x_istore (lv' := [(3, qm_I (qm_i x)), (2, qm_I (qm_i (n : Int))), (0, qm_R (some (0, 47, 0))), (1, qm_I (qm_i x))]) rfl) ?_
    refine qm_G.s1 rfl (qm_x_iload rfl) ?_
    refine qm_G.s1 rfl (qm_x_iload rfl) ?_
    refine qm_G.s1 rfl (qm_x_isub) ?_
    refine qm_G.s1 rfl (qm_x_istore (lv' := [(4, qm_I (qm_i (x - (n : Int)))), (3, qm_I (qm_i x)), (2, qm_I (qm_i (n : Int))), (0, qm_R (some (0, 47, 0))), (1, qm_I (qm_i x))]) rfl) ?_
    refine qm_G.s1 rfl (qm_x_iload rfl) ?_
    refine qm_G.s1 rfl (qm_x_iload rfl) ?_
    refine qm_G.s1 rfl (qm_x_iload rfl) ?_
    refine qm_G.s1 rfl (qm_x_pushI 2 rfl) ?_
    refine qm_G.s1 rfl (qm_x_aload rfl) ?_
    refine qm_G.s1 rfl (qm_x_getfI (v := 0) (T.sd 47 rfl) T.cd) ?_
    refine qm_G.s1 rfl (qm_x_ishl0) ?_
    refine qm_G.s1 rfl (qm_x_iadd) ?_
    refine qm_G.cs rfl rfl rfl ?_
    refine qm_C.go (cd := qm_P64) (lv := [(0, qm_I (qm_i (n : Int))), (1, qm_I (qm_i (x - (n : Int)))), (2, qm_I (qm_i ((n : Int) + 2)))]) rfl rfl ?_
    refine qm_G.s1 rfl (qm_x_iload rfl) ?_
    refine qm_G.s1 rfl (qm_x_iload rfl) ?_
    refine qm_G.s1 rfl (qm_x_iload rfl) ?_
    refine qm_G.cs rfl rfl rfl ?_
    refine qm_v_max ⟨by omega, by omega⟩ ⟨by omega, by omega⟩ (fun w4 c5 => ⟨_, rfl, ?_⟩)
    refine qm_G.s1 rfl (qm_x_iadd) ?_
    refine qm_G.s1 rfl (qm_x_istore (lv' := [(3, qm_I (qm_i ((n : Int) + w4))), (0, qm_I (qm_i (n : Int))), (1, qm_I (qm_i (x - (n : Int)))), (2, qm_I (qm_i ((n : Int) + 2)))]) rfl) ?_
    refine qm_G.s1 rfl (qm_x_pushI 0 rfl) ?_
    refine qm_G.s1 rfl (qm_x_iload rfl) ?_
    refine qm_G.s1 rfl (qm_x_icmp_ge_f ⟨by decide, by decide⟩ ⟨by omega, by omega⟩ (by omega)) ?_
    refine qm_G.s1 rfl (qm_x_iload rfl) ?_
    refine qm_G.s1 rfl (qm_x_pushI 2147483639 rfl) ?_
    refine qm_G.s1 rfl (qm_x_icmp_gt_f ⟨by omega, by omega⟩ ⟨by decide, by decide⟩ (by omega)) ?_
    refine qm_G.s1 rfl (qm_x_iload rfl) ?_
    refine qm_G.ret rfl rfl ⟨_, rfl, ?_⟩
    refine qm_G.s1 rfl (qm_x_istore (lv' := [(5, qm_I (qm_i ((n : Int) + w4))), (4, qm_I (qm_i (x - (n : Int)))), (3, qm_I (qm_i x)), (2, qm_I (qm_i (n : Int))), (0, qm_R (some (0, 47, 0))), (1, qm_I (qm_i x))]) rfl) ?_
    refine qm_G.s1 rfl (qm_x_iload rfl) ?_
    refine qm_G.s1 rfl (qm_x_pushI 2147483647 rfl) ?_
    refine qm_G.s1 rfl (qm_x_icmp_ne_t ⟨by omega, by omega⟩ ⟨by decide, by decide⟩ (by omega)) ?_
    refine qm_G.sp (lv1 := [(0, qm_R (some (0, 47, 0))), (5, qm_I (qm_i ((n : Int) + w4)))]) rfl rfl (qm_x_iload rfl) ?_
    refine qm_G.s1 rfl (qm_x_aload rfl) ?_
    refine qm_G.s1 rfl (qm_x_getfI (v := 0) (T.sd 47 rfl) T.cd) ?_
    refine qm_G.s1 rfl (qm_x_ishr0) ?_
    refine qm_G.ret rfl rfl ⟨_, rfl, ?_⟩
    refine qm_G.s1 rfl (qm_x_aload rfl) ?_
    refine qm_G.s1 rfl (qm_x_getfI (v := 0) (T.sd 47 rfl) T.cd) ?_
    refine qm_G.s1 rfl (qm_x_ishl0) ?_
    refine qm_G.cs rfl rfl rfl ?_
    refine qm_C.go (cd := qm_P108) (lv := [(0, qm_R (some (0, q, 0))), (1, qm_I (qm_i ((n : Int) + w4)))]) rfl rfl ?_
    refine qm_G.s1 rfl (qm_x_iload rfl) ?_
    refine qm_G.s1 rfl (qm_x_aload rfl) ?_
    refine qm_G.s1 rfl (qm_x_alen T.sq rfl) ?_
    refine qm_G.s1 rfl (qm_x_icmp_ne_t ⟨by omega, by omega⟩ ⟨by omega, by omega⟩ (by omega)) ?_
    refine qm_G.sp (lv1 := [(0, qm_R (some (0, q, 0))), (1, qm_I (qm_i ((n : Int) + w4)))]) rfl rfl (qm_x_iload rfl) ?_
    have n16 : n = 16 := by omega
    refine qm_y_newa (m := 34) rfl (show (n : Int) + w4 = ((34 : Nat) : Int) by omega) (by decide) T.sd T.rd (fun S9 J9 K9 L9 D9 R9 N9 w9 => ?_)
    have h78 := w9.h78
    have hql := w9.hlt q _ T.sq
    have hsq : qm_nth S9 q = some (Sum.inr (Sum.inl (1, n))) := (w9.hs q hql).trans T.sq
    refine qm_G.s1 rfl (qm_x_astore (lv' := [(2, qm_R (some (0, N9, 0))), (0, qm_R (some (0, q, 0))), (1, qm_I (qm_i ((n : Int) + w4)))]) rfl) ?_
    refine qm_G.s1 rfl (qm_x_aload rfl) ?_
    refine qm_G.s1 rfl (qm_x_pushI 0 rfl) ?_
    refine qm_G.s1 rfl (qm_x_aload rfl) ?_
    refine qm_G.s1 rfl (qm_x_pushI 0 rfl) ?_
    refine qm_G.s1 rfl (qm_x_aload rfl) ?_
    refine qm_G.s1 rfl (qm_x_alen hsq rfl) ?_
    refine qm_G.s1 rfl (qm_x_iload rfl) ?_
    refine qm_G.cs rfl rfl rfl ?_
    refine qm_v_min ⟨by omega, by omega⟩ ⟨by omega, by omega⟩ (fun w6 c7 => ⟨_, rfl, ?_⟩)
    refine qm_G.s1 rfl (qm_x_acopyB (qm_arD hsq) (qm_arD w9.hn) rfl (by decide) (by decide) (by omega) (by omega) (by omega) (by decide) (by decide)) ?_
    refine qm_G.s1 rfl (qm_x_aload rfl) ?_
    refine qm_G.ret rfl rfl ⟨_, rfl, ?_⟩
    refine qm_G.s1 rfl (qm_x_putfR (w9.hS 47 rfl)) ?_
    exact qm_G.retv rfl (k _ _ _ _ _ _ _ _ (T.grow n16 w9 (show Int.toNat w6 = 16 by omega)) (show x ≤ ((34 : Nat) : Int) by omega))
theorem qm_dvp (n k : Nat) : n / 100 / 10 ^ k = n / 10 ^ (k + 2) := by
  rw [Nat.div_div_eq_div_mul, Nat.pow_add, show (10 : Nat) ^ 2 = 100 from rfl, Nat.mul_comm]
theorem qm_dn_1 {y d : Nat} (h : qm_dn y d) (c : y < 10) : d = 1 := qm_dn_uni h ⟨by decide, c, Or.inr rfl⟩
theorem qm_dn_2 {y d : Nat} (h : qm_dn y d) (c : 10 ≤ y ∧ y < 100) : d = 2 := qm_dn_uni h ⟨by decide, c.2, Or.inl c.1⟩
theorem qm_dn_100 {y d : Nat} (h : qm_dn y d) (c : 100 ≤ y) : ∃ e, d = e + 2 ∧ qm_dn (y / 100) e := by
  obtain ⟨h1, h2, h3⟩ := h
  have d3 : 3 ≤ d := by
    rcases (show d = 1 ∨ d = 2 ∨ 3 ≤ d by omega) with a | a | a
    · rw [a] at h2; exact absurd (show y < 10 from h2) (by omega)
    · rw [a] at h2; exact absurd (show y < 100 from h2) (by omega)
    · exact a
  obtain ⟨e, rfl⟩ : ∃ e, d = e + 3 := ⟨d - 3, by omega⟩
  refine ⟨e + 1, by omega, by omega, ?_, ?_⟩
  · refine Nat.div_lt_of_lt_mul ?_
    rw [show e + 3 = 2 + (e + 1) by omega, Nat.pow_add] at h2
    exact h2
  · rcases h3 with h3 | h3
    · refine Or.inl ((Nat.le_div_iff_mul_le (by decide)).mpr ?_)
      rw [show e + 3 - 1 = e + 2 by omega, Nat.pow_add] at h3
      exact h3
    · omega
theorem qm_d_gcl {S : List qm_Sh} {J : qm_J} {L : qm_Ct Int64} {D : qm_Ct UInt64} {R : qm_Ct (Option qm_Rf)} {X : Nat × (Nat → Int32)} {Q : Option qm_V → qm_Hp → Prop} {q n b : Nat} {sg : Int} (hq : qm_nth S q = some (Sum.inr (Sum.inl (1, n)))) (hn : n ≤ 34) : ∀ (d Y : Nat) (K : qm_J) (i p : Int), qm_dn Y d → Y ≤ 2147483648 → b + d ≤ n → i = -(Y : Int) → p = (b : Int) + (d : Int) → (∀ K' : qm_J, (∀ r s i, ¬ (r = q ∧ s = 0 ∧ b ≤ i ∧ i < b + d) → K' r s i = K r s i) → (∀ j, j < d → K' q 0 (b + j) = 48 + ((Y / 10 ^ (d - 1 - j) % 10 : Nat) : Int)) → qm_G qm_P qm_P6 104 [(2, qm_R (some (0, q, 0))), (5, qm_I (qm_i (b : Int))), (6, qm_I (qm_i sg))] [] (qm_H S J K' L D R X) Q) → qm_G qm_P qm_P6 22 [(0, qm_I (qm_i i)), (2, qm_R (some (0, q, 0))), (5, qm_I (qm_i p)), (6, qm_I (qm_i sg))] [] (qm_H S J K L D R X) Q := by
  intro d
  induction d using Nat.strongRecOn with
  | ind d ih =>
    intro Y K i p hd hY hb hi hp k
    subst hi
    rcases (show Y < 10 ∨ (10 ≤ Y ∧ Y < 100) ∨ 100 ≤ Y by omega) with c | c | c
    · have hd1 := qm_dn_1 hd c
      refine qm_G.pk (lv1 := [(0, qm_I (qm_i (-(Y : Int)))), (2, qm_R (some (0, q, 0))), (5, qm_I (qm_i p)), (6, qm_I (qm_i sg))]) rfl rfl rfl ?_
      refine qm_G.sp (lv1 := [(0, qm_I (qm_i (-(Y : Int)))), (2, qm_R (some (0, q, 0))), (5, qm_I (qm_i p)), (6, qm_I (qm_i sg))]) rfl rfl (qm_x_iload rfl) ?_
      refine qm_G.s1 rfl (qm_x_pushI (-100) rfl) ?_
      refine qm_G.s1 rfl (qm_x_icmp_gt_t ⟨by omega, by omega⟩ ⟨by decide, by decide⟩ (by omega)) ?_
      refine qm_G.sp (lv1 := [(0, qm_I (qm_i (-(Y : Int)))), (2, qm_R (some (0, q, 0))), (5, qm_I (qm_i p)), (6, qm_I (qm_i sg))]) rfl rfl (qm_x_aload rfl) ?_
      refine qm_G.s1 rfl (qm_x_iinc (lv' := [(5, qm_I (qm_i (p + (-1)))), (0, qm_I (qm_i (-(Y : Int)))), (2, qm_R (some (0, q, 0))), (6, qm_I (qm_i sg))]) (-1) rfl rfl rfl) ?_
      refine qm_G.s1 rfl (qm_x_iload rfl) ?_
      refine qm_G.s1 rfl (qm_x_push) ?_
      refine qm_G.s1 rfl (qm_x_iload rfl) ?_
      refine qm_G.s1 rfl (qm_x_ineg) ?_
      refine qm_G.s1 rfl (qm_x_dg1 (by omega) (by omega)) ?_
      refine qm_G.s1 rfl (qm_x_bast (qm_arD hq) (qm_ble34 (by omega)) (by omega) (by omega) (by decide) ⟨by omega, by omega⟩) ?_
      refine qm_G.s1 rfl (qm_x_iload rfl) ?_
      refine qm_G.s1 rfl (qm_x_pushI (-9) rfl) ?_
      refine qm_G.s1 rfl (qm_x_icmp_ge_t ⟨by omega, by omega⟩ ⟨by decide, by decide⟩ (by omega)) ?_
      refine qm_G.pk (lv1 := [(2, qm_R (some (0, q, 0))), (5, qm_I (qm_i (p + (-1)))), (6, qm_I (qm_i sg))]) rfl rfl rfl ?_
      rw [show p + (-1) = (b : Int) by omega]
      refine k _ (fun r s i h => ?_) (fun j hj => ?_)
      · rw [qm_st_ne (by omega)]
      · rw [show b + j = Int.toNat (b : Int) by omega, show d - 1 - j = 0 by omega, Nat.pow_zero, Nat.div_one, qm_st_eq]
        omega
    · have hd1 := qm_dn_2 hd c
      refine qm_G.pk (lv1 := [(0, qm_I (qm_i (-(Y : Int)))), (2, qm_R (some (0, q, 0))), (5, qm_I (qm_i p)), (6, qm_I (qm_i sg))]) rfl rfl rfl ?_
      refine qm_G.sp (lv1 := [(0, qm_I (qm_i (-(Y : Int)))), (2, qm_R (some (0, q, 0))), (5, qm_I (qm_i p)), (6, qm_I (qm_i sg))]) rfl rfl (qm_x_iload rfl) ?_
      refine qm_G.s1 rfl (qm_x_pushI (-100) rfl) ?_
      refine qm_G.s1 rfl (qm_x_icmp_gt_t ⟨by omega, by omega⟩ ⟨by decide, by decide⟩ (by omega)) ?_
      refine qm_G.sp (lv1 := [(0, qm_I (qm_i (-(Y : Int)))), (2, qm_R (some (0, q, 0))), (5, qm_I (qm_i p)), (6, qm_I (qm_i sg))]) rfl rfl (qm_x_aload rfl) ?_
      refine qm_G.s1 rfl (qm_x_iinc (lv' := [(5, qm_I (qm_i (p + (-1)))), (0, qm_I (qm_i (-(Y : Int)))), (2, qm_R (some (0, q, 0))), (6, qm_I (qm_i sg))]) (-1) rfl rfl rfl) ?_
      refine qm_G.s1 rfl (qm_x_iload rfl) ?_
      refine qm_G.s1 rfl (qm_x_push) ?_
      refine qm_G.s1 rfl (qm_x_iload rfl) ?_
      refine qm_G.s1 rfl (qm_x_ineg) ?_
      refine qm_G.s1 rfl (qm_x_dg1 (by omega) (by omega)) ?_
      refine qm_G.s1 rfl (qm_x_bast (qm_arD hq) (qm_ble34 (by omega)) (by omega) (by omega) (by decide) ⟨by omega, by omega⟩) ?_
      refine qm_G.s1 rfl (qm_x_iload rfl) ?_
      refine qm_G.s1 rfl (qm_x_pushI (-9) rfl) ?_
      refine qm_G.s1 rfl (qm_x_icmp_ge_f ⟨by omega, by omega⟩ ⟨by decide, by decide⟩ (by omega)) ?_
      refine qm_G.s1 rfl (qm_x_aload rfl) ?_
      refine qm_G.s1 rfl (qm_x_iinc (lv' := [(5, qm_I (qm_i ((p + (-1)) + (-1)))), (0, qm_I (qm_i (-(Y : Int)))), (2, qm_R (some (0, q, 0))), (6, qm_I (qm_i sg))]) (-1) rfl rfl rfl) ?_
      refine qm_G.s1 rfl (qm_x_iload rfl) ?_
      refine qm_G.s1 rfl (qm_x_push) ?_
      refine qm_G.s1 rfl (qm_x_iload rfl) ?_
      refine qm_G.s1 rfl (qm_x_ineg) ?_
      refine qm_G.s1 rfl (qm_x_dg2 (by omega) (by omega)) ?_
      refine qm_G.s1 rfl (qm_x_bast (qm_arD hq) (qm_ble34 (by omega)) (by omega) (by omega) (by decide) ⟨by omega, by omega⟩) ?_
      refine qm_G.pk (lv1 := [(2, qm_R (some (0, q, 0))), (5, qm_I (qm_i ((p + (-1)) + (-1)))), (6, qm_I (qm_i sg))]) rfl rfl rfl ?_
      rw [show (p + (-1)) + (-1) = (b : Int) by omega]
      refine k _ (fun r s i h => ?_) (fun j hj => ?_)
      · rw [qm_st_ne (by omega), qm_st_ne (by omega)]
      · rcases (show j = 0 ∨ j = 1 by omega) with c9 | c9
        · rw [c9, show b + 0 = Int.toNat (b : Int) by omega, show d - 1 - 0 = 1 by omega, Nat.pow_one, qm_st_eq]
          omega
        · rw [c9, qm_st_ne (by omega), show b + 1 = Int.toNat (p + (-1)) by omega, show d - 1 - 1 = 0 by omega, Nat.pow_zero, Nat.div_one, qm_st_eq]
          omega
    · obtain ⟨e, he1, he2⟩ := qm_dn_100 hd c
      have he3 := he2.1
      refine qm_G.pk (lv1 := [(0, qm_I (qm_i (-(Y : Int)))), (2, qm_R (some (0, q, 0))), (5, qm_I (qm_i p)), (6, qm_I (qm_i sg))]) rfl rfl rfl ?_
      refine qm_G.sp (lv1 := [(0, qm_I (qm_i (-(Y : Int)))), (2, qm_R (some (0, q, 0))), (5, qm_I (qm_i p)), (6, qm_I (qm_i sg))]) rfl rfl (qm_x_iload rfl) ?_
      refine qm_G.s1 rfl (qm_x_pushI (-100) rfl) ?_
      refine qm_G.s1 rfl (qm_x_icmp_gt_f ⟨by omega, by omega⟩ ⟨by decide, by decide⟩ (by omega)) ?_
      refine qm_G.s1 rfl (qm_x_iload rfl) ?_
      refine qm_G.s1 rfl (qm_x_pushI 100 rfl) ?_
      refine qm_G.s1 rfl (qm_x_idivn8 (by omega) (by omega) (by decide) (by decide)) ?_
      refine qm_G.s1 rfl (qm_x_istore (lv' := [(3, qm_I (qm_i (-((Y : Int) / 100)))), (0, qm_I (qm_i (-(Y : Int)))), (2, qm_R (some (0, q, 0))), (5, qm_I (qm_i p)), (6, qm_I (qm_i sg))]) rfl) ?_
      refine qm_G.s1 rfl (qm_x_iload rfl) ?_
      refine qm_G.s1 rfl (qm_x_pushI 100 rfl) ?_
      refine qm_G.s1 rfl (qm_x_imul) ?_
      refine qm_G.s1 rfl (qm_x_iload rfl) ?_
      refine qm_G.s1 rfl (qm_x_isub) ?_
      refine qm_G.s1 rfl (qm_x_istore (lv' := [(4, qm_I (qm_i (((-((Y : Int) / 100)) * 100) - (-(Y : Int))))), (3, qm_I (qm_i (-((Y : Int) / 100)))), (0, qm_I (qm_i (-(Y : Int)))), (2, qm_R (some (0, q, 0))), (5, qm_I (qm_i p)), (6, qm_I (qm_i sg))]) rfl) ?_
      refine qm_G.s1 rfl (qm_x_iload rfl) ?_
      refine qm_G.s1 rfl (qm_x_istore (lv' := [(0, qm_I (qm_i (-((Y : Int) / 100)))), (4, qm_I (qm_i (((-((Y : Int) / 100)) * 100) - (-(Y : Int))))), (3, qm_I (qm_i (-((Y : Int) / 100)))), (2, qm_R (some (0, q, 0))), (5, qm_I (qm_i p)), (6, qm_I (qm_i sg))]) rfl) ?_
      refine qm_G.s1 rfl (qm_x_aload rfl) ?_
      refine qm_G.s1 rfl (qm_x_iinc (lv' := [(5, qm_I (qm_i (p + (-1)))), (0, qm_I (qm_i (-((Y : Int) / 100)))), (4, qm_I (qm_i (((-((Y : Int) / 100)) * 100) - (-(Y : Int))))), (3, qm_I (qm_i (-((Y : Int) / 100)))), (2, qm_R (some (0, q, 0))), (6, qm_I (qm_i sg))]) (-1) rfl rfl rfl) ?_
      refine qm_G.s1 rfl (qm_x_iload rfl) ?_
      refine qm_G.s1 rfl (qm_x_push) ?_
      refine qm_G.s1 rfl (qm_x_iload rfl) ?_
      refine qm_G.s1 rfl (qm_x_dg1 (by omega) (by omega)) ?_
      refine qm_G.s1 rfl (qm_x_bast (qm_arD hq) (qm_ble34 (by omega)) (by omega) (by omega) (by decide) ⟨by omega, by omega⟩) ?_
      refine qm_G.s1 rfl (qm_x_aload rfl) ?_
      refine qm_G.s1 rfl (qm_x_iinc (lv' := [(5, qm_I (qm_i ((p + (-1)) + (-1)))), (0, qm_I (qm_i (-((Y : Int) / 100)))), (4, qm_I (qm_i (((-((Y : Int) / 100)) * 100) - (-(Y : Int))))), (3, qm_I (qm_i (-((Y : Int) / 100)))), (2, qm_R (some (0, q, 0))), (6, qm_I (qm_i sg))]) (-1) rfl rfl rfl) ?_
      refine qm_G.s1 rfl (qm_x_iload rfl) ?_
      refine qm_G.s1 rfl (qm_x_push) ?_
      refine qm_G.s1 rfl (qm_x_iload rfl) ?_
      refine qm_G.s1 rfl (qm_x_dg2 (by omega) (by omega)) ?_
      refine qm_G.s1 rfl (qm_x_bast (qm_arD hq) (qm_ble34 (by omega)) (by omega) (by omega) (by decide) ⟨by omega, by omega⟩) ?_
      refine qm_G.s1 rfl (qm_x_goto) ?_
      refine qm_G.pk (lv1 := [(0, qm_I (qm_i (-((Y : Int) / 100)))), (2, qm_R (some (0, q, 0))), (5, qm_I (qm_i ((p + (-1)) + (-1)))), (6, qm_I (qm_i sg))]) rfl rfl rfl ?_
      refine ih e (by omega) (Y / 100) _ _ _ he2 (by omega) (by omega) (by omega) (by omega) (fun K' h1 h2 => k K' (fun r s i h => ?_) (fun j hj => ?_))
      · rw [h1 r s i (by omega), qm_st_ne (by omega), qm_st_ne (by omega)]
      · by_cases c9 : j < e
        · rw [h2 j c9, qm_dvp, show e - 1 - j + 2 = d - 1 - j by omega]
        · rw [h1 q 0 (b + j) (by omega)]
          rcases (show j = e ∨ j = e + 1 by omega) with c8 | c8
          · rw [show b + j = Int.toNat ((p + (-1)) + (-1)) by omega, show d - 1 - j = 1 by omega, Nat.pow_one, qm_st_eq]
            omega
          · rw [qm_st_ne (by omega), show b + j = Int.toNat (p + (-1)) by omega, show d - 1 - j = 0 by omega, Nat.pow_zero, Nat.div_one, qm_st_eq]
            omega
theorem qm_d_gch {S : List qm_Sh} {J : qm_J} {L : qm_Ct Int64} {D : qm_Ct UInt64} {R : qm_Ct (Option qm_Rf)} {X : Nat × (Nat → Int32)} {Q : Option qm_V → qm_Hp → Prop} {K : qm_J} {q n b d : Nat} {x e : Int} (hq : qm_nth S q = some (Sum.inr (Sum.inl (1, n)))) (hn : n ≤ 34) (hx : qm_sm x) (hd : qm_dn x.natAbs d) (he : e = (b : Int) + (qm_sgn x d : Int)) (hb : b + qm_sgn x d ≤ n) (k : ∀ (K' : qm_J) (v : Int), (∀ r s i, ¬ (r = q ∧ s = 0 ∧ b ≤ i ∧ i < b + qm_sgn x d) → K' r s i = K r s i) → (∀ j, j < qm_sgn x d → K' q 0 (b + j) = qm_dg x (qm_sgn x d) j) → Q (some (qm_I (qm_i v))) (qm_H S J K' L D R X)) : qm_C qm_P 6 [qm_I (qm_i x), qm_I (qm_i e), qm_R (some (0, q, 0))] (qm_H S J K L D R X) Q := by
  rcases (show x < 0 ∨ 0 ≤ x by omega) with c | c
  · have hs : qm_sgn x d = d + 1 := if_pos c
    rw [hs] at he hb k
    have hd1 := hd.1
    refine qm_C.go (cd := qm_P6) (lv := [(0, qm_I (qm_i x)), (1, qm_I (qm_i e)), (2, qm_R (some (0, q, 0)))]) rfl rfl ?_
    refine qm_G.s1 rfl (qm_x_iload rfl) ?_
    refine qm_G.s1 rfl (qm_x_istore (lv' := [(5, qm_I (qm_i e)), (0, qm_I (qm_i x)), (1, qm_I (qm_i e)), (2, qm_R (some (0, q, 0)))]) rfl) ?_
    refine qm_G.s1 rfl (qm_x_iload rfl) ?_
    refine qm_G.s1 rfl (qm_x_if_ge_f ⟨by omega, by omega⟩ (by omega)) ?_
    refine qm_G.s1 rfl (qm_x_pushI 1 rfl) ?_
    refine qm_G.s1 rfl (qm_x_goto) ?_
    refine qm_G.sp (lv1 := [(0, qm_I (qm_i x)), (2, qm_R (some (0, q, 0))), (5, qm_I (qm_i e))]) rfl rfl (qm_x_istore (lv' := [(6, qm_I (qm_i 1)), (0, qm_I (qm_i x)), (2, qm_R (some (0, q, 0))), (5, qm_I (qm_i e))]) rfl) ?_
    refine qm_G.s1 rfl (qm_x_iload rfl) ?_
    refine qm_G.s1 rfl (qm_x_if_ne_t ⟨by decide, by decide⟩ (by decide)) ?_
    refine qm_G.pk (lv1 := [(0, qm_I (qm_i x)), (2, qm_R (some (0, q, 0))), (5, qm_I (qm_i e)), (6, qm_I (qm_i 1))]) rfl rfl rfl ?_
    refine qm_d_gcl (b := b + 1) hq hn d x.natAbs K _ _ hd (by omega) (by omega) (by omega) (by omega) (fun K' h1 h2 => ?_)
    refine qm_G.sp (lv1 := [(2, qm_R (some (0, q, 0))), (5, qm_I (qm_i ((b + 1 : Nat) : Int))), (6, qm_I (qm_i 1))]) rfl rfl (qm_x_iload rfl) ?_
    refine qm_G.s1 rfl (qm_x_if_eq_f ⟨by decide, by decide⟩ (by decide)) ?_
    refine qm_G.s1 rfl (qm_x_aload rfl) ?_
    refine qm_G.s1 rfl (qm_x_iinc (lv' := [(5, qm_I (qm_i (((b + 1 : Nat) : Int) + (-1)))), (2, qm_R (some (0, q, 0))), (6, qm_I (qm_i 1))]) (-1) rfl rfl rfl) ?_
    refine qm_G.s1 rfl (qm_x_iload rfl) ?_
    refine qm_G.s1 rfl (qm_x_pushI 45 rfl) ?_
    refine qm_G.s1 rfl (qm_x_bast (qm_arD hq) (qm_ble34 (by omega)) (by omega) (by omega) (by decide) ⟨by decide, by decide⟩) ?_
    refine qm_G.sp (lv1 := [(5, qm_I (qm_i (((b + 1 : Nat) : Int) + (-1))))]) rfl rfl (qm_x_iload rfl) ?_
    refine qm_G.ret rfl rfl (k _ _ (fun r s i h => ?_) (fun j hj => ?_))
    · rw [qm_st_ne (by omega), h1 r s i (by omega)]
    · by_cases c9 : j = 0
      · rw [c9, show b + 0 = Int.toNat (((b + 1 : Nat) : Int) + (-1)) by omega, qm_st_eq]
        exact (if_pos ⟨c, rfl⟩).symm
      · rw [qm_st_ne (by omega), show b + j = b + 1 + (j - 1) by omega, h2 (j - 1) (by omega)]
        unfold qm_dg
        rw [if_neg (by omega), show d - 1 - (j - 1) = d + 1 - 1 - j by omega]
  · have hs : qm_sgn x d = d := if_neg (by omega)
    rw [hs] at he hb k
    have hd1 := hd.1
    refine qm_C.go (cd := qm_P6) (lv := [(0, qm_I (qm_i x)), (1, qm_I (qm_i e)), (2, qm_R (some (0, q, 0)))]) rfl rfl ?_
    refine qm_G.s1 rfl (qm_x_iload rfl) ?_
    refine qm_G.s1 rfl (qm_x_istore (lv' := [(5, qm_I (qm_i e)), (0, qm_I (qm_i x)), (1, qm_I (qm_i e)), (2, qm_R (some (0, q, 0)))]) rfl) ?_
    refine qm_G.s1 rfl (qm_x_iload rfl) ?_
    refine qm_G.s1 rfl (qm_x_if_ge_t ⟨by omega, by omega⟩ (by omega)) ?_
    refine qm_G.sp (lv1 := [(0, qm_I (qm_i x)), (2, qm_R (some (0, q, 0))), (5, qm_I (qm_i e))]) rfl rfl (qm_x_pushI 0 rfl) ?_
    refine qm_G.sp (lv1 := [(0, qm_I (qm_i x)), (2, qm_R (some (0, q, 0))), (5, qm_I (qm_i e))]) rfl rfl (qm_x_istore (lv' := [(6, qm_I (qm_i 0)), (0, qm_I (qm_i x)), (2, qm_R (some (0, q, 0))), (5, qm_I (qm_i e))]) rfl) ?_
    refine qm_G.s1 rfl (qm_x_iload rfl) ?_
    refine qm_G.s1 rfl (qm_x_if_ne_f ⟨by decide, by decide⟩ (by decide)) ?_
    refine qm_G.s1 rfl (qm_x_iload rfl) ?_
    refine qm_G.s1 rfl (qm_x_ineg) ?_
    refine qm_G.s1 rfl (qm_x_istore (lv' := [(0, qm_I (qm_i (-x))), (6, qm_I (qm_i 0)), (2, qm_R (some (0, q, 0))), (5, qm_I (qm_i e))]) rfl) ?_
    refine qm_G.pk (lv1 := [(0, qm_I (qm_i (-x))), (2, qm_R (some (0, q, 0))), (5, qm_I (qm_i e)), (6, qm_I (qm_i 0))]) rfl rfl rfl ?_
    refine qm_d_gcl (b := b) hq hn d x.natAbs K _ _ hd (by omega) (by omega) (by omega) (by omega) (fun K' h1 h2 => ?_)
    refine qm_G.sp (lv1 := [(2, qm_R (some (0, q, 0))), (5, qm_I (qm_i (b : Int))), (6, qm_I (qm_i 0))]) rfl rfl (qm_x_iload rfl) ?_
    refine qm_G.s1 rfl (qm_x_if_eq_t ⟨by decide, by decide⟩ (by decide)) ?_
    refine qm_G.sp (lv1 := [(5, qm_I (qm_i (b : Int)))]) rfl rfl (qm_x_iload rfl) ?_
    refine qm_G.ret rfl rfl (k _ _ (fun r s i h => h1 r s i h) (fun j hj => ?_))
    rw [h2 j hj]
    unfold qm_dg
    rw [if_neg (by omega)]
theorem qm_d_setl {S : List qm_Sh} {L : qm_Ct Int64} {D : qm_Ct UInt64} {R : qm_Ct (Option qm_Rf)} {X : Nat × (Nat → Int32)} {Q : Option qm_V → qm_Hp → Prop} {J K : qm_J} {q n : Nat} (u_sd : qm_Sd S) (u_rd : qm_Rd R) (u_rq : R 47 0 0 = some (0, q, 0)) (u_sq : qm_nth S q = some (Sum.inr (Sum.inl (1, n)))) (hn : n = 16 ∨ n = 34) (u_cd : J 47 0 1 = 0) (h3 : 0 ≤ J 47 0 3 ∧ J 47 0 3 ≤ 34) (k : ∀ J' : qm_J, (∀ r s i, ¬ (r = 47 ∧ (i = 2 ∨ i = 3)) → J' r s i = J r s i) → J' 47 0 3 = 0 → Q none (qm_H S J' K L D R X)) : qm_C qm_P 185 [qm_R (some (0, 47, 0)), qm_I (qm_i 0)] (qm_H S J K L D R X) Q := by
  refine qm_C.go (cd := qm_P185) (lv := [(0, qm_R (some (0, 47, 0))), (1, qm_I (qm_i 0))]) rfl rfl ?_
  refine qm_G.s1 rfl (qm_x_iload rfl) ?_
  refine qm_G.s1 rfl (qm_x_if_ge_t ⟨by decide, by decide⟩ (by decide)) ?_
  refine qm_G.sp (lv1 := [(0, qm_R (some (0, 47, 0))), (1, qm_I (qm_i 0))]) rfl rfl (qm_x_aload rfl) ?_
  refine qm_G.s1 rfl (qm_x_iload rfl) ?_
  refine qm_G.cmv rfl rfl (u_sd 47 rfl) rfl ?_
  refine qm_C.go (cd := qm_P168) (lv := [(0, qm_R (some (0, 47, 0))), (1, qm_I (qm_i 0))]) rfl rfl ?_
  refine qm_G.s1 rfl (qm_x_aload rfl) ?_
  refine qm_G.s1 rfl (qm_x_getfR (q := (some (0, q, 0))) (u_sd 47 rfl) u_rq) ?_
  refine qm_G.s1 rfl (qm_x_alen u_sq rfl) ?_
  refine qm_G.s1 rfl (qm_x_aload rfl) ?_
  refine qm_G.s1 rfl (qm_x_getfI (v := 0) (u_sd 47 rfl) u_cd) ?_
  refine qm_G.s1 rfl (qm_x_ishr0) ?_
  refine qm_G.s1 rfl (qm_x_istore (lv' := [(2, qm_I (qm_i (n : Int))), (0, qm_R (some (0, 47, 0))), (1, qm_I (qm_i 0))]) rfl) ?_
  refine qm_G.s1 rfl (qm_x_iload rfl) ?_
  refine qm_G.s1 rfl (qm_x_iload rfl) ?_
  refine qm_G.s1 rfl (qm_x_isub) ?_
  refine qm_G.s1 rfl (qm_x_if_le_t ⟨by omega, by omega⟩ (by omega)) ?_
  refine qm_G.retv rfl ⟨rfl, ?_⟩
  refine qm_G.s1 rfl (qm_x_aload rfl) ?_
  refine qm_G.s1 rfl (qm_x_getfI (v := (J 47 0 3)) (u_sd 47 rfl) rfl) ?_
  refine qm_G.s1 rfl (qm_x_iload rfl) ?_
  refine qm_G.s1 rfl (qm_x_icmp_ge_t ⟨by omega, by omega⟩ ⟨by decide, by decide⟩ (by omega)) ?_
  refine qm_G.sp (lv1 := [(0, qm_R (some (0, 47, 0))), (1, qm_I (qm_i 0))]) rfl rfl (qm_x_aload rfl) ?_
  refine qm_G.s1 rfl (qm_x_getfI (v := (J 47 0 3)) (u_sd 47 rfl) rfl) ?_
  refine qm_G.s1 rfl (qm_x_iload rfl) ?_
  refine qm_y_icmp_le rfl ⟨by omega, by omega⟩ ⟨by decide, by decide⟩ (fun c1 => ?_) (fun c1 => ?_)
  · refine qm_G.sp (lv1 := [(0, qm_R (some (0, 47, 0))), (1, qm_I (qm_i 0))]) rfl rfl (qm_x_aload rfl) ?_
    refine qm_G.s1 rfl (qm_x_iload rfl) ?_
    refine qm_G.s1 rfl (qm_x_putfI (u_sd 47 rfl)) ?_
    exact qm_G.retv rfl (k _ (fun r s i h => by rw [qm_st_ne (by omega)]) qm_st_eq)
  · refine qm_G.s1 rfl (qm_x_aload rfl) ?_
    refine qm_G.s1 rfl (qm_x_pushI 1 rfl) ?_
    refine qm_G.s1 rfl (qm_x_putfZ (u_sd 47 rfl) (by decide)) ?_
    refine qm_G.sp (lv1 := [(0, qm_R (some (0, 47, 0))), (1, qm_I (qm_i 0))]) rfl rfl (qm_x_aload rfl) ?_
    refine qm_G.s1 rfl (qm_x_iload rfl) ?_
    refine qm_G.s1 rfl (qm_x_putfI (u_sd 47 rfl)) ?_
    exact qm_G.retv rfl (k _ (fun r s i h => by rw [qm_st_ne (by omega), qm_st_ne (by omega)]) qm_st_eq)
