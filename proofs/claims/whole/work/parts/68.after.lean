/-! AFTER: the loops over the events -/
def qm_la (kd nm : Nat → Int) (c : Int) : Nat → Nat → Int → Int
  | 0, _, v => v
  | n + 1, i, v => qm_la kd nm c n (i + 1) (if kd i = c then nm i else v)
theorem qm_la_y {kd nm : Nat → Int} {c v : Int} {n i : Nat} (h : kd i = c) : qm_la kd nm c (n + 1) i v = qm_la kd nm c n (i + 1) (nm i) := by
  show qm_la kd nm c n (i + 1) (if kd i = c then nm i else v) = _
  rw [if_pos h]
theorem qm_la_n {kd nm : Nat → Int} {c v : Int} {n i : Nat} (h : ¬ kd i = c) : qm_la kd nm c (n + 1) i v = qm_la kd nm c n (i + 1) v := by
  show qm_la kd nm c n (i + 1) (if kd i = c then nm i else v) = _
  rw [if_neg h]
theorem qm_la_rng {kd nm : Nat → Int} {c lo hi : Int} (he : ∀ j, j < 8 → kd j = c → lo ≤ nm j ∧ nm j ≤ hi) : ∀ (n i : Nat) (v : Int), i + n ≤ 8 → lo ≤ v ∧ v ≤ hi → lo ≤ qm_la kd nm c n i v ∧ qm_la kd nm c n i v ≤ hi := by
  intro n
  induction n with
  | zero => intro i v _ h; exact h
  | succ n ih =>
    intro i v h1 h2
    refine ih (i + 1) _ (by omega) ?_
    split
    · rename_i h3; exact he i (by omega) h3
    · exact h2
def qm_p2 (n : Int) : Int := if n = 0 then 1 else if n = 1 then 2 else if n = 2 then 4 else 8
def qm_sb (g n : Int) : Int := if g / qm_p2 n % 2 = 1 then g else g + qm_p2 n
def qm_gn (kd nm : Nat → Int) : Nat → Nat → Int → Int
  | 0, _, g => g
  | n + 1, i, g => qm_gn kd nm n (i + 1) (if kd i = 3 then qm_sb g (nm i) else g)
theorem qm_gn_y {kd nm : Nat → Int} {g : Int} {n i : Nat} (h : kd i = 3) : qm_gn kd nm (n + 1) i g = qm_gn kd nm n (i + 1) (qm_sb g (nm i)) := by
  show qm_gn kd nm n (i + 1) (if kd i = 3 then qm_sb g (nm i) else g) = _
  rw [if_pos h]
theorem qm_gn_n {kd nm : Nat → Int} {g : Int} {n i : Nat} (h : ¬ kd i = 3) : qm_gn kd nm (n + 1) i g = qm_gn kd nm n (i + 1) g := by
  show qm_gn kd nm n (i + 1) (if kd i = 3 then qm_sb g (nm i) else g) = _
  rw [if_neg h]
theorem qm_sb_ok {g n : Int} (hg : 0 ≤ g ∧ g ≤ 15) (hn : 0 ≤ n ∧ n ≤ 3) : (0 ≤ qm_sb g n ∧ qm_sb g n ≤ 15) ∧ ∀ m : Int, 0 ≤ m → m ≤ 3 → qm_sb g n / qm_p2 m % 2 = if m = n then 1 else g / qm_p2 m % 2 := by
  have h : ∀ a : Nat, a < 16 → ∀ b : Nat, b < 4 → (0 ≤ qm_sb a b ∧ qm_sb a b ≤ 15) ∧ ∀ c : Nat, c < 4 → qm_sb a b / qm_p2 c % 2 = if (c : Int) = b then 1 else (a : Int) / qm_p2 c % 2 := by decide +kernel
  obtain ⟨a, rfl⟩ := Int.eq_ofNat_of_zero_le hg.1
  obtain ⟨b, rfl⟩ := Int.eq_ofNat_of_zero_le hn.1
  refine ⟨(h a (by omega) b (by omega)).1, fun m h1 h2 => ?_⟩
  obtain ⟨c, rfl⟩ := Int.eq_ofNat_of_zero_le h1
  exact (h a (by omega) b (by omega)).2 c (by omega)
theorem qm_gn_rng {kd nm : Nat → Int} (he : ∀ j, j < 8 → kd j = 3 → 0 ≤ nm j ∧ nm j ≤ 3) : ∀ (n i : Nat) (g : Int), i + n ≤ 8 → 0 ≤ g ∧ g ≤ 15 → 0 ≤ qm_gn kd nm n i g ∧ qm_gn kd nm n i g ≤ 15 := by
  intro n
  induction n with
  | zero => intro i g _ h; exact h
  | succ n ih =>
    intro i g h1 h2
    refine ih (i + 1) _ (by omega) ?_
    split
    · rename_i h3; exact (qm_sb_ok h2 (he i (by omega) h3)).1
    · exact h2
theorem qm_x_ishl1 {n : Nat} {lv : qm_Lv} {st : List qm_V} {h : qm_Hp} {x : Int} (hx : 0 ≤ x ∧ x ≤ 3) : qm_St (qm_o_ishl n) lv (qm_I (qm_i x) :: qm_I (qm_i 1) :: st) h n lv (qm_I (qm_i (qm_p2 x)) :: st) h := by
  show some (n, lv, qm_I (qm_i 1 <<< (qm_i x &&& 31)) :: st, h) = _
  have k : ∀ a : Nat, a < 4 → qm_i 1 <<< (qm_i (a : Int) &&& 31) = qm_i (qm_p2 a) := by decide +kernel
  obtain ⟨a, rfl⟩ := Int.eq_ofNat_of_zero_le hx.1
  rw [k a (by omega)]
theorem qm_x_ior4 {n : Nat} {lv : qm_Lv} {st : List qm_V} {h : qm_Hp} {g x : Int} (hg : 0 ≤ g ∧ g ≤ 15) (hx : 0 ≤ x ∧ x ≤ 3) : qm_St (qm_o_ior n) lv (qm_I (qm_i (qm_p2 x)) :: qm_I (qm_i g) :: st) h n lv (qm_I (qm_i (qm_sb g x)) :: st) h := by
  show some (n, lv, qm_I (qm_i g ||| qm_i (qm_p2 x)) :: st, h) = _
  have k : ∀ a : Nat, a < 16 → ∀ b : Nat, b < 4 → qm_i (a : Int) ||| qm_i (qm_p2 (b : Int)) = qm_i (qm_sb a b) := by decide +kernel
  obtain ⟨a, rfl⟩ := Int.eq_ofNat_of_zero_le hg.1
  obtain ⟨b, rfl⟩ := Int.eq_ofNat_of_zero_le hx.1
  rw [k a (by omega) b (by omega)]
def qm_so (x : Int) : Int := if x = 0 then 3 else if x = 1 then 1 else if x = 2 then 2 else -1
theorem qm_so_f {x : Int} (hx : 0 ≤ x ∧ x ≤ 3) : (qm_so x = 3 ↔ x = 0) ∧ (qm_so x = 1 ↔ x = 1) ∧ (qm_so x = 2 ↔ x = 2) ∧ (-1 ≤ qm_so x ∧ qm_so x ≤ 3) := by
  unfold qm_so
  repeat' split
  all_goals omega
theorem qm_v_sof {S : List qm_Sh} {J K : qm_J} {L : qm_Ct Int64} {D : qm_Ct UInt64} {R : qm_Ct (Option qm_Rf)} {X : Nat × (Nat → Int32)} {Q : Option qm_V → qm_Hp → Prop} {x : Int} (rx : 0 ≤ x ∧ x ≤ 3) (k : Q (some (qm_I (qm_i (qm_so x)))) (qm_H S J K L D R X)) : qm_C qm_P 94 [qm_I (qm_i x)] (qm_H S J K L D R X) Q := by
  rcases (show x = 0 ∨ x = 1 ∨ x = 2 ∨ x = 3 by omega) with c | c | c | c
  · subst c
    refine qm_C.go (cd := qm_P94) (lv := [(0, qm_I (qm_i 0))]) rfl rfl ?_
    refine qm_G.s1 rfl (qm_x_iload rfl) ?_
    refine qm_G.s1 rfl (qm_x_pushI 0 rfl) ?_
    refine qm_G.s1 rfl (qm_x_push) ?_
    refine qm_G.s1 rfl (qm_x_alen1 (len := 3) rfl) ?_
    refine qm_G.s1 rfl (qm_x_pushI 1 rfl) ?_
    refine qm_G.s1 rfl (qm_x_isub) ?_
    refine qm_G.cs rfl rfl rfl ?_
    refine qm_v_within10_t ⟨by decide, by decide⟩ ⟨by decide, by decide⟩ ⟨by decide, by decide⟩ (by decide) ⟨_, rfl, ?_⟩
    refine qm_G.s1 rfl (qm_x_if_eq_f ⟨by decide, by decide⟩ (by decide)) ?_
    refine qm_G.s1 rfl (qm_x_push) ?_
    refine qm_G.s1 rfl (qm_x_iload rfl) ?_
    refine qm_G.s1 rfl (qm_x_iald1 (v := 3) rfl rfl (by decide) (by decide) rfl) ?_
    refine qm_G.s1 rfl (qm_x_goto) ?_
    exact qm_G.ret rfl rfl k
  · subst c
    refine qm_C.go (cd := qm_P94) (lv := [(0, qm_I (qm_i 1))]) rfl rfl ?_
    refine qm_G.s1 rfl (qm_x_iload rfl) ?_
    refine qm_G.s1 rfl (qm_x_pushI 0 rfl) ?_
    refine qm_G.s1 rfl (qm_x_push) ?_
    refine qm_G.s1 rfl (qm_x_alen1 (len := 3) rfl) ?_
    refine qm_G.s1 rfl (qm_x_pushI 1 rfl) ?_
    refine qm_G.s1 rfl (qm_x_isub) ?_
    refine qm_G.cs rfl rfl rfl ?_
    refine qm_v_within10_t ⟨by decide, by decide⟩ ⟨by decide, by decide⟩ ⟨by decide, by decide⟩ (by decide) ⟨_, rfl, ?_⟩
    refine qm_G.s1 rfl (qm_x_if_eq_f ⟨by decide, by decide⟩ (by decide)) ?_
    refine qm_G.s1 rfl (qm_x_push) ?_
    refine qm_G.s1 rfl (qm_x_iload rfl) ?_
    refine qm_G.s1 rfl (qm_x_iald1 (v := 1) rfl rfl (by decide) (by decide) rfl) ?_
    refine qm_G.s1 rfl (qm_x_goto) ?_
    exact qm_G.ret rfl rfl k
  · subst c
    refine qm_C.go (cd := qm_P94) (lv := [(0, qm_I (qm_i 2))]) rfl rfl ?_
    refine qm_G.s1 rfl (qm_x_iload rfl) ?_
    refine qm_G.s1 rfl (qm_x_pushI 0 rfl) ?_
    refine qm_G.s1 rfl (qm_x_push) ?_
    refine qm_G.s1 rfl (qm_x_alen1 (len := 3) rfl) ?_
    refine qm_G.s1 rfl (qm_x_pushI 1 rfl) ?_
    refine qm_G.s1 rfl (qm_x_isub) ?_
    refine qm_G.cs rfl rfl rfl ?_
    refine qm_v_within10_t ⟨by decide, by decide⟩ ⟨by decide, by decide⟩ ⟨by decide, by decide⟩ (by decide) ⟨_, rfl, ?_⟩
    refine qm_G.s1 rfl (qm_x_if_eq_f ⟨by decide, by decide⟩ (by decide)) ?_
    refine qm_G.s1 rfl (qm_x_push) ?_
    refine qm_G.s1 rfl (qm_x_iload rfl) ?_
    refine qm_G.s1 rfl (qm_x_iald1 (v := 2) rfl rfl (by decide) (by decide) rfl) ?_
    refine qm_G.s1 rfl (qm_x_goto) ?_
    exact qm_G.ret rfl rfl k
  · subst c
    refine qm_C.go (cd := qm_P94) (lv := [(0, qm_I (qm_i 3))]) rfl rfl ?_
    refine qm_G.s1 rfl (qm_x_iload rfl) ?_
    refine qm_G.s1 rfl (qm_x_pushI 0 rfl) ?_
    refine qm_G.s1 rfl (qm_x_push) ?_
    refine qm_G.s1 rfl (qm_x_alen1 (len := 3) rfl) ?_
    refine qm_G.s1 rfl (qm_x_pushI 1 rfl) ?_
    refine qm_G.s1 rfl (qm_x_isub) ?_
    refine qm_G.cs rfl rfl rfl ?_
    refine qm_v_within10_f ⟨by decide, by decide⟩ ⟨by decide, by decide⟩ ⟨by decide, by decide⟩ (by decide) ⟨_, rfl, ?_⟩
    refine qm_G.s1 rfl (qm_x_if_eq_t ⟨by decide, by decide⟩ (by decide)) ?_
    refine qm_G.sp (lv1 := []) rfl rfl (qm_x_pushI (-1) rfl) ?_
    exact qm_G.ret rfl rfl k
theorem qm_d_la0 {S : List qm_Sh} {J K : qm_J} {L : qm_Ct Int64} {D : qm_Ct UInt64} {R : qm_Ct (Option qm_Rf)} {X : Nat × (Nat → Int32)} {Q : Option qm_V → qm_Hp → Prop} {cnt : Int} (hS : qm_Sd S) (hR : qm_Rd R) (hc : J 11 0 6 = cnt) (rc : 0 ≤ cnt ∧ cnt ≤ 8) (rk : ∀ j, j < 8 → 0 ≤ J 15 0 j ∧ J 15 0 j ≤ 3) (rn : ∀ j, j < 8 → 0 ≤ J 16 0 j ∧ J 16 0 j ≤ 99) (r3 : ∀ j, j < 8 → J 15 0 j = 3 → J 16 0 j ≤ 3) : ∀ (n : Nat) (i v : Int), i + n = cnt → 0 ≤ i → Q (some (qm_I (qm_i (qm_la (J 15 0) (J 16 0) 0 n (Int.toNat i) v)))) (qm_H S J K L D R X) → qm_G qm_P qm_P133 5 [(0, qm_R (some (0, 11, 0))), (1, qm_I (qm_i 3)), (3, qm_I (qm_i v)), (4, qm_I (qm_i i))] [] (qm_H S J K L D R X) Q := by
  intro n
  induction n with
  | zero =>
    intro i v h1 h2 k
    refine qm_G.pk (lv1 := [(0, qm_R (some (0, 11, 0))), (1, qm_I (qm_i 3)), (3, qm_I (qm_i v)), (4, qm_I (qm_i i))]) rfl rfl rfl ?_
    refine qm_G.sp (lv1 := [(0, qm_R (some (0, 11, 0))), (1, qm_I (qm_i 3)), (3, qm_I (qm_i v)), (4, qm_I (qm_i i))]) rfl rfl (qm_x_iload rfl) ?_
    refine qm_G.s1 rfl (qm_x_aload rfl) ?_
    refine qm_G.s1 rfl (qm_x_getfI (v := cnt) (hS 11 rfl) hc) ?_
    refine qm_G.s1 rfl (qm_x_icmp_ge_t ⟨by omega, by omega⟩ ⟨by omega, by omega⟩ (by omega)) ?_
    refine qm_G.sp (lv1 := [(3, qm_I (qm_i v))]) rfl rfl (qm_x_iload rfl) ?_
    exact qm_G.ret rfl rfl k
  | succ n ih =>
    intro i v h1 h2 k
    have h3 : i < cnt := by omega
    refine qm_G.pk (lv1 := [(0, qm_R (some (0, 11, 0))), (1, qm_I (qm_i 3)), (3, qm_I (qm_i v)), (4, qm_I (qm_i i))]) rfl rfl rfl ?_
    refine qm_G.sp (lv1 := [(0, qm_R (some (0, 11, 0))), (1, qm_I (qm_i 3)), (3, qm_I (qm_i v)), (4, qm_I (qm_i i))]) rfl rfl (qm_x_iload rfl) ?_
    refine qm_G.s1 rfl (qm_x_aload rfl) ?_
    refine qm_G.s1 rfl (qm_x_getfI (v := cnt) (hS 11 rfl) hc) ?_
    refine qm_G.s1 rfl (qm_x_icmp_ge_f ⟨by omega, by omega⟩ ⟨by omega, by omega⟩ (by omega)) ?_
    refine qm_G.s1 rfl (qm_x_iload rfl) ?_
    refine qm_G.s1 rfl (qm_x_pushI 8 rfl) ?_
    refine qm_G.s1 rfl (qm_x_icmp_ge_f ⟨by omega, by omega⟩ ⟨by decide, by decide⟩ (by omega)) ?_
    refine qm_G.s1 rfl (qm_x_aload rfl) ?_
    refine qm_G.s1 rfl (qm_x_getfR (q := (some (0, 15, 0))) (hS 11 rfl) (hR 11 4 15 rfl rfl)) ?_
    refine qm_G.s1 rfl (qm_x_iload rfl) ?_
    have g15 := rk (Int.toNat i) (by omega)
    refine qm_G.s1 rfl (qm_x_iald (v := (J 15 0 (Int.toNat i))) (qm_arS hS rfl rfl) rfl (by omega) (by omega) (by decide) rfl) ?_
    refine qm_G.cs rfl rfl rfl ?_
    have w1f := qm_so_f (x := (J 15 0 (Int.toNat i))) (by omega)
    obtain ⟨w1, w1h⟩ : ∃ z, z = qm_so (J 15 0 (Int.toNat i)) := ⟨_, rfl⟩
    rw [← w1h] at w1f
    refine qm_v_sof (by omega) ⟨_, rfl, ?_⟩
    rw [← w1h]
    refine qm_G.s1 rfl (qm_x_iload rfl) ?_
    refine qm_y_icmp_ne rfl ⟨by omega, by omega⟩ ⟨by decide, by decide⟩ (fun c2 => ?_) (fun c2 => ?_)
    · refine qm_G.sp (lv1 := [(0, qm_R (some (0, 11, 0))), (1, qm_I (qm_i 3)), (3, qm_I (qm_i v)), (4, qm_I (qm_i i))]) rfl rfl (qm_x_iinc (lv' := [(4, qm_I (qm_i (i + 1))), (0, qm_R (some (0, 11, 0))), (1, qm_I (qm_i 3)), (3, qm_I (qm_i v))]) 1 rfl rfl rfl) ?_
      refine qm_G.s1 rfl (qm_x_goto) ?_
      refine qm_G.pk (lv1 := [(0, qm_R (some (0, 11, 0))), (1, qm_I (qm_i 3)), (3, qm_I (qm_i v)), (4, qm_I (qm_i (i + 1)))]) rfl rfl rfl ?_
      refine ih (i + 1) _ (by omega) (by omega) ?_
      rw [qm_la_n (by omega)] at k
      rw [show Int.toNat (i + 1) = Int.toNat i + 1 by omega]
      exact k
    · refine qm_G.s1 rfl (qm_x_aload rfl) ?_
      refine qm_G.s1 rfl (qm_x_getfR (q := (some (0, 16, 0))) (hS 11 rfl) (hR 11 5 16 rfl rfl)) ?_
      refine qm_G.s1 rfl (qm_x_iload rfl) ?_
      have g16 := rn (Int.toNat i) (by omega)
      have g17 := r3 (Int.toNat i) (by omega)
      refine qm_G.s1 rfl (qm_x_iald (v := (J 16 0 (Int.toNat i))) (qm_arS hS rfl rfl) rfl (by omega) (by omega) (by decide) rfl) ?_
      refine qm_G.s1 rfl (qm_x_istore (lv' := [(3, qm_I (qm_i (J 16 0 (Int.toNat i)))), (0, qm_R (some (0, 11, 0))), (1, qm_I (qm_i 3)), (4, qm_I (qm_i i))]) rfl) ?_
      refine qm_G.sp (lv1 := [(0, qm_R (some (0, 11, 0))), (1, qm_I (qm_i 3)), (3, qm_I (qm_i (J 16 0 (Int.toNat i)))), (4, qm_I (qm_i i))]) rfl rfl (qm_x_iinc (lv' := [(4, qm_I (qm_i (i + 1))), (0, qm_R (some (0, 11, 0))), (1, qm_I (qm_i 3)), (3, qm_I (qm_i (J 16 0 (Int.toNat i))))]) 1 rfl rfl rfl) ?_
      refine qm_G.s1 rfl (qm_x_goto) ?_
      refine qm_G.pk (lv1 := [(0, qm_R (some (0, 11, 0))), (1, qm_I (qm_i 3)), (3, qm_I (qm_i (J 16 0 (Int.toNat i)))), (4, qm_I (qm_i (i + 1)))]) rfl rfl rfl ?_
      refine ih (i + 1) _ (by omega) (by omega) ?_
      rw [qm_la_y (by omega)] at k
      rw [show Int.toNat (i + 1) = Int.toNat i + 1 by omega]
      exact k
theorem qm_d_last0 {S : List qm_Sh} {J K : qm_J} {L : qm_Ct Int64} {D : qm_Ct UInt64} {R : qm_Ct (Option qm_Rf)} {X : Nat × (Nat → Int32)} {Q : Option qm_V → qm_Hp → Prop} {cnt v : Int} (hS : qm_Sd S) (hR : qm_Rd R) (hc : J 11 0 6 = cnt) (rc : 0 ≤ cnt ∧ cnt ≤ 8) (rk : ∀ j, j < 8 → 0 ≤ J 15 0 j ∧ J 15 0 j ≤ 3) (rn : ∀ j, j < 8 → 0 ≤ J 16 0 j ∧ J 16 0 j ≤ 99) (r3 : ∀ j, j < 8 → J 15 0 j = 3 → J 16 0 j ≤ 3) (k : Q (some (qm_I (qm_i (qm_la (J 15 0) (J 16 0) 0 (Int.toNat cnt) 0 v)))) (qm_H S J K L D R X)) : qm_C qm_P 133 [qm_R (some (0, 11, 0)), qm_I (qm_i 3), qm_I (qm_i v)] (qm_H S J K L D R X) Q := by
  refine qm_C.go (cd := qm_P133) (lv := [(0, qm_R (some (0, 11, 0))), (1, qm_I (qm_i 3)), (2, qm_I (qm_i v))]) rfl rfl ?_
  refine qm_G.s1 rfl (qm_x_iload rfl) ?_
  refine qm_G.s1 rfl (qm_x_istore (lv' := [(3, qm_I (qm_i v)), (0, qm_R (some (0, 11, 0))), (1, qm_I (qm_i 3)), (2, qm_I (qm_i v))]) rfl) ?_
  refine qm_G.s1 rfl (qm_x_pushI 0 rfl) ?_
  refine qm_G.s1 rfl (qm_x_istore (lv' := [(4, qm_I (qm_i 0)), (3, qm_I (qm_i v)), (0, qm_R (some (0, 11, 0))), (1, qm_I (qm_i 3)), (2, qm_I (qm_i v))]) rfl) ?_
  refine qm_G.pk (lv1 := [(0, qm_R (some (0, 11, 0))), (1, qm_I (qm_i 3)), (3, qm_I (qm_i v)), (4, qm_I (qm_i 0))]) rfl rfl rfl ?_
  exact qm_d_la0 hS hR hc rc rk rn r3 (Int.toNat cnt) 0 v (by omega) (by decide) k
theorem qm_d_la1 {S : List qm_Sh} {J K : qm_J} {L : qm_Ct Int64} {D : qm_Ct UInt64} {R : qm_Ct (Option qm_Rf)} {X : Nat × (Nat → Int32)} {Q : Option qm_V → qm_Hp → Prop} {cnt : Int} (hS : qm_Sd S) (hR : qm_Rd R) (hc : J 11 0 6 = cnt) (rc : 0 ≤ cnt ∧ cnt ≤ 8) (rk : ∀ j, j < 8 → 0 ≤ J 15 0 j ∧ J 15 0 j ≤ 3) (rn : ∀ j, j < 8 → 0 ≤ J 16 0 j ∧ J 16 0 j ≤ 99) (r3 : ∀ j, j < 8 → J 15 0 j = 3 → J 16 0 j ≤ 3) : ∀ (n : Nat) (i v : Int), i + n = cnt → 0 ≤ i → Q (some (qm_I (qm_i (qm_la (J 15 0) (J 16 0) 1 n (Int.toNat i) v)))) (qm_H S J K L D R X) → qm_G qm_P qm_P133 5 [(0, qm_R (some (0, 11, 0))), (1, qm_I (qm_i 1)), (3, qm_I (qm_i v)), (4, qm_I (qm_i i))] [] (qm_H S J K L D R X) Q := by
  intro n
  induction n with
  | zero =>
    intro i v h1 h2 k
    refine qm_G.pk (lv1 := [(0, qm_R (some (0, 11, 0))), (1, qm_I (qm_i 1)), (3, qm_I (qm_i v)), (4, qm_I (qm_i i))]) rfl rfl rfl ?_
    refine qm_G.sp (lv1 := [(0, qm_R (some (0, 11, 0))), (1, qm_I (qm_i 1)), (3, qm_I (qm_i v)), (4, qm_I (qm_i i))]) rfl rfl (qm_x_iload rfl) ?_
    refine qm_G.s1 rfl (qm_x_aload rfl) ?_
    refine qm_G.s1 rfl (qm_x_getfI (v := cnt) (hS 11 rfl) hc) ?_
    refine qm_G.s1 rfl (qm_x_icmp_ge_t ⟨by omega, by omega⟩ ⟨by omega, by omega⟩ (by omega)) ?_
    refine qm_G.sp (lv1 := [(3, qm_I (qm_i v))]) rfl rfl (qm_x_iload rfl) ?_
    exact qm_G.ret rfl rfl k
  | succ n ih =>
    intro i v h1 h2 k
    have h3 : i < cnt := by omega
    refine qm_G.pk (lv1 := [(0, qm_R (some (0, 11, 0))), (1, qm_I (qm_i 1)), (3, qm_I (qm_i v)), (4, qm_I (qm_i i))]) rfl rfl rfl ?_
    refine qm_G.sp (lv1 := [(0, qm_R (some (0, 11, 0))), (1, qm_I (qm_i 1)), (3, qm_I (qm_i v)), (4, qm_I (qm_i i))]) rfl rfl (qm_x_iload rfl) ?_
    refine qm_G.s1 rfl (qm_x_aload rfl) ?_
    refine qm_G.s1 rfl (qm_x_getfI (v := cnt) (hS 11 rfl) hc) ?_
    refine qm_G.s1 rfl (qm_x_icmp_ge_f ⟨by omega, by omega⟩ ⟨by omega, by omega⟩ (by omega)) ?_
    refine qm_G.s1 rfl (qm_x_iload rfl) ?_
    refine qm_G.s1 rfl (qm_x_pushI 8 rfl) ?_
    refine qm_G.s1 rfl (qm_x_icmp_ge_f ⟨by omega, by omega⟩ ⟨by decide, by decide⟩ (by omega)) ?_
    refine qm_G.s1 rfl (qm_x_aload rfl) ?_
    refine qm_G.s1 rfl (qm_x_getfR (q := (some (0, 15, 0))) (hS 11 rfl) (hR 11 4 15 rfl rfl)) ?_
    refine qm_G.s1 rfl (qm_x_iload rfl) ?_
    have g15 := rk (Int.toNat i) (by omega)
    refine qm_G.s1 rfl (qm_x_iald (v := (J 15 0 (Int.toNat i))) (qm_arS hS rfl rfl) rfl (by omega) (by omega) (by decide) rfl) ?_
    refine qm_G.cs rfl rfl rfl ?_
    have w1f := qm_so_f (x := (J 15 0 (Int.toNat i))) (by omega)
    obtain ⟨w1, w1h⟩ : ∃ z, z = qm_so (J 15 0 (Int.toNat i)) := ⟨_, rfl⟩
    rw [← w1h] at w1f
    refine qm_v_sof (by omega) ⟨_, rfl, ?_⟩
    rw [← w1h]
    refine qm_G.s1 rfl (qm_x_iload rfl) ?_
    refine qm_y_icmp_ne rfl ⟨by omega, by omega⟩ ⟨by decide, by decide⟩ (fun c2 => ?_) (fun c2 => ?_)
    · refine qm_G.sp (lv1 := [(0, qm_R (some (0, 11, 0))), (1, qm_I (qm_i 1)), (3, qm_I (qm_i v)), (4, qm_I (qm_i i))]) rfl rfl (qm_x_iinc (lv' := [(4, qm_I (qm_i (i + 1))), (0, qm_R (some (0, 11, 0))), (1, qm_I (qm_i 1)), (3, qm_I (qm_i v))]) 1 rfl rfl rfl) ?_
      refine qm_G.s1 rfl (qm_x_goto) ?_
      refine qm_G.pk (lv1 := [(0, qm_R (some (0, 11, 0))), (1, qm_I (qm_i 1)), (3, qm_I (qm_i v)), (4, qm_I (qm_i (i + 1)))]) rfl rfl rfl ?_
      refine ih (i + 1) _ (by omega) (by omega) ?_
      rw [qm_la_n (by omega)] at k
      rw [show Int.toNat (i + 1) = Int.toNat i + 1 by omega]
      exact k
    · refine qm_G.s1 rfl (qm_x_aload rfl) ?_
      refine qm_G.s1 rfl (qm_x_getfR (q := (some (0, 16, 0))) (hS 11 rfl) (hR 11 5 16 rfl rfl)) ?_
      refine qm_G.s1 rfl (qm_x_iload rfl) ?_
      have g16 := rn (Int.toNat i) (by omega)
      have g17 := r3 (Int.toNat i) (by omega)
      refine qm_G.s1 rfl (qm_x_iald (v := (J 16 0 (Int.toNat i))) (qm_arS hS rfl rfl) rfl (by omega) (by omega) (by decide) rfl) ?_
      refine qm_G.s1 rfl (qm_x_istore (lv' := [(3, qm_I (qm_i (J 16 0 (Int.toNat i)))), (0, qm_R (some (0, 11, 0))), (1, qm_I (qm_i 1)), (4, qm_I (qm_i i))]) rfl) ?_
      refine qm_G.sp (lv1 := [(0, qm_R (some (0, 11, 0))), (1, qm_I (qm_i 1)), (3, qm_I (qm_i (J 16 0 (Int.toNat i)))), (4, qm_I (qm_i i))]) rfl rfl (qm_x_iinc (lv' := [(4, qm_I (qm_i (i + 1))), (0, qm_R (some (0, 11, 0))), (1, qm_I (qm_i 1)), (3, qm_I (qm_i (J 16 0 (Int.toNat i))))]) 1 rfl rfl rfl) ?_
      refine qm_G.s1 rfl (qm_x_goto) ?_
      refine qm_G.pk (lv1 := [(0, qm_R (some (0, 11, 0))), (1, qm_I (qm_i 1)), (3, qm_I (qm_i (J 16 0 (Int.toNat i)))), (4, qm_I (qm_i (i + 1)))]) rfl rfl rfl ?_
      refine ih (i + 1) _ (by omega) (by omega) ?_
      rw [qm_la_y (by omega)] at k
      rw [show Int.toNat (i + 1) = Int.toNat i + 1 by omega]
      exact k
theorem qm_d_last1 {S : List qm_Sh} {J K : qm_J} {L : qm_Ct Int64} {D : qm_Ct UInt64} {R : qm_Ct (Option qm_Rf)} {X : Nat × (Nat → Int32)} {Q : Option qm_V → qm_Hp → Prop} {cnt v : Int} (hS : qm_Sd S) (hR : qm_Rd R) (hc : J 11 0 6 = cnt) (rc : 0 ≤ cnt ∧ cnt ≤ 8) (rk : ∀ j, j < 8 → 0 ≤ J 15 0 j ∧ J 15 0 j ≤ 3) (rn : ∀ j, j < 8 → 0 ≤ J 16 0 j ∧ J 16 0 j ≤ 99) (r3 : ∀ j, j < 8 → J 15 0 j = 3 → J 16 0 j ≤ 3) (k : Q (some (qm_I (qm_i (qm_la (J 15 0) (J 16 0) 1 (Int.toNat cnt) 0 v)))) (qm_H S J K L D R X)) : qm_C qm_P 133 [qm_R (some (0, 11, 0)), qm_I (qm_i 1), qm_I (qm_i v)] (qm_H S J K L D R X) Q := by
  refine qm_C.go (cd := qm_P133) (lv := [(0, qm_R (some (0, 11, 0))), (1, qm_I (qm_i 1)), (2, qm_I (qm_i v))]) rfl rfl ?_
  refine qm_G.s1 rfl (qm_x_iload rfl) ?_
  refine qm_G.s1 rfl (qm_x_istore (lv' := [(3, qm_I (qm_i v)), (0, qm_R (some (0, 11, 0))), (1, qm_I (qm_i 1)), (2, qm_I (qm_i v))]) rfl) ?_
  refine qm_G.s1 rfl (qm_x_pushI 0 rfl) ?_
  refine qm_G.s1 rfl (qm_x_istore (lv' := [(4, qm_I (qm_i 0)), (3, qm_I (qm_i v)), (0, qm_R (some (0, 11, 0))), (1, qm_I (qm_i 1)), (2, qm_I (qm_i v))]) rfl) ?_
  refine qm_G.pk (lv1 := [(0, qm_R (some (0, 11, 0))), (1, qm_I (qm_i 1)), (3, qm_I (qm_i v)), (4, qm_I (qm_i 0))]) rfl rfl rfl ?_
  exact qm_d_la1 hS hR hc rc rk rn r3 (Int.toNat cnt) 0 v (by omega) (by decide) k
theorem qm_d_la2 {S : List qm_Sh} {J K : qm_J} {L : qm_Ct Int64} {D : qm_Ct UInt64} {R : qm_Ct (Option qm_Rf)} {X : Nat × (Nat → Int32)} {Q : Option qm_V → qm_Hp → Prop} {cnt : Int} (hS : qm_Sd S) (hR : qm_Rd R) (hc : J 11 0 6 = cnt) (rc : 0 ≤ cnt ∧ cnt ≤ 8) (rk : ∀ j, j < 8 → 0 ≤ J 15 0 j ∧ J 15 0 j ≤ 3) (rn : ∀ j, j < 8 → 0 ≤ J 16 0 j ∧ J 16 0 j ≤ 99) (r3 : ∀ j, j < 8 → J 15 0 j = 3 → J 16 0 j ≤ 3) : ∀ (n : Nat) (i v : Int), i + n = cnt → 0 ≤ i → Q (some (qm_I (qm_i (qm_la (J 15 0) (J 16 0) 2 n (Int.toNat i) v)))) (qm_H S J K L D R X) → qm_G qm_P qm_P133 5 [(0, qm_R (some (0, 11, 0))), (1, qm_I (qm_i 2)), (3, qm_I (qm_i v)), (4, qm_I (qm_i i))] [] (qm_H S J K L D R X) Q := by
  intro n
  induction n with
  | zero =>
    intro i v h1 h2 k
    refine qm_G.pk (lv1 := [(0, qm_R (some (0, 11, 0))), (1, qm_I (qm_i 2)), (3, qm_I (qm_i v)), (4, qm_I (qm_i i))]) rfl rfl rfl ?_
    refine qm_G.sp (lv1 := [(0, qm_R (some (0, 11, 0))), (1, qm_I (qm_i 2)), (3, qm_I (qm_i v)), (4, qm_I (qm_i i))]) rfl rfl (qm_x_iload rfl) ?_
    refine qm_G.s1 rfl (qm_x_aload rfl) ?_
    refine qm_G.s1 rfl (qm_x_getfI (v := cnt) (hS 11 rfl) hc) ?_
    refine qm_G.s1 rfl (qm_x_icmp_ge_t ⟨by omega, by omega⟩ ⟨by omega, by omega⟩ (by omega)) ?_
    refine qm_G.sp (lv1 := [(3, qm_I (qm_i v))]) rfl rfl (qm_x_iload rfl) ?_
    exact qm_G.ret rfl rfl k
  | succ n ih =>
    intro i v h1 h2 k
    have h3 : i < cnt := by omega
    refine qm_G.pk (lv1 := [(0, qm_R (some (0, 11, 0))), (1, qm_I (qm_i 2)), (3, qm_I (qm_i v)), (4, qm_I (qm_i i))]) rfl rfl rfl ?_
    refine qm_G.sp (lv1 := [(0, qm_R (some (0, 11, 0))), (1, qm_I (qm_i 2)), (3, qm_I (qm_i v)), (4, qm_I (qm_i i))]) rfl rfl (qm_x_iload rfl) ?_
    refine qm_G.s1 rfl (qm_x_aload rfl) ?_
    refine qm_G.s1 rfl (qm_x_getfI (v := cnt) (hS 11 rfl) hc) ?_
    refine qm_G.s1 rfl (qm_x_icmp_ge_f ⟨by omega, by omega⟩ ⟨by omega, by omega⟩ (by omega)) ?_
    refine qm_G.s1 rfl (qm_x_iload rfl) ?_
    refine qm_G.s1 rfl (qm_x_pushI 8 rfl) ?_
    refine qm_G.s1 rfl (qm_x_icmp_ge_f ⟨by omega, by omega⟩ ⟨by decide, by decide⟩ (by omega)) ?_
    refine qm_G.s1 rfl (qm_x_aload rfl) ?_
    refine qm_G.s1 rfl (qm_x_getfR (q := (some (0, 15, 0))) (hS 11 rfl) (hR 11 4 15 rfl rfl)) ?_
    refine qm_G.s1 rfl (qm_x_iload rfl) ?_
    have g15 := rk (Int.toNat i) (by omega)
    refine qm_G.s1 rfl (qm_x_iald (v := (J 15 0 (Int.toNat i))) (qm_arS hS rfl rfl) rfl (by omega) (by omega) (by decide) rfl) ?_
    refine qm_G.cs rfl rfl rfl ?_
    have w1f := qm_so_f (x := (J 15 0 (Int.toNat i))) (by omega)
    obtain ⟨w1, w1h⟩ : ∃ z, z = qm_so (J 15 0 (Int.toNat i)) := ⟨_, rfl⟩
    rw [← w1h] at w1f
    refine qm_v_sof (by omega) ⟨_, rfl, ?_⟩
    rw [← w1h]
    refine qm_G.s1 rfl (qm_x_iload rfl) ?_
    refine qm_y_icmp_ne rfl ⟨by omega, by omega⟩ ⟨by decide, by decide⟩ (fun c2 => ?_) (fun c2 => ?_)
    · refine qm_G.sp (lv1 := [(0, qm_R (some (0, 11, 0))), (1, qm_I (qm_i 2)), (3, qm_I (qm_i v)), (4, qm_I (qm_i i))]) rfl rfl (qm_x_iinc (lv' := [(4, qm_I (qm_i (i + 1))), (0, qm_R (some (0, 11, 0))), (1, qm_I (qm_i 2)), (3, qm_I (qm_i v))]) 1 rfl rfl rfl) ?_
      refine qm_G.s1 rfl (qm_x_goto) ?_
      refine qm_G.pk (lv1 := [(0, qm_R (some (0, 11, 0))), (1, qm_I (qm_i 2)), (3, qm_I (qm_i v)), (4, qm_I (qm_i (i + 1)))]) rfl rfl rfl ?_
      refine ih (i + 1) _ (by omega) (by omega) ?_
      rw [qm_la_n (by omega)] at k
      rw [show Int.toNat (i + 1) = Int.toNat i + 1 by omega]
      exact k
    · refine qm_G.s1 rfl (qm_x_aload rfl) ?_
      refine qm_G.s1 rfl (qm_x_getfR (q := (some (0, 16, 0))) (hS 11 rfl) (hR 11 5 16 rfl rfl)) ?_
      refine qm_G.s1 rfl (qm_x_iload rfl) ?_
      have g16 := rn (Int.toNat i) (by omega)
      have g17 := r3 (Int.toNat i) (by omega)
      refine qm_G.s1 rfl (qm_x_iald (v := (J 16 0 (Int.toNat i))) (qm_arS hS rfl rfl) rfl (by omega) (by omega) (by decide) rfl) ?_
      refine qm_G.s1 rfl (qm_x_istore (lv' := [(3, qm_I (qm_i (J 16 0 (Int.toNat i)))), (0, qm_R (some (0, 11, 0))), (1, qm_I (qm_i 2)), (4, qm_I (qm_i i))]) rfl) ?_
      refine qm_G.sp (lv1 := [(0, qm_R (some (0, 11, 0))), (1, qm_I (qm_i 2)), (3, qm_I (qm_i (J 16 0 (Int.toNat i)))), (4, qm_I (qm_i i))]) rfl rfl (qm_x_iinc (lv' := [(4, qm_I (qm_i (i + 1))), (0, qm_R (some (0, 11, 0))), (1, qm_I (qm_i 2)), (3, qm_I (qm_i (J 16 0 (Int.toNat i))))]) 1 rfl rfl rfl) ?_
      refine qm_G.s1 rfl (qm_x_goto) ?_
      refine qm_G.pk (lv1 := [(0, qm_R (some (0, 11, 0))), (1, qm_I (qm_i 2)), (3, qm_I (qm_i (J 16 0 (Int.toNat i)))), (4, qm_I (qm_i (i + 1)))]) rfl rfl rfl ?_
      refine ih (i + 1) _ (by omega) (by omega) ?_
      rw [qm_la_y (by omega)] at k
      rw [show Int.toNat (i + 1) = Int.toNat i + 1 by omega]
      exact k
theorem qm_d_last2 {S : List qm_Sh} {J K : qm_J} {L : qm_Ct Int64} {D : qm_Ct UInt64} {R : qm_Ct (Option qm_Rf)} {X : Nat × (Nat → Int32)} {Q : Option qm_V → qm_Hp → Prop} {cnt v : Int} (hS : qm_Sd S) (hR : qm_Rd R) (hc : J 11 0 6 = cnt) (rc : 0 ≤ cnt ∧ cnt ≤ 8) (rk : ∀ j, j < 8 → 0 ≤ J 15 0 j ∧ J 15 0 j ≤ 3) (rn : ∀ j, j < 8 → 0 ≤ J 16 0 j ∧ J 16 0 j ≤ 99) (r3 : ∀ j, j < 8 → J 15 0 j = 3 → J 16 0 j ≤ 3) (k : Q (some (qm_I (qm_i (qm_la (J 15 0) (J 16 0) 2 (Int.toNat cnt) 0 v)))) (qm_H S J K L D R X)) : qm_C qm_P 133 [qm_R (some (0, 11, 0)), qm_I (qm_i 2), qm_I (qm_i v)] (qm_H S J K L D R X) Q := by
  refine qm_C.go (cd := qm_P133) (lv := [(0, qm_R (some (0, 11, 0))), (1, qm_I (qm_i 2)), (2, qm_I (qm_i v))]) rfl rfl ?_
  refine qm_G.s1 rfl (qm_x_iload rfl) ?_
  refine qm_G.s1 rfl (qm_x_istore (lv' := [(3, qm_I (qm_i v)), (0, qm_R (some (0, 11, 0))), (1, qm_I (qm_i 2)), (2, qm_I (qm_i v))]) rfl) ?_
  refine qm_G.s1 rfl (qm_x_pushI 0 rfl) ?_
  refine qm_G.s1 rfl (qm_x_istore (lv' := [(4, qm_I (qm_i 0)), (3, qm_I (qm_i v)), (0, qm_R (some (0, 11, 0))), (1, qm_I (qm_i 2)), (2, qm_I (qm_i v))]) rfl) ?_
  refine qm_G.pk (lv1 := [(0, qm_R (some (0, 11, 0))), (1, qm_I (qm_i 2)), (3, qm_I (qm_i v)), (4, qm_I (qm_i 0))]) rfl rfl rfl ?_
  exact qm_d_la2 hS hR hc rc rk rn r3 (Int.toNat cnt) 0 v (by omega) (by decide) k
theorem qm_d_pe {S : List qm_Sh} {J K : qm_J} {L : qm_Ct Int64} {D : qm_Ct UInt64} {R : qm_Ct (Option qm_Rf)} {X : Nat × (Nat → Int32)} {Q : Option qm_V → qm_Hp → Prop} {cnt : Int} (hS : qm_Sd S) (hR : qm_Rd R) (hc : J 11 0 6 = cnt) (rc : 0 ≤ cnt ∧ cnt ≤ 8) (rk : ∀ j, j < 8 → 0 ≤ J 15 0 j ∧ J 15 0 j ≤ 3) (rn : ∀ j, j < 8 → 0 ≤ J 16 0 j ∧ J 16 0 j ≤ 99) (r3 : ∀ j, j < 8 → J 15 0 j = 3 → J 16 0 j ≤ 3) : ∀ (n : Nat) (i g : Int), i + n = cnt → 0 ≤ i → (0 ≤ g ∧ g ≤ 15) → Q (some (qm_I (qm_i (qm_gn (J 15 0) (J 16 0) n (Int.toNat i) g)))) (qm_H S J K L D R X) → qm_G qm_P qm_P41 4 [(0, qm_R (some (0, 11, 0))), (1, qm_I (qm_i g)), (2, qm_I (qm_i i))] [] (qm_H S J K L D R X) Q := by
  intro n
  induction n with
  | zero =>
    intro i g h1 h2 hg k
    refine qm_G.pk (lv1 := [(0, qm_R (some (0, 11, 0))), (1, qm_I (qm_i g)), (2, qm_I (qm_i i))]) rfl rfl rfl ?_
    refine qm_G.sp (lv1 := [(0, qm_R (some (0, 11, 0))), (1, qm_I (qm_i g)), (2, qm_I (qm_i i))]) rfl rfl (qm_x_iload rfl) ?_
    refine qm_G.s1 rfl (qm_x_aload rfl) ?_
    refine qm_G.s1 rfl (qm_x_getfI (v := cnt) (hS 11 rfl) hc) ?_
    refine qm_G.s1 rfl (qm_x_icmp_ge_t ⟨by omega, by omega⟩ ⟨by omega, by omega⟩ (by omega)) ?_
    refine qm_G.sp (lv1 := [(1, qm_I (qm_i g))]) rfl rfl (qm_x_iload rfl) ?_
    exact qm_G.ret rfl rfl k
  | succ n ih =>
    intro i g h1 h2 hg k
    have h3 : i < cnt := by omega
    refine qm_G.pk (lv1 := [(0, qm_R (some (0, 11, 0))), (1, qm_I (qm_i g)), (2, qm_I (qm_i i))]) rfl rfl rfl ?_
    refine qm_G.sp (lv1 := [(0, qm_R (some (0, 11, 0))), (1, qm_I (qm_i g)), (2, qm_I (qm_i i))]) rfl rfl (qm_x_iload rfl) ?_
    refine qm_G.s1 rfl (qm_x_aload rfl) ?_
    refine qm_G.s1 rfl (qm_x_getfI (v := cnt) (hS 11 rfl) hc) ?_
    refine qm_G.s1 rfl (qm_x_icmp_ge_f ⟨by omega, by omega⟩ ⟨by omega, by omega⟩ (by omega)) ?_
    refine qm_G.s1 rfl (qm_x_iload rfl) ?_
    refine qm_G.s1 rfl (qm_x_pushI 8 rfl) ?_
    refine qm_G.s1 rfl (qm_x_icmp_ge_f ⟨by omega, by omega⟩ ⟨by decide, by decide⟩ (by omega)) ?_
    refine qm_G.s1 rfl (qm_x_aload rfl) ?_
    refine qm_G.s1 rfl (qm_x_getfR (q := (some (0, 15, 0))) (hS 11 rfl) (hR 11 4 15 rfl rfl)) ?_
    refine qm_G.s1 rfl (qm_x_iload rfl) ?_
    have g15 := rk (Int.toNat i) (by omega)
    refine qm_G.s1 rfl (qm_x_iald (v := (J 15 0 (Int.toNat i))) (qm_arS hS rfl rfl) rfl (by omega) (by omega) (by decide) rfl) ?_
    refine qm_G.s1 rfl (qm_x_pushI 3 rfl) ?_
    refine qm_y_icmp_ne rfl ⟨by omega, by omega⟩ ⟨by decide, by decide⟩ (fun c1 => ?_) (fun c1 => ?_)
    · refine qm_G.sp (lv1 := [(0, qm_R (some (0, 11, 0))), (1, qm_I (qm_i g)), (2, qm_I (qm_i i))]) rfl rfl (qm_x_iinc (lv' := [(2, qm_I (qm_i (i + 1))), (0, qm_R (some (0, 11, 0))), (1, qm_I (qm_i g))]) 1 rfl rfl rfl) ?_
      refine qm_G.s1 rfl (qm_x_goto) ?_
      refine qm_G.pk (lv1 := [(0, qm_R (some (0, 11, 0))), (1, qm_I (qm_i g)), (2, qm_I (qm_i (i + 1)))]) rfl rfl rfl ?_
      refine ih (i + 1) _ (by omega) (by omega) hg ?_
      rw [qm_gn_n (by omega)] at k
      rw [show Int.toNat (i + 1) = Int.toNat i + 1 by omega]
      exact k
    · refine qm_G.s1 rfl (qm_x_iload rfl) ?_
      refine qm_G.s1 rfl (qm_x_pushI 1 rfl) ?_
      refine qm_G.s1 rfl (qm_x_aload rfl) ?_
      refine qm_G.s1 rfl (qm_x_getfR (q := (some (0, 16, 0))) (hS 11 rfl) (hR 11 5 16 rfl rfl)) ?_
      refine qm_G.s1 rfl (qm_x_iload rfl) ?_
      have g16 := rn (Int.toNat i) (by omega)
      have g17 := r3 (Int.toNat i) (by omega)
      refine qm_G.s1 rfl (qm_x_iald (v := (J 16 0 (Int.toNat i))) (qm_arS hS rfl rfl) rfl (by omega) (by omega) (by decide) rfl) ?_
      refine qm_G.s1 rfl (qm_x_ishl1 (by omega)) ?_
      refine qm_G.s1 rfl (qm_x_ior4 (by omega) (by omega)) ?_
      refine qm_G.s1 rfl (qm_x_istore (lv' := [(1, qm_I (qm_i (qm_sb g (J 16 0 (Int.toNat i))))), (0, qm_R (some (0, 11, 0))), (2, qm_I (qm_i i))]) rfl) ?_
      refine qm_G.sp (lv1 := [(0, qm_R (some (0, 11, 0))), (1, qm_I (qm_i (qm_sb g (J 16 0 (Int.toNat i))))), (2, qm_I (qm_i i))]) rfl rfl (qm_x_iinc (lv' := [(2, qm_I (qm_i (i + 1))), (0, qm_R (some (0, 11, 0))), (1, qm_I (qm_i (qm_sb g (J 16 0 (Int.toNat i)))))]) 1 rfl rfl rfl) ?_
      refine qm_G.s1 rfl (qm_x_goto) ?_
      refine qm_G.pk (lv1 := [(0, qm_R (some (0, 11, 0))), (1, qm_I (qm_i (qm_sb g (J 16 0 (Int.toNat i))))), (2, qm_I (qm_i (i + 1)))]) rfl rfl rfl ?_
      refine ih (i + 1) _ (by omega) (by omega) (qm_sb_ok hg (by omega)).1 ?_
      rw [qm_gn_y (by omega)] at k
      rw [show Int.toNat (i + 1) = Int.toNat i + 1 by omega]
      exact k
theorem qm_d_gone {S : List qm_Sh} {J K : qm_J} {L : qm_Ct Int64} {D : qm_Ct UInt64} {R : qm_Ct (Option qm_Rf)} {X : Nat × (Nat → Int32)} {Q : Option qm_V → qm_Hp → Prop} {cnt : Int} (hS : qm_Sd S) (hR : qm_Rd R) (hc : J 11 0 6 = cnt) (rc : 0 ≤ cnt ∧ cnt ≤ 8) (rk : ∀ j, j < 8 → 0 ≤ J 15 0 j ∧ J 15 0 j ≤ 3) (rn : ∀ j, j < 8 → 0 ≤ J 16 0 j ∧ J 16 0 j ≤ 99) (r3 : ∀ j, j < 8 → J 15 0 j = 3 → J 16 0 j ≤ 3) (k : Q (some (qm_I (qm_i (qm_gn (J 15 0) (J 16 0) (Int.toNat cnt) 0 0)))) (qm_H S J K L D R X)) : qm_C qm_P 41 [qm_R (some (0, 11, 0))] (qm_H S J K L D R X) Q := by
  refine qm_C.go (cd := qm_P41) (lv := [(0, qm_R (some (0, 11, 0)))]) rfl rfl ?_
  refine qm_G.s1 rfl (qm_x_pushI 0 rfl) ?_
  refine qm_G.s1 rfl (qm_x_istore (lv' := [(1, qm_I (qm_i 0)), (0, qm_R (some (0, 11, 0)))]) rfl) ?_
  refine qm_G.s1 rfl (qm_x_pushI 0 rfl) ?_
  refine qm_G.s1 rfl (qm_x_istore (lv' := [(2, qm_I (qm_i 0)), (1, qm_I (qm_i 0)), (0, qm_R (some (0, 11, 0)))]) rfl) ?_
  refine qm_G.pk (lv1 := [(0, qm_R (some (0, 11, 0))), (1, qm_I (qm_i 0)), (2, qm_I (qm_i 0))]) rfl rfl rfl ?_
  exact qm_d_pe hS hR hc rc rk rn r3 (Int.toNat cnt) 0 0 (by omega) (by decide) (by decide) k
theorem qm_m_ev0 {S : List qm_Sh} {K : qm_J} {L : qm_Ct Int64} {D : qm_Ct UInt64} {R : qm_Ct (Option qm_Rf)} {X : Nat × (Nat → Int32)} {Q : Option qm_V → qm_Hp → Prop} {N kd nm : Nat → Int} {a b c d e f h cnt : Int} (hS : qm_Sd S) (hR : qm_Rd R) (rc : 0 ≤ cnt ∧ cnt ≤ 8) (rk : ∀ j, j < 8 → 0 ≤ kd j ∧ kd j ≤ 3) (rn : ∀ j, j < 8 → 0 ≤ nm j ∧ nm j ≤ 99) (r3 : ∀ j, j < 8 → kd j = 3 → nm j ≤ 3) : ∀ (n : Nat) (i F M O g : Int) (J : qm_J), i + n = cnt → 0 ≤ i → (0 ≤ g ∧ g ≤ 15) → J 62 0 13 = cnt → (∀ j, j < 8 → J 62 0 (111 + 2 * j) = kd j ∧ J 62 0 (112 + 2 * j) = nm j) → J 62 0 3 = F → J 62 0 1 = M → J 62 0 2 = O → (∀ m : Nat, m < 4 → J 62 0 (50 + m) = if g / qm_p2 m % 2 = 1 then -5 else N (50 + m)) → (∀ J' : qm_J, (∀ r s x, ¬ (r = 62 ∧ s = 0 ∧ (1 ≤ x ∧ x ≤ 3 ∨ 50 ≤ x ∧ x < 54)) → J' r s x = J r s x) → J' 62 0 3 = qm_la kd nm 0 n (Int.toNat i) F → J' 62 0 1 = qm_la kd nm 1 n (Int.toNat i) M → J' 62 0 2 = qm_la kd nm 2 n (Int.toNat i) O → (∀ m : Nat, m < 4 → J' 62 0 (50 + m) = if qm_gn kd nm n (Int.toNat i) g / qm_p2 m % 2 = 1 then -5 else N (50 + m)) → qm_G qm_P qm_P188 161 [(0, qm_R (some (0, 61, 0))), (1, qm_I (qm_i a)), (2, qm_I (qm_i b)), (3, qm_I (qm_i c)), (4, qm_I (qm_i 50)), (5, qm_I (qm_i d)), (6, qm_I (qm_i e)), (7, qm_I (qm_i f)), (8, qm_I (qm_i h))] [] (qm_H S J' K L D R X) Q) → qm_G qm_P qm_P188 80 [(0, qm_R (some (0, 61, 0))), (1, qm_I (qm_i a)), (2, qm_I (qm_i b)), (3, qm_I (qm_i c)), (4, qm_I (qm_i 50)), (5, qm_I (qm_i d)), (6, qm_I (qm_i e)), (7, qm_I (qm_i f)), (8, qm_I (qm_i h)), (9, qm_I (qm_i i))] [] (qm_H S J K L D R X) Q := by
  intro n
  induction n with
  | zero =>
    intro i F M O g J h1 h2 hg hc hv hF hM hO hd k
    refine qm_G.pk (lv1 := [(0, qm_R (some (0, 61, 0))), (1, qm_I (qm_i a)), (2, qm_I (qm_i b)), (3, qm_I (qm_i c)), (4, qm_I (qm_i 50)), (5, qm_I (qm_i d)), (6, qm_I (qm_i e)), (7, qm_I (qm_i f)), (8, qm_I (qm_i h)), (9, qm_I (qm_i i))]) rfl rfl rfl ?_
    refine qm_G.sp (lv1 := [(0, qm_R (some (0, 61, 0))), (1, qm_I (qm_i a)), (2, qm_I (qm_i b)), (3, qm_I (qm_i c)), (4, qm_I (qm_i 50)), (5, qm_I (qm_i d)), (6, qm_I (qm_i e)), (7, qm_I (qm_i f)), (8, qm_I (qm_i h)), (9, qm_I (qm_i i))]) rfl rfl (qm_x_iload rfl) ?_
    refine qm_G.s1 rfl (qm_x_aload rfl) ?_
    refine qm_G.s1 rfl (qm_x_getfR (q := (some (0, 62, 0))) (hS 61 rfl) (hR 61 0 62 rfl rfl)) ?_
    refine qm_G.s1 rfl (qm_x_pushI 13 rfl) ?_
    refine qm_G.s1 rfl (qm_x_iald (v := cnt) (qm_arS hS rfl rfl) rfl (by decide) (by decide) (by decide) hc) ?_
    refine qm_G.s1 rfl (qm_x_icmp_ge_t ⟨by omega, by omega⟩ ⟨by omega, by omega⟩ (by omega)) ?_
    refine qm_G.pk (lv1 := [(0, qm_R (some (0, 61, 0))), (1, qm_I (qm_i a)), (2, qm_I (qm_i b)), (3, qm_I (qm_i c)), (4, qm_I (qm_i 50)), (5, qm_I (qm_i d)), (6, qm_I (qm_i e)), (7, qm_I (qm_i f)), (8, qm_I (qm_i h))]) rfl rfl rfl ?_
    exact k J (fun _ _ _ _ => rfl) hF hM hO hd
  | succ n ih =>
    intro i F M O g J h1 h2 hg hc hv hF hM hO hd k
    have h3 : i < cnt := by omega
    refine qm_G.pk (lv1 := [(0, qm_R (some (0, 61, 0))), (1, qm_I (qm_i a)), (2, qm_I (qm_i b)), (3, qm_I (qm_i c)), (4, qm_I (qm_i 50)), (5, qm_I (qm_i d)), (6, qm_I (qm_i e)), (7, qm_I (qm_i f)), (8, qm_I (qm_i h)), (9, qm_I (qm_i i))]) rfl rfl rfl ?_
    refine qm_G.sp (lv1 := [(0, qm_R (some (0, 61, 0))), (1, qm_I (qm_i a)), (2, qm_I (qm_i b)), (3, qm_I (qm_i c)), (4, qm_I (qm_i 50)), (5, qm_I (qm_i d)), (6, qm_I (qm_i e)), (7, qm_I (qm_i f)), (8, qm_I (qm_i h)), (9, qm_I (qm_i i))]) rfl rfl (qm_x_iload rfl) ?_
    refine qm_G.s1 rfl (qm_x_aload rfl) ?_
    refine qm_G.s1 rfl (qm_x_getfR (q := (some (0, 62, 0))) (hS 61 rfl) (hR 61 0 62 rfl rfl)) ?_
    refine qm_G.s1 rfl (qm_x_pushI 13 rfl) ?_
    refine qm_G.s1 rfl (qm_x_iald (v := cnt) (qm_arS hS rfl rfl) rfl (by decide) (by decide) (by decide) hc) ?_
    refine qm_G.s1 rfl (qm_x_icmp_ge_f ⟨by omega, by omega⟩ ⟨by omega, by omega⟩ (by omega)) ?_
    refine qm_G.s1 rfl (qm_x_aload rfl) ?_
    refine qm_G.s1 rfl (qm_x_getfR (q := (some (0, 62, 0))) (hS 61 rfl) (hR 61 0 62 rfl rfl)) ?_
    refine qm_G.s1 rfl (qm_x_pushI 111 rfl) ?_
    refine qm_G.s1 rfl (qm_x_pushI 2 rfl) ?_
    refine qm_G.s1 rfl (qm_x_iload rfl) ?_
    refine qm_G.s1 rfl (qm_x_imul) ?_
    refine qm_G.s1 rfl (qm_x_iadd) ?_
    have gk := rk (Int.toNat i) (by omega)
    refine qm_G.s1 rfl (qm_x_iald (v := (kd (Int.toNat i))) (qm_arS hS rfl rfl) rfl (by omega) (by omega) (by decide) (Eq.trans (congrArg (J 62 0) (by omega)) (hv (Int.toNat i) (by omega)).1)) ?_
    refine qm_G.s1 rfl (qm_x_istore (lv' := [(10, qm_I (qm_i (kd (Int.toNat i)))), (0, qm_R (some (0, 61, 0))), (1, qm_I (qm_i a)), (2, qm_I (qm_i b)), (3, qm_I (qm_i c)), (4, qm_I (qm_i 50)), (5, qm_I (qm_i d)), (6, qm_I (qm_i e)), (7, qm_I (qm_i f)), (8, qm_I (qm_i h)), (9, qm_I (qm_i i))]) rfl) ?_
    refine qm_G.s1 rfl (qm_x_aload rfl) ?_
    refine qm_G.s1 rfl (qm_x_getfR (q := (some (0, 62, 0))) (hS 61 rfl) (hR 61 0 62 rfl rfl)) ?_
    refine qm_G.s1 rfl (qm_x_pushI 111 rfl) ?_
    refine qm_G.s1 rfl (qm_x_pushI 2 rfl) ?_
    refine qm_G.s1 rfl (qm_x_iload rfl) ?_
    refine qm_G.s1 rfl (qm_x_imul) ?_
    refine qm_G.s1 rfl (qm_x_iadd) ?_
    refine qm_G.s1 rfl (qm_x_pushI 1 rfl) ?_
    refine qm_G.s1 rfl (qm_x_iadd) ?_
    have gn := rn (Int.toNat i) (by omega)
    have g3 := r3 (Int.toNat i) (by omega)
    refine qm_G.s1 rfl (qm_x_iald (v := (nm (Int.toNat i))) (qm_arS hS rfl rfl) rfl (by omega) (by omega) (by decide) (Eq.trans (congrArg (J 62 0) (by omega)) (hv (Int.toNat i) (by omega)).2)) ?_
    refine qm_G.s1 rfl (qm_x_istore (lv' := [(11, qm_I (qm_i (nm (Int.toNat i)))), (10, qm_I (qm_i (kd (Int.toNat i)))), (0, qm_R (some (0, 61, 0))), (1, qm_I (qm_i a)), (2, qm_I (qm_i b)), (3, qm_I (qm_i c)), (4, qm_I (qm_i 50)), (5, qm_I (qm_i d)), (6, qm_I (qm_i e)), (7, qm_I (qm_i f)), (8, qm_I (qm_i h)), (9, qm_I (qm_i i))]) rfl) ?_
    refine qm_G.s1 rfl (qm_x_iload rfl) ?_
    refine qm_G.s1 rfl (qm_x_pushI 3 rfl) ?_
    refine qm_y_icmp_ne rfl ⟨by omega, by omega⟩ ⟨by decide, by decide⟩ (fun c1 => ?_) (fun c1 => ?_)
    · refine qm_G.sp (lv1 := [(0, qm_R (some (0, 61, 0))), (1, qm_I (qm_i a)), (2, qm_I (qm_i b)), (3, qm_I (qm_i c)), (4, qm_I (qm_i 50)), (5, qm_I (qm_i d)), (6, qm_I (qm_i e)), (7, qm_I (qm_i f)), (8, qm_I (qm_i h)), (9, qm_I (qm_i i)), (10, qm_I (qm_i (kd (Int.toNat i)))), (11, qm_I (qm_i (nm (Int.toNat i))))]) rfl rfl (qm_x_aload rfl) ?_
      refine qm_G.s1 rfl (qm_x_getfR (q := (some (0, 62, 0))) (hS 61 rfl) (hR 61 0 62 rfl rfl)) ?_
      refine qm_G.s1 rfl (qm_x_iload rfl) ?_
      refine qm_G.cs rfl rfl rfl ?_
      refine qm_C.go (cd := qm_P25) (lv := [(0, qm_I (qm_i (kd (Int.toNat i))))]) rfl rfl ?_
      refine qm_G.s1 rfl (qm_x_iload rfl) ?_
      refine qm_y_if_ne rfl ⟨by omega, by omega⟩ (fun c2 => ?_) (fun c2 => ?_)
      · refine qm_G.sp (lv1 := [(0, qm_I (qm_i (kd (Int.toNat i))))]) rfl rfl (qm_x_iload rfl) ?_
        refine qm_G.s1 rfl (qm_x_pushI 1 rfl) ?_
        refine qm_y_icmp_ne rfl ⟨by omega, by omega⟩ ⟨by decide, by decide⟩ (fun c3 => ?_) (fun c3 => ?_)
        · refine qm_G.sp (lv1 := []) rfl rfl (qm_x_pushI 2 rfl) ?_
          refine qm_G.ret rfl rfl ⟨_, rfl, ?_⟩
          refine qm_G.s1 rfl (qm_x_iload rfl) ?_
          refine qm_G.s1 rfl (qm_x_iast (qm_arS hS rfl rfl) rfl (by decide) (by decide) (by decide)) ?_
          refine qm_G.sp (lv1 := [(0, qm_R (some (0, 61, 0))), (1, qm_I (qm_i a)), (2, qm_I (qm_i b)), (3, qm_I (qm_i c)), (4, qm_I (qm_i 50)), (5, qm_I (qm_i d)), (6, qm_I (qm_i e)), (7, qm_I (qm_i f)), (8, qm_I (qm_i h)), (9, qm_I (qm_i i))]) rfl rfl (qm_x_iinc (lv' := [(9, qm_I (qm_i (i + 1))), (0, qm_R (some (0, 61, 0))), (1, qm_I (qm_i a)), (2, qm_I (qm_i b)), (3, qm_I (qm_i c)), (4, qm_I (qm_i 50)), (5, qm_I (qm_i d)), (6, qm_I (qm_i e)), (7, qm_I (qm_i f)), (8, qm_I (qm_i h))]) 1 rfl rfl rfl) ?_
          refine qm_G.s1 rfl (qm_x_goto) ?_
          refine qm_G.pk (lv1 := [(0, qm_R (some (0, 61, 0))), (1, qm_I (qm_i a)), (2, qm_I (qm_i b)), (3, qm_I (qm_i c)), (4, qm_I (qm_i 50)), (5, qm_I (qm_i d)), (6, qm_I (qm_i e)), (7, qm_I (qm_i f)), (8, qm_I (qm_i h)), (9, qm_I (qm_i (i + 1)))]) rfl rfl rfl ?_
          refine ih (i + 1) F M (nm (Int.toNat i)) g _ (by omega) (by omega) hg (by rw [qm_st_ne (by omega)]; exact hc) (fun j hj => by rw [qm_st_ne (by omega), qm_st_ne (by omega)]; exact hv j hj) (by rw [qm_st_ne (by omega)]; exact hF) (by rw [qm_st_ne (by omega)]; exact hM) qm_st_eq (fun m hm => ?_) (fun J2 e2 f2 m2 o2 d2 => ?_)
          · rw [qm_st_ne (by omega)]; exact hd m hm
          · rw [show Int.toNat (i + 1) = Int.toNat i + 1 by omega] at f2 m2 o2 d2
            exact k J2 (fun r s x hx => by rw [e2 r s x hx, qm_st_ne (by omega)]) (by rw [qm_la_n (show ¬ kd (Int.toNat i) = 0 by omega)]; exact f2) (by rw [qm_la_n (show ¬ kd (Int.toNat i) = 1 by omega)]; exact m2) (by rw [qm_la_y (show kd (Int.toNat i) = 2 by omega)]; exact o2) (fun m hm => by rw [qm_gn_n (show ¬ kd (Int.toNat i) = 3 by omega)]; exact d2 m hm)
        · refine qm_G.s1 rfl (qm_x_pushI 1 rfl) ?_
          refine qm_G.s1 rfl (qm_x_goto) ?_
          refine qm_G.ret rfl rfl ⟨_, rfl, ?_⟩
          refine qm_G.s1 rfl (qm_x_iload rfl) ?_
          refine qm_G.s1 rfl (qm_x_iast (qm_arS hS rfl rfl) rfl (by decide) (by decide) (by decide)) ?_
          refine qm_G.sp (lv1 := [(0, qm_R (some (0, 61, 0))), (1, qm_I (qm_i a)), (2, qm_I (qm_i b)), (3, qm_I (qm_i c)), (4, qm_I (qm_i 50)), (5, qm_I (qm_i d)), (6, qm_I (qm_i e)), (7, qm_I (qm_i f)), (8, qm_I (qm_i h)), (9, qm_I (qm_i i))]) rfl rfl (qm_x_iinc (lv' := [(9, qm_I (qm_i (i + 1))), (0, qm_R (some (0, 61, 0))), (1, qm_I (qm_i a)), (2, qm_I (qm_i b)), (3, qm_I (qm_i c)), (4, qm_I (qm_i 50)), (5, qm_I (qm_i d)), (6, qm_I (qm_i e)), (7, qm_I (qm_i f)), (8, qm_I (qm_i h))]) 1 rfl rfl rfl) ?_
          refine qm_G.s1 rfl (qm_x_goto) ?_
          refine qm_G.pk (lv1 := [(0, qm_R (some (0, 61, 0))), (1, qm_I (qm_i a)), (2, qm_I (qm_i b)), (3, qm_I (qm_i c)), (4, qm_I (qm_i 50)), (5, qm_I (qm_i d)), (6, qm_I (qm_i e)), (7, qm_I (qm_i f)), (8, qm_I (qm_i h)), (9, qm_I (qm_i (i + 1)))]) rfl rfl rfl ?_
          refine ih (i + 1) F (nm (Int.toNat i)) O g _ (by omega) (by omega) hg (by rw [qm_st_ne (by omega)]; exact hc) (fun j hj => by rw [qm_st_ne (by omega), qm_st_ne (by omega)]; exact hv j hj) (by rw [qm_st_ne (by omega)]; exact hF) qm_st_eq (by rw [qm_st_ne (by omega)]; exact hO) (fun m hm => ?_) (fun J2 e2 f2 m2 o2 d2 => ?_)
          · rw [qm_st_ne (by omega)]; exact hd m hm
          · rw [show Int.toNat (i + 1) = Int.toNat i + 1 by omega] at f2 m2 o2 d2
            exact k J2 (fun r s x hx => by rw [e2 r s x hx, qm_st_ne (by omega)]) (by rw [qm_la_n (show ¬ kd (Int.toNat i) = 0 by omega)]; exact f2) (by rw [qm_la_y (show kd (Int.toNat i) = 1 by omega)]; exact m2) (by rw [qm_la_n (show ¬ kd (Int.toNat i) = 2 by omega)]; exact o2) (fun m hm => by rw [qm_gn_n (show ¬ kd (Int.toNat i) = 3 by omega)]; exact d2 m hm)
      · refine qm_G.s1 rfl (qm_x_pushI 3 rfl) ?_
        refine qm_G.s1 rfl (qm_x_goto) ?_
        refine qm_G.ret rfl rfl ⟨_, rfl, ?_⟩
        refine qm_G.s1 rfl (qm_x_iload rfl) ?_
        refine qm_G.s1 rfl (qm_x_iast (qm_arS hS rfl rfl) rfl (by decide) (by decide) (by decide)) ?_
        refine qm_G.sp (lv1 := [(0, qm_R (some (0, 61, 0))), (1, qm_I (qm_i a)), (2, qm_I (qm_i b)), (3, qm_I (qm_i c)), (4, qm_I (qm_i 50)), (5, qm_I (qm_i d)), (6, qm_I (qm_i e)), (7, qm_I (qm_i f)), (8, qm_I (qm_i h)), (9, qm_I (qm_i i))]) rfl rfl (qm_x_iinc (lv' := [(9, qm_I (qm_i (i + 1))), (0, qm_R (some (0, 61, 0))), (1, qm_I (qm_i a)), (2, qm_I (qm_i b)), (3, qm_I (qm_i c)), (4, qm_I (qm_i 50)), (5, qm_I (qm_i d)), (6, qm_I (qm_i e)), (7, qm_I (qm_i f)), (8, qm_I (qm_i h))]) 1 rfl rfl rfl) ?_
        refine qm_G.s1 rfl (qm_x_goto) ?_
        refine qm_G.pk (lv1 := [(0, qm_R (some (0, 61, 0))), (1, qm_I (qm_i a)), (2, qm_I (qm_i b)), (3, qm_I (qm_i c)), (4, qm_I (qm_i 50)), (5, qm_I (qm_i d)), (6, qm_I (qm_i e)), (7, qm_I (qm_i f)), (8, qm_I (qm_i h)), (9, qm_I (qm_i (i + 1)))]) rfl rfl rfl ?_
        refine ih (i + 1) (nm (Int.toNat i)) M O g _ (by omega) (by omega) hg (by rw [qm_st_ne (by omega)]; exact hc) (fun j hj => by rw [qm_st_ne (by omega), qm_st_ne (by omega)]; exact hv j hj) qm_st_eq (by rw [qm_st_ne (by omega)]; exact hM) (by rw [qm_st_ne (by omega)]; exact hO) (fun m hm => ?_) (fun J2 e2 f2 m2 o2 d2 => ?_)
        · rw [qm_st_ne (by omega)]; exact hd m hm
        · rw [show Int.toNat (i + 1) = Int.toNat i + 1 by omega] at f2 m2 o2 d2
          exact k J2 (fun r s x hx => by rw [e2 r s x hx, qm_st_ne (by omega)]) (by rw [qm_la_y (show kd (Int.toNat i) = 0 by omega)]; exact f2) (by rw [qm_la_n (show ¬ kd (Int.toNat i) = 1 by omega)]; exact m2) (by rw [qm_la_n (show ¬ kd (Int.toNat i) = 2 by omega)]; exact o2) (fun m hm => by rw [qm_gn_n (show ¬ kd (Int.toNat i) = 3 by omega)]; exact d2 m hm)
    · refine qm_G.s1 rfl (qm_x_aload rfl) ?_
      refine qm_G.s1 rfl (qm_x_getfR (q := (some (0, 62, 0))) (hS 61 rfl) (hR 61 0 62 rfl rfl)) ?_
      refine qm_G.s1 rfl (qm_x_iload rfl) ?_
      refine qm_G.s1 rfl (qm_x_iload rfl) ?_
      refine qm_G.s1 rfl (qm_x_iadd) ?_
      refine qm_G.s1 rfl (qm_x_pushI (-5) rfl) ?_
      refine qm_G.s1 rfl (qm_x_iast (qm_arS hS rfl rfl) rfl (by omega) (by omega) (by decide)) ?_
      refine qm_G.s1 rfl (qm_x_goto) ?_
      refine qm_G.sp (lv1 := [(0, qm_R (some (0, 61, 0))), (1, qm_I (qm_i a)), (2, qm_I (qm_i b)), (3, qm_I (qm_i c)), (4, qm_I (qm_i 50)), (5, qm_I (qm_i d)), (6, qm_I (qm_i e)), (7, qm_I (qm_i f)), (8, qm_I (qm_i h)), (9, qm_I (qm_i i))]) rfl rfl (qm_x_iinc (lv' := [(9, qm_I (qm_i (i + 1))), (0, qm_R (some (0, 61, 0))), (1, qm_I (qm_i a)), (2, qm_I (qm_i b)), (3, qm_I (qm_i c)), (4, qm_I (qm_i 50)), (5, qm_I (qm_i d)), (6, qm_I (qm_i e)), (7, qm_I (qm_i f)), (8, qm_I (qm_i h))]) 1 rfl rfl rfl) ?_
      refine qm_G.s1 rfl (qm_x_goto) ?_
      refine qm_G.pk (lv1 := [(0, qm_R (some (0, 61, 0))), (1, qm_I (qm_i a)), (2, qm_I (qm_i b)), (3, qm_I (qm_i c)), (4, qm_I (qm_i 50)), (5, qm_I (qm_i d)), (6, qm_I (qm_i e)), (7, qm_I (qm_i f)), (8, qm_I (qm_i h)), (9, qm_I (qm_i (i + 1)))]) rfl rfl rfl ?_
      have sb := qm_sb_ok hg (n := nm (Int.toNat i)) (by omega)
      refine ih (i + 1) F M O (qm_sb g (nm (Int.toNat i))) _ (by omega) (by omega) sb.1 (by rw [qm_st_ne (by omega)]; exact hc) (fun j hj => by rw [qm_st_ne (by omega), qm_st_ne (by omega)]; exact hv j hj) (by rw [qm_st_ne (by omega)]; exact hF) (by rw [qm_st_ne (by omega)]; exact hM) (by rw [qm_st_ne (by omega)]; exact hO) (fun m hm => ?_) (fun J2 e2 f2 m2 o2 d2 => ?_)
      · rw [sb.2 (m : Int) (by omega) (by omega)]
        by_cases cm : (m : Int) = nm (Int.toNat i)
        · rw [if_pos cm, if_pos rfl, show 50 + m = (Int.toNat (50 + (nm (Int.toNat i)))) by omega]; exact qm_st_eq
        · rw [if_neg cm, qm_st_ne (by omega)]; exact hd m hm
      · rw [show Int.toNat (i + 1) = Int.toNat i + 1 by omega] at f2 m2 o2 d2
        exact k J2 (fun r s x hx => by rw [e2 r s x hx, qm_st_ne (by omega)]) (by rw [qm_la_n (show ¬ kd (Int.toNat i) = 0 by omega)]; exact f2) (by rw [qm_la_n (show ¬ kd (Int.toNat i) = 1 by omega)]; exact m2) (by rw [qm_la_n (show ¬ kd (Int.toNat i) = 2 by omega)]; exact o2) (fun m hm => by rw [qm_gn_y (show kd (Int.toNat i) = 3 by omega)]; exact d2 m hm)
theorem qm_m_ev1 {S : List qm_Sh} {K : qm_J} {L : qm_Ct Int64} {D : qm_Ct UInt64} {R : qm_Ct (Option qm_Rf)} {X : Nat × (Nat → Int32)} {Q : Option qm_V → qm_Hp → Prop} {N kd nm : Nat → Int} {a b c d e f h cnt : Int} (hS : qm_Sd S) (hR : qm_Rd R) (rc : 0 ≤ cnt ∧ cnt ≤ 8) (rk : ∀ j, j < 8 → 0 ≤ kd j ∧ kd j ≤ 3) (rn : ∀ j, j < 8 → 0 ≤ nm j ∧ nm j ≤ 99) (r3 : ∀ j, j < 8 → kd j = 3 → nm j ≤ 3) : ∀ (n : Nat) (i F M O g : Int) (J : qm_J), i + n = cnt → 0 ≤ i → (0 ≤ g ∧ g ≤ 15) → J 62 0 13 = cnt → (∀ j, j < 8 → J 62 0 (111 + 2 * j) = kd j ∧ J 62 0 (112 + 2 * j) = nm j) → J 62 0 3 = F → J 62 0 1 = M → J 62 0 2 = O → (∀ m : Nat, m < 4 → J 62 0 (54 + m) = if g / qm_p2 m % 2 = 1 then -5 else N (54 + m)) → (∀ J' : qm_J, (∀ r s x, ¬ (r = 62 ∧ s = 0 ∧ (1 ≤ x ∧ x ≤ 3 ∨ 54 ≤ x ∧ x < 58)) → J' r s x = J r s x) → J' 62 0 3 = qm_la kd nm 0 n (Int.toNat i) F → J' 62 0 1 = qm_la kd nm 1 n (Int.toNat i) M → J' 62 0 2 = qm_la kd nm 2 n (Int.toNat i) O → (∀ m : Nat, m < 4 → J' 62 0 (54 + m) = if qm_gn kd nm n (Int.toNat i) g / qm_p2 m % 2 = 1 then -5 else N (54 + m)) → qm_G qm_P qm_P188 161 [(0, qm_R (some (0, 61, 0))), (1, qm_I (qm_i a)), (2, qm_I (qm_i b)), (3, qm_I (qm_i c)), (4, qm_I (qm_i 54)), (5, qm_I (qm_i d)), (6, qm_I (qm_i e)), (7, qm_I (qm_i f)), (8, qm_I (qm_i h))] [] (qm_H S J' K L D R X) Q) → qm_G qm_P qm_P188 80 [(0, qm_R (some (0, 61, 0))), (1, qm_I (qm_i a)), (2, qm_I (qm_i b)), (3, qm_I (qm_i c)), (4, qm_I (qm_i 54)), (5, qm_I (qm_i d)), (6, qm_I (qm_i e)), (7, qm_I (qm_i f)), (8, qm_I (qm_i h)), (9, qm_I (qm_i i))] [] (qm_H S J K L D R X) Q := by
  intro n
  induction n with
  | zero =>
    intro i F M O g J h1 h2 hg hc hv hF hM hO hd k
    refine qm_G.pk (lv1 := [(0, qm_R (some (0, 61, 0))), (1, qm_I (qm_i a)), (2, qm_I (qm_i b)), (3, qm_I (qm_i c)), (4, qm_I (qm_i 54)), (5, qm_I (qm_i d)), (6, qm_I (qm_i e)), (7, qm_I (qm_i f)), (8, qm_I (qm_i h)), (9, qm_I (qm_i i))]) rfl rfl rfl ?_
    refine qm_G.sp (lv1 := [(0, qm_R (some (0, 61, 0))), (1, qm_I (qm_i a)), (2, qm_I (qm_i b)), (3, qm_I (qm_i c)), (4, qm_I (qm_i 54)), (5, qm_I (qm_i d)), (6, qm_I (qm_i e)), (7, qm_I (qm_i f)), (8, qm_I (qm_i h)), (9, qm_I (qm_i i))]) rfl rfl (qm_x_iload rfl) ?_
    refine qm_G.s1 rfl (qm_x_aload rfl) ?_
    refine qm_G.s1 rfl (qm_x_getfR (q := (some (0, 62, 0))) (hS 61 rfl) (hR 61 0 62 rfl rfl)) ?_
    refine qm_G.s1 rfl (qm_x_pushI 13 rfl) ?_
    refine qm_G.s1 rfl (qm_x_iald (v := cnt) (qm_arS hS rfl rfl) rfl (by decide) (by decide) (by decide) hc) ?_
    refine qm_G.s1 rfl (qm_x_icmp_ge_t ⟨by omega, by omega⟩ ⟨by omega, by omega⟩ (by omega)) ?_
    refine qm_G.pk (lv1 := [(0, qm_R (some (0, 61, 0))), (1, qm_I (qm_i a)), (2, qm_I (qm_i b)), (3, qm_I (qm_i c)), (4, qm_I (qm_i 54)), (5, qm_I (qm_i d)), (6, qm_I (qm_i e)), (7, qm_I (qm_i f)), (8, qm_I (qm_i h))]) rfl rfl rfl ?_
    exact k J (fun _ _ _ _ => rfl) hF hM hO hd
  | succ n ih =>
    intro i F M O g J h1 h2 hg hc hv hF hM hO hd k
    have h3 : i < cnt := by omega
    refine qm_G.pk (lv1 := [(0, qm_R (some (0, 61, 0))), (1, qm_I (qm_i a)), (2, qm_I (qm_i b)), (3, qm_I (qm_i c)), (4, qm_I (qm_i 54)), (5, qm_I (qm_i d)), (6, qm_I (qm_i e)), (7, qm_I (qm_i f)), (8, qm_I (qm_i h)), (9, qm_I (qm_i i))]) rfl rfl rfl ?_
    refine qm_G.sp (lv1 := [(0, qm_R (some (0, 61, 0))), (1, qm_I (qm_i a)), (2, qm_I (qm_i b)), (3, qm_I (qm_i c)), (4, qm_I (qm_i 54)), (5, qm_I (qm_i d)), (6, qm_I (qm_i e)), (7, qm_I (qm_i f)), (8, qm_I (qm_i h)), (9, qm_I (qm_i i))]) rfl rfl (qm_x_iload rfl) ?_
    refine qm_G.s1 rfl (qm_x_aload rfl) ?_
    refine qm_G.s1 rfl (qm_x_getfR (q := (some (0, 62, 0))) (hS 61 rfl) (hR 61 0 62 rfl rfl)) ?_
    refine qm_G.s1 rfl (qm_x_pushI 13 rfl) ?_
    refine qm_G.s1 rfl (qm_x_iald (v := cnt) (qm_arS hS rfl rfl) rfl (by decide) (by decide) (by decide) hc) ?_
    refine qm_G.s1 rfl (qm_x_icmp_ge_f ⟨by omega, by omega⟩ ⟨by omega, by omega⟩ (by omega)) ?_
    refine qm_G.s1 rfl (qm_x_aload rfl) ?_
    refine qm_G.s1 rfl (qm_x_getfR (q := (some (0, 62, 0))) (hS 61 rfl) (hR 61 0 62 rfl rfl)) ?_
    refine qm_G.s1 rfl (qm_x_pushI 111 rfl) ?_
    refine qm_G.s1 rfl (qm_x_pushI 2 rfl) ?_
    refine qm_G.s1 rfl (qm_x_iload rfl) ?_
    refine qm_G.s1 rfl (qm_x_imul) ?_
    refine qm_G.s1 rfl (qm_x_iadd) ?_
    have gk := rk (Int.toNat i) (by omega)
    refine qm_G.s1 rfl (qm_x_iald (v := (kd (Int.toNat i))) (qm_arS hS rfl rfl) rfl (by omega) (by omega) (by decide) (Eq.trans (congrArg (J 62 0) (by omega)) (hv (Int.toNat i) (by omega)).1)) ?_
    refine qm_G.s1 rfl (qm_x_istore (lv' := [(10, qm_I (qm_i (kd (Int.toNat i)))), (0, qm_R (some (0, 61, 0))), (1, qm_I (qm_i a)), (2, qm_I (qm_i b)), (3, qm_I (qm_i c)), (4, qm_I (qm_i 54)), (5, qm_I (qm_i d)), (6, qm_I (qm_i e)), (7, qm_I (qm_i f)), (8, qm_I (qm_i h)), (9, qm_I (qm_i i))]) rfl) ?_
    refine qm_G.s1 rfl (qm_x_aload rfl) ?_
    refine qm_G.s1 rfl (qm_x_getfR (q := (some (0, 62, 0))) (hS 61 rfl) (hR 61 0 62 rfl rfl)) ?_
    refine qm_G.s1 rfl (qm_x_pushI 111 rfl) ?_
    refine qm_G.s1 rfl (qm_x_pushI 2 rfl) ?_
    refine qm_G.s1 rfl (qm_x_iload rfl) ?_
    refine qm_G.s1 rfl (qm_x_imul) ?_
    refine qm_G.s1 rfl (qm_x_iadd) ?_
    refine qm_G.s1 rfl (qm_x_pushI 1 rfl) ?_
    refine qm_G.s1 rfl (qm_x_iadd) ?_
    have gn := rn (Int.toNat i) (by omega)
    have g3 := r3 (Int.toNat i) (by omega)
    refine qm_G.s1 rfl (qm_x_iald (v := (nm (Int.toNat i))) (qm_arS hS rfl rfl) rfl (by omega) (by omega) (by decide) (Eq.trans (congrArg (J 62 0) (by omega)) (hv (Int.toNat i) (by omega)).2)) ?_
    refine qm_G.s1 rfl (qm_x_istore (lv' := [(11, qm_I (qm_i (nm (Int.toNat i)))), (10, qm_I (qm_i (kd (Int.toNat i)))), (0, qm_R (some (0, 61, 0))), (1, qm_I (qm_i a)), (2, qm_I (qm_i b)), (3, qm_I (qm_i c)), (4, qm_I (qm_i 54)), (5, qm_I (qm_i d)), (6, qm_I (qm_i e)), (7, qm_I (qm_i f)), (8, qm_I (qm_i h)), (9, qm_I (qm_i i))]) rfl) ?_
    refine qm_G.s1 rfl (qm_x_iload rfl) ?_
    refine qm_G.s1 rfl (qm_x_pushI 3 rfl) ?_
    refine qm_y_icmp_ne rfl ⟨by omega, by omega⟩ ⟨by decide, by decide⟩ (fun c1 => ?_) (fun c1 => ?_)
    · refine qm_G.sp (lv1 := [(0, qm_R (some (0, 61, 0))), (1, qm_I (qm_i a)), (2, qm_I (qm_i b)), (3, qm_I (qm_i c)), (4, qm_I (qm_i 54)), (5, qm_I (qm_i d)), (6, qm_I (qm_i e)), (7, qm_I (qm_i f)), (8, qm_I (qm_i h)), (9, qm_I (qm_i i)), (10, qm_I (qm_i (kd (Int.toNat i)))), (11, qm_I (qm_i (nm (Int.toNat i))))]) rfl rfl (qm_x_aload rfl) ?_
      refine qm_G.s1 rfl (qm_x_getfR (q := (some (0, 62, 0))) (hS 61 rfl) (hR 61 0 62 rfl rfl)) ?_
      refine qm_G.s1 rfl (qm_x_iload rfl) ?_
      refine qm_G.cs rfl rfl rfl ?_
      refine qm_C.go (cd := qm_P25) (lv := [(0, qm_I (qm_i (kd (Int.toNat i))))]) rfl rfl ?_
      refine qm_G.s1 rfl (qm_x_iload rfl) ?_
      refine qm_y_if_ne rfl ⟨by omega, by omega⟩ (fun c2 => ?_) (fun c2 => ?_)
      · refine qm_G.sp (lv1 := [(0, qm_I (qm_i (kd (Int.toNat i))))]) rfl rfl (qm_x_iload rfl) ?_
        refine qm_G.s1 rfl (qm_x_pushI 1 rfl) ?_
        refine qm_y_icmp_ne rfl ⟨by omega, by omega⟩ ⟨by decide, by decide⟩ (fun c3 => ?_) (fun c3 => ?_)
        · refine qm_G.sp (lv1 := []) rfl rfl (qm_x_pushI 2 rfl) ?_
          refine qm_G.ret rfl rfl ⟨_, rfl, ?_⟩
          refine qm_G.s1 rfl (qm_x_iload rfl) ?_
          refine qm_G.s1 rfl (qm_x_iast (qm_arS hS rfl rfl) rfl (by decide) (by decide) (by decide)) ?_
          refine qm_G.sp (lv1 := [(0, qm_R (some (0, 61, 0))), (1, qm_I (qm_i a)), (2, qm_I (qm_i b)), (3, qm_I (qm_i c)), (4, qm_I (qm_i 54)), (5, qm_I (qm_i d)), (6, qm_I (qm_i e)), (7, qm_I (qm_i f)), (8, qm_I (qm_i h)), (9, qm_I (qm_i i))]) rfl rfl (qm_x_iinc (lv' := [(9, qm_I (qm_i (i + 1))), (0, qm_R (some (0, 61, 0))), (1, qm_I (qm_i a)), (2, qm_I (qm_i b)), (3, qm_I (qm_i c)), (4, qm_I (qm_i 54)), (5, qm_I (qm_i d)), (6, qm_I (qm_i e)), (7, qm_I (qm_i f)), (8, qm_I (qm_i h))]) 1 rfl rfl rfl) ?_
          refine qm_G.s1 rfl (qm_x_goto) ?_
          refine qm_G.pk (lv1 := [(0, qm_R (some (0, 61, 0))), (1, qm_I (qm_i a)), (2, qm_I (qm_i b)), (3, qm_I (qm_i c)), (4, qm_I (qm_i 54)), (5, qm_I (qm_i d)), (6, qm_I (qm_i e)), (7, qm_I (qm_i f)), (8, qm_I (qm_i h)), (9, qm_I (qm_i (i + 1)))]) rfl rfl rfl ?_
          refine ih (i + 1) F M (nm (Int.toNat i)) g _ (by omega) (by omega) hg (by rw [qm_st_ne (by omega)]; exact hc) (fun j hj => by rw [qm_st_ne (by omega), qm_st_ne (by omega)]; exact hv j hj) (by rw [qm_st_ne (by omega)]; exact hF) (by rw [qm_st_ne (by omega)]; exact hM) qm_st_eq (fun m hm => ?_) (fun J2 e2 f2 m2 o2 d2 => ?_)
          · rw [qm_st_ne (by omega)]; exact hd m hm
          · rw [show Int.toNat (i + 1) = Int.toNat i + 1 by omega] at f2 m2 o2 d2
            exact k J2 (fun r s x hx => by rw [e2 r s x hx, qm_st_ne (by omega)]) (by rw [qm_la_n (show ¬ kd (Int.toNat i) = 0 by omega)]; exact f2) (by rw [qm_la_n (show ¬ kd (Int.toNat i) = 1 by omega)]; exact m2) (by rw [qm_la_y (show kd (Int.toNat i) = 2 by omega)]; exact o2) (fun m hm => by rw [qm_gn_n (show ¬ kd (Int.toNat i) = 3 by omega)]; exact d2 m hm)
        · refine qm_G.s1 rfl (qm_x_pushI 1 rfl) ?_
          refine qm_G.s1 rfl (qm_x_goto) ?_
          refine qm_G.ret rfl rfl ⟨_, rfl, ?_⟩
          refine qm_G.s1 rfl (qm_x_iload rfl) ?_
          refine qm_G.s1 rfl (qm_x_iast (qm_arS hS rfl rfl) rfl (by decide) (by decide) (by decide)) ?_
          refine qm_G.sp (lv1 := [(0, qm_R (some (0, 61, 0))), (1, qm_I (qm_i a)), (2, qm_I (qm_i b)), (3, qm_I (qm_i c)), (4, qm_I (qm_i 54)), (5, qm_I (qm_i d)), (6, qm_I (qm_i e)), (7, qm_I (qm_i f)), (8, qm_I (qm_i h)), (9, qm_I (qm_i i))]) rfl rfl (qm_x_iinc (lv' := [(9, qm_I (qm_i (i + 1))), (0, qm_R (some (0, 61, 0))), (1, qm_I (qm_i a)), (2, qm_I (qm_i b)), (3, qm_I (qm_i c)), (4, qm_I (qm_i 54)), (5, qm_I (qm_i d)), (6, qm_I (qm_i e)), (7, qm_I (qm_i f)), (8, qm_I (qm_i h))]) 1 rfl rfl rfl) ?_
          refine qm_G.s1 rfl (qm_x_goto) ?_
          refine qm_G.pk (lv1 := [(0, qm_R (some (0, 61, 0))), (1, qm_I (qm_i a)), (2, qm_I (qm_i b)), (3, qm_I (qm_i c)), (4, qm_I (qm_i 54)), (5, qm_I (qm_i d)), (6, qm_I (qm_i e)), (7, qm_I (qm_i f)), (8, qm_I (qm_i h)), (9, qm_I (qm_i (i + 1)))]) rfl rfl rfl ?_
          refine ih (i + 1) F (nm (Int.toNat i)) O g _ (by omega) (by omega) hg (by rw [qm_st_ne (by omega)]; exact hc) (fun j hj => by rw [qm_st_ne (by omega), qm_st_ne (by omega)]; exact hv j hj) (by rw [qm_st_ne (by omega)]; exact hF) qm_st_eq (by rw [qm_st_ne (by omega)]; exact hO) (fun m hm => ?_) (fun J2 e2 f2 m2 o2 d2 => ?_)
          · rw [qm_st_ne (by omega)]; exact hd m hm
          · rw [show Int.toNat (i + 1) = Int.toNat i + 1 by omega] at f2 m2 o2 d2
            exact k J2 (fun r s x hx => by rw [e2 r s x hx, qm_st_ne (by omega)]) (by rw [qm_la_n (show ¬ kd (Int.toNat i) = 0 by omega)]; exact f2) (by rw [qm_la_y (show kd (Int.toNat i) = 1 by omega)]; exact m2) (by rw [qm_la_n (show ¬ kd (Int.toNat i) = 2 by omega)]; exact o2) (fun m hm => by rw [qm_gn_n (show ¬ kd (Int.toNat i) = 3 by omega)]; exact d2 m hm)
      · refine qm_G.s1 rfl (qm_x_pushI 3 rfl) ?_
        refine qm_G.s1 rfl (qm_x_goto) ?_
        refine qm_G.ret rfl rfl ⟨_, rfl, ?_⟩
        refine qm_G.s1 rfl (qm_x_iload rfl) ?_
        refine qm_G.s1 rfl (qm_x_iast (qm_arS hS rfl rfl) rfl (by decide) (by decide) (by decide)) ?_
        refine qm_G.sp (lv1 := [(0, qm_R (some (0, 61, 0))), (1, qm_I (qm_i a)), (2, qm_I (qm_i b)), (3, qm_I (qm_i c)), (4, qm_I (qm_i 54)), (5, qm_I (qm_i d)), (6, qm_I (qm_i e)), (7, qm_I (qm_i f)), (8, qm_I (qm_i h)), (9, qm_I (qm_i i))]) rfl rfl (qm_x_iinc (lv' := [(9, qm_I (qm_i (i + 1))), (0, qm_R (some (0, 61, 0))), (1, qm_I (qm_i a)), (2, qm_I (qm_i b)), (3, qm_I (qm_i c)), (4, qm_I (qm_i 54)), (5, qm_I (qm_i d)), (6, qm_I (qm_i e)), (7, qm_I (qm_i f)), (8, qm_I (qm_i h))]) 1 rfl rfl rfl) ?_
        refine qm_G.s1 rfl (qm_x_goto) ?_
        refine qm_G.pk (lv1 := [(0, qm_R (some (0, 61, 0))), (1, qm_I (qm_i a)), (2, qm_I (qm_i b)), (3, qm_I (qm_i c)), (4, qm_I (qm_i 54)), (5, qm_I (qm_i d)), (6, qm_I (qm_i e)), (7, qm_I (qm_i f)), (8, qm_I (qm_i h)), (9, qm_I (qm_i (i + 1)))]) rfl rfl rfl ?_
        refine ih (i + 1) (nm (Int.toNat i)) M O g _ (by omega) (by omega) hg (by rw [qm_st_ne (by omega)]; exact hc) (fun j hj => by rw [qm_st_ne (by omega), qm_st_ne (by omega)]; exact hv j hj) qm_st_eq (by rw [qm_st_ne (by omega)]; exact hM) (by rw [qm_st_ne (by omega)]; exact hO) (fun m hm => ?_) (fun J2 e2 f2 m2 o2 d2 => ?_)
        · rw [qm_st_ne (by omega)]; exact hd m hm
        · rw [show Int.toNat (i + 1) = Int.toNat i + 1 by omega] at f2 m2 o2 d2
          exact k J2 (fun r s x hx => by rw [e2 r s x hx, qm_st_ne (by omega)]) (by rw [qm_la_y (show kd (Int.toNat i) = 0 by omega)]; exact f2) (by rw [qm_la_n (show ¬ kd (Int.toNat i) = 1 by omega)]; exact m2) (by rw [qm_la_n (show ¬ kd (Int.toNat i) = 2 by omega)]; exact o2) (fun m hm => by rw [qm_gn_n (show ¬ kd (Int.toNat i) = 3 by omega)]; exact d2 m hm)
    · refine qm_G.s1 rfl (qm_x_aload rfl) ?_
      refine qm_G.s1 rfl (qm_x_getfR (q := (some (0, 62, 0))) (hS 61 rfl) (hR 61 0 62 rfl rfl)) ?_
      refine qm_G.s1 rfl (qm_x_iload rfl) ?_
      refine qm_G.s1 rfl (qm_x_iload rfl) ?_
      refine qm_G.s1 rfl (qm_x_iadd) ?_
      refine qm_G.s1 rfl (qm_x_pushI (-5) rfl) ?_
      refine qm_G.s1 rfl (qm_x_iast (qm_arS hS rfl rfl) rfl (by omega) (by omega) (by decide)) ?_
      refine qm_G.s1 rfl (qm_x_goto) ?_
      refine qm_G.sp (lv1 := [(0, qm_R (some (0, 61, 0))), (1, qm_I (qm_i a)), (2, qm_I (qm_i b)), (3, qm_I (qm_i c)), (4, qm_I (qm_i 54)), (5, qm_I (qm_i d)), (6, qm_I (qm_i e)), (7, qm_I (qm_i f)), (8, qm_I (qm_i h)), (9, qm_I (qm_i i))]) rfl rfl (qm_x_iinc (lv' := [(9, qm_I (qm_i (i + 1))), (0, qm_R (some (0, 61, 0))), (1, qm_I (qm_i a)), (2, qm_I (qm_i b)), (3, qm_I (qm_i c)), (4, qm_I (qm_i 54)), (5, qm_I (qm_i d)), (6, qm_I (qm_i e)), (7, qm_I (qm_i f)), (8, qm_I (qm_i h))]) 1 rfl rfl rfl) ?_
      refine qm_G.s1 rfl (qm_x_goto) ?_
      refine qm_G.pk (lv1 := [(0, qm_R (some (0, 61, 0))), (1, qm_I (qm_i a)), (2, qm_I (qm_i b)), (3, qm_I (qm_i c)), (4, qm_I (qm_i 54)), (5, qm_I (qm_i d)), (6, qm_I (qm_i e)), (7, qm_I (qm_i f)), (8, qm_I (qm_i h)), (9, qm_I (qm_i (i + 1)))]) rfl rfl rfl ?_
      have sb := qm_sb_ok hg (n := nm (Int.toNat i)) (by omega)
      refine ih (i + 1) F M O (qm_sb g (nm (Int.toNat i))) _ (by omega) (by omega) sb.1 (by rw [qm_st_ne (by omega)]; exact hc) (fun j hj => by rw [qm_st_ne (by omega), qm_st_ne (by omega)]; exact hv j hj) (by rw [qm_st_ne (by omega)]; exact hF) (by rw [qm_st_ne (by omega)]; exact hM) (by rw [qm_st_ne (by omega)]; exact hO) (fun m hm => ?_) (fun J2 e2 f2 m2 o2 d2 => ?_)
      · rw [sb.2 (m : Int) (by omega) (by omega)]
        by_cases cm : (m : Int) = nm (Int.toNat i)
        · rw [if_pos cm, if_pos rfl, show 54 + m = (Int.toNat (54 + (nm (Int.toNat i)))) by omega]; exact qm_st_eq
        · rw [if_neg cm, qm_st_ne (by omega)]; exact hd m hm
      · rw [show Int.toNat (i + 1) = Int.toNat i + 1 by omega] at f2 m2 o2 d2
        exact k J2 (fun r s x hx => by rw [e2 r s x hx, qm_st_ne (by omega)]) (by rw [qm_la_n (show ¬ kd (Int.toNat i) = 0 by omega)]; exact f2) (by rw [qm_la_n (show ¬ kd (Int.toNat i) = 1 by omega)]; exact m2) (by rw [qm_la_n (show ¬ kd (Int.toNat i) = 2 by omega)]; exact o2) (fun m hm => by rw [qm_gn_y (show kd (Int.toNat i) = 3 by omega)]; exact d2 m hm)
theorem qm_m_ev2 {S : List qm_Sh} {K : qm_J} {L : qm_Ct Int64} {D : qm_Ct UInt64} {R : qm_Ct (Option qm_Rf)} {X : Nat × (Nat → Int32)} {Q : Option qm_V → qm_Hp → Prop} {N kd nm : Nat → Int} {a b c d e f h cnt : Int} (hS : qm_Sd S) (hR : qm_Rd R) (rc : 0 ≤ cnt ∧ cnt ≤ 8) (rk : ∀ j, j < 8 → 0 ≤ kd j ∧ kd j ≤ 3) (rn : ∀ j, j < 8 → 0 ≤ nm j ∧ nm j ≤ 99) (r3 : ∀ j, j < 8 → kd j = 3 → nm j ≤ 3) : ∀ (n : Nat) (i F M O g : Int) (J : qm_J), i + n = cnt → 0 ≤ i → (0 ≤ g ∧ g ≤ 15) → J 62 0 13 = cnt → (∀ j, j < 8 → J 62 0 (111 + 2 * j) = kd j ∧ J 62 0 (112 + 2 * j) = nm j) → J 62 0 3 = F → J 62 0 1 = M → J 62 0 2 = O → (∀ m : Nat, m < 4 → J 62 0 (58 + m) = if g / qm_p2 m % 2 = 1 then -5 else N (58 + m)) → (∀ J' : qm_J, (∀ r s x, ¬ (r = 62 ∧ s = 0 ∧ (1 ≤ x ∧ x ≤ 3 ∨ 58 ≤ x ∧ x < 62)) → J' r s x = J r s x) → J' 62 0 3 = qm_la kd nm 0 n (Int.toNat i) F → J' 62 0 1 = qm_la kd nm 1 n (Int.toNat i) M → J' 62 0 2 = qm_la kd nm 2 n (Int.toNat i) O → (∀ m : Nat, m < 4 → J' 62 0 (58 + m) = if qm_gn kd nm n (Int.toNat i) g / qm_p2 m % 2 = 1 then -5 else N (58 + m)) → qm_G qm_P qm_P188 161 [(0, qm_R (some (0, 61, 0))), (1, qm_I (qm_i a)), (2, qm_I (qm_i b)), (3, qm_I (qm_i c)), (4, qm_I (qm_i 58)), (5, qm_I (qm_i d)), (6, qm_I (qm_i e)), (7, qm_I (qm_i f)), (8, qm_I (qm_i h))] [] (qm_H S J' K L D R X) Q) → qm_G qm_P qm_P188 80 [(0, qm_R (some (0, 61, 0))), (1, qm_I (qm_i a)), (2, qm_I (qm_i b)), (3, qm_I (qm_i c)), (4, qm_I (qm_i 58)), (5, qm_I (qm_i d)), (6, qm_I (qm_i e)), (7, qm_I (qm_i f)), (8, qm_I (qm_i h)), (9, qm_I (qm_i i))] [] (qm_H S J K L D R X) Q := by
  intro n
  induction n with
  | zero =>
    intro i F M O g J h1 h2 hg hc hv hF hM hO hd k
    refine qm_G.pk (lv1 := [(0, qm_R (some (0, 61, 0))), (1, qm_I (qm_i a)), (2, qm_I (qm_i b)), (3, qm_I (qm_i c)), (4, qm_I (qm_i 58)), (5, qm_I (qm_i d)), (6, qm_I (qm_i e)), (7, qm_I (qm_i f)), (8, qm_I (qm_i h)), (9, qm_I (qm_i i))]) rfl rfl rfl ?_
    refine qm_G.sp (lv1 := [(0, qm_R (some (0, 61, 0))), (1, qm_I (qm_i a)), (2, qm_I (qm_i b)), (3, qm_I (qm_i c)), (4, qm_I (qm_i 58)), (5, qm_I (qm_i d)), (6, qm_I (qm_i e)), (7, qm_I (qm_i f)), (8, qm_I (qm_i h)), (9, qm_I (qm_i i))]) rfl rfl (qm_x_iload rfl) ?_
    refine qm_G.s1 rfl (qm_x_aload rfl) ?_
    refine qm_G.s1 rfl (qm_x_getfR (q := (some (0, 62, 0))) (hS 61 rfl) (hR 61 0 62 rfl rfl)) ?_
    refine qm_G.s1 rfl (qm_x_pushI 13 rfl) ?_
    refine qm_G.s1 rfl (qm_x_iald (v := cnt) (qm_arS hS rfl rfl) rfl (by decide) (by decide) (by decide) hc) ?_
    refine qm_G.s1 rfl (qm_x_icmp_ge_t ⟨by omega, by omega⟩ ⟨by omega, by omega⟩ (by omega)) ?_
    refine qm_G.pk (lv1 := [(0, qm_R (some (0, 61, 0))), (1, qm_I (qm_i a)), (2, qm_I (qm_i b)), (3, qm_I (qm_i c)), (4, qm_I (qm_i 58)), (5, qm_I (qm_i d)), (6, qm_I (qm_i e)), (7, qm_I (qm_i f)), (8, qm_I (qm_i h))]) rfl rfl rfl ?_
    exact k J (fun _ _ _ _ => rfl) hF hM hO hd
  | succ n ih =>
    intro i F M O g J h1 h2 hg hc hv hF hM hO hd k
    have h3 : i < cnt := by omega
    refine qm_G.pk (lv1 := [(0, qm_R (some (0, 61, 0))), (1, qm_I (qm_i a)), (2, qm_I (qm_i b)), (3, qm_I (qm_i c)), (4, qm_I (qm_i 58)), (5, qm_I (qm_i d)), (6, qm_I (qm_i e)), (7, qm_I (qm_i f)), (8, qm_I (qm_i h)), (9, qm_I (qm_i i))]) rfl rfl rfl ?_
    refine qm_G.sp (lv1 := [(0, qm_R (some (0, 61, 0))), (1, qm_I (qm_i a)), (2, qm_I (qm_i b)), (3, qm_I (qm_i c)), (4, qm_I (qm_i 58)), (5, qm_I (qm_i d)), (6, qm_I (qm_i e)), (7, qm_I (qm_i f)), (8, qm_I (qm_i h)), (9, qm_I (qm_i i))]) rfl rfl (qm_x_iload rfl) ?_
    refine qm_G.s1 rfl (qm_x_aload rfl) ?_
    refine qm_G.s1 rfl (qm_x_getfR (q := (some (0, 62, 0))) (hS 61 rfl) (hR 61 0 62 rfl rfl)) ?_
    refine qm_G.s1 rfl (qm_x_pushI 13 rfl) ?_
    refine qm_G.s1 rfl (qm_x_iald (v := cnt) (qm_arS hS rfl rfl) rfl (by decide) (by decide) (by decide) hc) ?_
    refine qm_G.s1 rfl (qm_x_icmp_ge_f ⟨by omega, by omega⟩ ⟨by omega, by omega⟩ (by omega)) ?_
    refine qm_G.s1 rfl (qm_x_aload rfl) ?_
    refine qm_G.s1 rfl (qm_x_getfR (q := (some (0, 62, 0))) (hS 61 rfl) (hR 61 0 62 rfl rfl)) ?_
    refine qm_G.s1 rfl (qm_x_pushI 111 rfl) ?_
    refine qm_G.s1 rfl (qm_x_pushI 2 rfl) ?_
    refine qm_G.s1 rfl (qm_x_iload rfl) ?_
    refine qm_G.s1 rfl (qm_x_imul) ?_
    refine qm_G.s1 rfl (qm_x_iadd) ?_
    have gk := rk (Int.toNat i) (by omega)
    refine qm_G.s1 rfl (qm_x_iald (v := (kd (Int.toNat i))) (qm_arS hS rfl rfl) rfl (by omega) (by omega) (by decide) (Eq.trans (congrArg (J 62 0) (by omega)) (hv (Int.toNat i) (by omega)).1)) ?_
    refine qm_G.s1 rfl (qm_x_istore (lv' := [(10, qm_I (qm_i (kd (Int.toNat i)))), (0, qm_R (some (0, 61, 0))), (1, qm_I (qm_i a)), (2, qm_I (qm_i b)), (3, qm_I (qm_i c)), (4, qm_I (qm_i 58)), (5, qm_I (qm_i d)), (6, qm_I (qm_i e)), (7, qm_I (qm_i f)), (8, qm_I (qm_i h)), (9, qm_I (qm_i i))]) rfl) ?_
    refine qm_G.s1 rfl (qm_x_aload rfl) ?_
    refine qm_G.s1 rfl (qm_x_getfR (q := (some (0, 62, 0))) (hS 61 rfl) (hR 61 0 62 rfl rfl)) ?_
    refine qm_G.s1 rfl (qm_x_pushI 111 rfl) ?_
    refine qm_G.s1 rfl (qm_x_pushI 2 rfl) ?_
    refine qm_G.s1 rfl (qm_x_iload rfl) ?_
    refine qm_G.s1 rfl (qm_x_imul) ?_
    refine qm_G.s1 rfl (qm_x_iadd) ?_
    refine qm_G.s1 rfl (qm_x_pushI 1 rfl) ?_
    refine qm_G.s1 rfl (qm_x_iadd) ?_
    have gn := rn (Int.toNat i) (by omega)
    have g3 := r3 (Int.toNat i) (by omega)
    refine qm_G.s1 rfl (qm_x_iald (v := (nm (Int.toNat i))) (qm_arS hS rfl rfl) rfl (by omega) (by omega) (by decide) (Eq.trans (congrArg (J 62 0) (by omega)) (hv (Int.toNat i) (by omega)).2)) ?_
    refine qm_G.s1 rfl (qm_x_istore (lv' := [(11, qm_I (qm_i (nm (Int.toNat i)))), (10, qm_I (qm_i (kd (Int.toNat i)))), (0, qm_R (some (0, 61, 0))), (1, qm_I (qm_i a)), (2, qm_I (qm_i b)), (3, qm_I (qm_i c)), (4, qm_I (qm_i 58)), (5, qm_I (qm_i d)), (6, qm_I (qm_i e)), (7, qm_I (qm_i f)), (8, qm_I (qm_i h)), (9, qm_I (qm_i i))]) rfl) ?_
    refine qm_G.s1 rfl (qm_x_iload rfl) ?_
    refine qm_G.s1 rfl (qm_x_pushI 3 rfl) ?_
    refine qm_y_icmp_ne rfl ⟨by omega, by omega⟩ ⟨by decide, by decide⟩ (fun c1 => ?_) (fun c1 => ?_)
    · refine qm_G.sp (lv1 := [(0, qm_R (some (0, 61, 0))), (1, qm_I (qm_i a)), (2, qm_I (qm_i b)), (3, qm_I (qm_i c)), (4, qm_I (qm_i 58)), (5, qm_I (qm_i d)), (6, qm_I (qm_i e)), (7, qm_I (qm_i f)), (8, qm_I (qm_i h)), (9, qm_I (qm_i i)), (10, qm_I (qm_i (kd (Int.toNat i)))), (11, qm_I (qm_i (nm (Int.toNat i))))]) rfl rfl (qm_x_aload rfl) ?_
      refine qm_G.s1 rfl (qm_x_getfR (q := (some (0, 62, 0))) (hS 61 rfl) (hR 61 0 62 rfl rfl)) ?_
      refine qm_G.s1 rfl (qm_x_iload rfl) ?_
      refine qm_G.cs rfl rfl rfl ?_
      refine qm_C.go (cd := qm_P25) (lv := [(0, qm_I (qm_i (kd (Int.toNat i))))]) rfl rfl ?_
      refine qm_G.s1 rfl (qm_x_iload rfl) ?_
      refine qm_y_if_ne rfl ⟨by omega, by omega⟩ (fun c2 => ?_) (fun c2 => ?_)
      · refine qm_G.sp (lv1 := [(0, qm_I (qm_i (kd (Int.toNat i))))]) rfl rfl (qm_x_iload rfl) ?_
        refine qm_G.s1 rfl (qm_x_pushI 1 rfl) ?_
        refine qm_y_icmp_ne rfl ⟨by omega, by omega⟩ ⟨by decide, by decide⟩ (fun c3 => ?_) (fun c3 => ?_)
        · refine qm_G.sp (lv1 := []) rfl rfl (qm_x_pushI 2 rfl) ?_
          refine qm_G.ret rfl rfl ⟨_, rfl, ?_⟩
          refine qm_G.s1 rfl (qm_x_iload rfl) ?_
          refine qm_G.s1 rfl (qm_x_iast (qm_arS hS rfl rfl) rfl (by decide) (by decide) (by decide)) ?_
          refine qm_G.sp (lv1 := [(0, qm_R (some (0, 61, 0))), (1, qm_I (qm_i a)), (2, qm_I (qm_i b)), (3, qm_I (qm_i c)), (4, qm_I (qm_i 58)), (5, qm_I (qm_i d)), (6, qm_I (qm_i e)), (7, qm_I (qm_i f)), (8, qm_I (qm_i h)), (9, qm_I (qm_i i))]) rfl rfl (qm_x_iinc (lv' := [(9, qm_I (qm_i (i + 1))), (0, qm_R (some (0, 61, 0))), (1, qm_I (qm_i a)), (2, qm_I (qm_i b)), (3, qm_I (qm_i c)), (4, qm_I (qm_i 58)), (5, qm_I (qm_i d)), (6, qm_I (qm_i e)), (7, qm_I (qm_i f)), (8, qm_I (qm_i h))]) 1 rfl rfl rfl) ?_
          refine qm_G.s1 rfl (qm_x_goto) ?_
          refine qm_G.pk (lv1 := [(0, qm_R (some (0, 61, 0))), (1, qm_I (qm_i a)), (2, qm_I (qm_i b)), (3, qm_I (qm_i c)), (4, qm_I (qm_i 58)), (5, qm_I (qm_i d)), (6, qm_I (qm_i e)), (7, qm_I (qm_i f)), (8, qm_I (qm_i h)), (9, qm_I (qm_i (i + 1)))]) rfl rfl rfl ?_
          refine ih (i + 1) F M (nm (Int.toNat i)) g _ (by omega) (by omega) hg (by rw [qm_st_ne (by omega)]; exact hc) (fun j hj => by rw [qm_st_ne (by omega), qm_st_ne (by omega)]; exact hv j hj) (by rw [qm_st_ne (by omega)]; exact hF) (by rw [qm_st_ne (by omega)]; exact hM) qm_st_eq (fun m hm => ?_) (fun J2 e2 f2 m2 o2 d2 => ?_)
          · rw [qm_st_ne (by omega)]; exact hd m hm
          · rw [show Int.toNat (i + 1) = Int.toNat i + 1 by omega] at f2 m2 o2 d2
            exact k J2 (fun r s x hx => by rw [e2 r s x hx, qm_st_ne (by omega)]) (by rw [qm_la_n (show ¬ kd (Int.toNat i) = 0 by omega)]; exact f2) (by rw [qm_la_n (show ¬ kd (Int.toNat i) = 1 by omega)]; exact m2) (by rw [qm_la_y (show kd (Int.toNat i) = 2 by omega)]; exact o2) (fun m hm => by rw [qm_gn_n (show ¬ kd (Int.toNat i) = 3 by omega)]; exact d2 m hm)
        · refine qm_G.s1 rfl (qm_x_pushI 1 rfl) ?_
          refine qm_G.s1 rfl (qm_x_goto) ?_
          refine qm_G.ret rfl rfl ⟨_, rfl, ?_⟩
          refine qm_G.s1 rfl (qm_x_iload rfl) ?_
          refine qm_G.s1 rfl (qm_x_iast (qm_arS hS rfl rfl) rfl (by decide) (by decide) (by decide)) ?_
          refine qm_G.sp (lv1 := [(0, qm_R (some (0, 61, 0))), (1, qm_I (qm_i a)), (2, qm_I (qm_i b)), (3, qm_I (qm_i c)), (4, qm_I (qm_i 58)), (5, qm_I (qm_i d)), (6, qm_I (qm_i e)), (7, qm_I (qm_i f)), (8, qm_I (qm_i h)), (9, qm_I (qm_i i))]) rfl rfl (qm_x_iinc (lv' := [(9, qm_I (qm_i (i + 1))), (0, qm_R (some (0, 61, 0))), (1, qm_I (qm_i a)), (2, qm_I (qm_i b)), (3, qm_I (qm_i c)), (4, qm_I (qm_i 58)), (5, qm_I (qm_i d)), (6, qm_I (qm_i e)), (7, qm_I (qm_i f)), (8, qm_I (qm_i h))]) 1 rfl rfl rfl) ?_
          refine qm_G.s1 rfl (qm_x_goto) ?_
          refine qm_G.pk (lv1 := [(0, qm_R (some (0, 61, 0))), (1, qm_I (qm_i a)), (2, qm_I (qm_i b)), (3, qm_I (qm_i c)), (4, qm_I (qm_i 58)), (5, qm_I (qm_i d)), (6, qm_I (qm_i e)), (7, qm_I (qm_i f)), (8, qm_I (qm_i h)), (9, qm_I (qm_i (i + 1)))]) rfl rfl rfl ?_
          refine ih (i + 1) F (nm (Int.toNat i)) O g _ (by omega) (by omega) hg (by rw [qm_st_ne (by omega)]; exact hc) (fun j hj => by rw [qm_st_ne (by omega), qm_st_ne (by omega)]; exact hv j hj) (by rw [qm_st_ne (by omega)]; exact hF) qm_st_eq (by rw [qm_st_ne (by omega)]; exact hO) (fun m hm => ?_) (fun J2 e2 f2 m2 o2 d2 => ?_)
          · rw [qm_st_ne (by omega)]; exact hd m hm
          · rw [show Int.toNat (i + 1) = Int.toNat i + 1 by omega] at f2 m2 o2 d2
            exact k J2 (fun r s x hx => by rw [e2 r s x hx, qm_st_ne (by omega)]) (by rw [qm_la_n (show ¬ kd (Int.toNat i) = 0 by omega)]; exact f2) (by rw [qm_la_y (show kd (Int.toNat i) = 1 by omega)]; exact m2) (by rw [qm_la_n (show ¬ kd (Int.toNat i) = 2 by omega)]; exact o2) (fun m hm => by rw [qm_gn_n (show ¬ kd (Int.toNat i) = 3 by omega)]; exact d2 m hm)
      · refine qm_G.s1 rfl (qm_x_pushI 3 rfl) ?_
        refine qm_G.s1 rfl (qm_x_goto) ?_
        refine qm_G.ret rfl rfl ⟨_, rfl, ?_⟩
        refine qm_G.s1 rfl (qm_x_iload rfl) ?_
        refine qm_G.s1 rfl (qm_x_iast (qm_arS hS rfl rfl) rfl (by decide) (by decide) (by decide)) ?_
        refine qm_G.sp (lv1 := [(0, qm_R (some (0, 61, 0))), (1, qm_I (qm_i a)), (2, qm_I (qm_i b)), (3, qm_I (qm_i c)), (4, qm_I (qm_i 58)), (5, qm_I (qm_i d)), (6, qm_I (qm_i e)), (7, qm_I (qm_i f)), (8, qm_I (qm_i h)), (9, qm_I (qm_i i))]) rfl rfl (qm_x_iinc (lv' := [(9, qm_I (qm_i (i + 1))), (0, qm_R (some (0, 61, 0))), (1, qm_I (qm_i a)), (2, qm_I (qm_i b)), (3, qm_I (qm_i c)), (4, qm_I (qm_i 58)), (5, qm_I (qm_i d)), (6, qm_I (qm_i e)), (7, qm_I (qm_i f)), (8, qm_I (qm_i h))]) 1 rfl rfl rfl) ?_
        refine qm_G.s1 rfl (qm_x_goto) ?_
        refine qm_G.pk (lv1 := [(0, qm_R (some (0, 61, 0))), (1, qm_I (qm_i a)), (2, qm_I (qm_i b)), (3, qm_I (qm_i c)), (4, qm_I (qm_i 58)), (5, qm_I (qm_i d)), (6, qm_I (qm_i e)), (7, qm_I (qm_i f)), (8, qm_I (qm_i h)), (9, qm_I (qm_i (i + 1)))]) rfl rfl rfl ?_
        refine ih (i + 1) (nm (Int.toNat i)) M O g _ (by omega) (by omega) hg (by rw [qm_st_ne (by omega)]; exact hc) (fun j hj => by rw [qm_st_ne (by omega), qm_st_ne (by omega)]; exact hv j hj) qm_st_eq (by rw [qm_st_ne (by omega)]; exact hM) (by rw [qm_st_ne (by omega)]; exact hO) (fun m hm => ?_) (fun J2 e2 f2 m2 o2 d2 => ?_)
        · rw [qm_st_ne (by omega)]; exact hd m hm
        · rw [show Int.toNat (i + 1) = Int.toNat i + 1 by omega] at f2 m2 o2 d2
          exact k J2 (fun r s x hx => by rw [e2 r s x hx, qm_st_ne (by omega)]) (by rw [qm_la_y (show kd (Int.toNat i) = 0 by omega)]; exact f2) (by rw [qm_la_n (show ¬ kd (Int.toNat i) = 1 by omega)]; exact m2) (by rw [qm_la_n (show ¬ kd (Int.toNat i) = 2 by omega)]; exact o2) (fun m hm => by rw [qm_gn_n (show ¬ kd (Int.toNat i) = 3 by omega)]; exact d2 m hm)
    · refine qm_G.s1 rfl (qm_x_aload rfl) ?_
      refine qm_G.s1 rfl (qm_x_getfR (q := (some (0, 62, 0))) (hS 61 rfl) (hR 61 0 62 rfl rfl)) ?_
      refine qm_G.s1 rfl (qm_x_iload rfl) ?_
      refine qm_G.s1 rfl (qm_x_iload rfl) ?_
      refine qm_G.s1 rfl (qm_x_iadd) ?_
      refine qm_G.s1 rfl (qm_x_pushI (-5) rfl) ?_
      refine qm_G.s1 rfl (qm_x_iast (qm_arS hS rfl rfl) rfl (by omega) (by omega) (by decide)) ?_
      refine qm_G.s1 rfl (qm_x_goto) ?_
      refine qm_G.sp (lv1 := [(0, qm_R (some (0, 61, 0))), (1, qm_I (qm_i a)), (2, qm_I (qm_i b)), (3, qm_I (qm_i c)), (4, qm_I (qm_i 58)), (5, qm_I (qm_i d)), (6, qm_I (qm_i e)), (7, qm_I (qm_i f)), (8, qm_I (qm_i h)), (9, qm_I (qm_i i))]) rfl rfl (qm_x_iinc (lv' := [(9, qm_I (qm_i (i + 1))), (0, qm_R (some (0, 61, 0))), (1, qm_I (qm_i a)), (2, qm_I (qm_i b)), (3, qm_I (qm_i c)), (4, qm_I (qm_i 58)), (5, qm_I (qm_i d)), (6, qm_I (qm_i e)), (7, qm_I (qm_i f)), (8, qm_I (qm_i h))]) 1 rfl rfl rfl) ?_
      refine qm_G.s1 rfl (qm_x_goto) ?_
      refine qm_G.pk (lv1 := [(0, qm_R (some (0, 61, 0))), (1, qm_I (qm_i a)), (2, qm_I (qm_i b)), (3, qm_I (qm_i c)), (4, qm_I (qm_i 58)), (5, qm_I (qm_i d)), (6, qm_I (qm_i e)), (7, qm_I (qm_i f)), (8, qm_I (qm_i h)), (9, qm_I (qm_i (i + 1)))]) rfl rfl rfl ?_
      have sb := qm_sb_ok hg (n := nm (Int.toNat i)) (by omega)
      refine ih (i + 1) F M O (qm_sb g (nm (Int.toNat i))) _ (by omega) (by omega) sb.1 (by rw [qm_st_ne (by omega)]; exact hc) (fun j hj => by rw [qm_st_ne (by omega), qm_st_ne (by omega)]; exact hv j hj) (by rw [qm_st_ne (by omega)]; exact hF) (by rw [qm_st_ne (by omega)]; exact hM) (by rw [qm_st_ne (by omega)]; exact hO) (fun m hm => ?_) (fun J2 e2 f2 m2 o2 d2 => ?_)
      · rw [sb.2 (m : Int) (by omega) (by omega)]
        by_cases cm : (m : Int) = nm (Int.toNat i)
        · rw [if_pos cm, if_pos rfl, show 58 + m = (Int.toNat (58 + (nm (Int.toNat i)))) by omega]; exact qm_st_eq
        · rw [if_neg cm, qm_st_ne (by omega)]; exact hd m hm
      · rw [show Int.toNat (i + 1) = Int.toNat i + 1 by omega] at f2 m2 o2 d2
        exact k J2 (fun r s x hx => by rw [e2 r s x hx, qm_st_ne (by omega)]) (by rw [qm_la_n (show ¬ kd (Int.toNat i) = 0 by omega)]; exact f2) (by rw [qm_la_n (show ¬ kd (Int.toNat i) = 1 by omega)]; exact m2) (by rw [qm_la_n (show ¬ kd (Int.toNat i) = 2 by omega)]; exact o2) (fun m hm => by rw [qm_gn_y (show kd (Int.toNat i) = 3 by omega)]; exact d2 m hm)
theorem qm_plc_eq {N N' : Nat → Int} {sd d c r : Int} (h : ∀ i, 26 ≤ i → i < 50 → N' i = N i) (hr : r < 8) : qm_plc N' sd d c r = qm_plc N sd d c r := by
  unfold qm_plc
  split
  · rfl
  · rw [h (26 + 3 * Int.toNat r) (by omega) (by omega), h (27 + 3 * Int.toNat r) (by omega) (by omega), h (28 + 3 * Int.toNat r) (by omega) (by omega)]
theorem qm_ch_gone {N N' : Nat → Int} {g sd d : Int} (hN : qm_Nk N) (hs : 0 ≤ sd ∧ sd ≤ 1) (hd : 0 ≤ d ∧ d ≤ 6) (hg : 0 ≤ g ∧ g ≤ 15) (h1 : ∀ i, 14 ≤ i → i < 50 → N' i = N i) (h6 : N' 6 = N 6) (h2 : ∀ m : Nat, m < 4 → N' (50 + 4 * Int.toNat (N 6) + m) = if g / qm_p2 m % 2 = 1 then -5 else N (50 + 4 * Int.toNat (N 6) + m)) : qm_ch N' 0 sd d = qm_ch N g sd d := by
  have r6 := hN.str
  have r7 := hN.cnt
  have dk : ∀ m : Nat, m < 4 → N (50 + 4 * Int.toNat (N 6) + m) < 8 := fun m hm => by
    have h9 := hN.dek (4 * Int.toNat (N 6) + m) (by omega)
    rw [show 50 + (4 * Int.toNat (N 6) + m) = 50 + 4 * Int.toNat (N 6) + m by omega] at h9
    omega
  have k0 := h2 0 (by decide)
  have k1 := h2 1 (by decide)
  have k2 := h2 2 (by decide)
  have k3 := h2 3 (by decide)
  rw [show qm_p2 ((0 : Nat) : Int) = 1 from rfl, Int.ediv_one] at k0
  rw [show qm_p2 ((1 : Nat) : Int) = 2 from rfl] at k1
  rw [show qm_p2 ((2 : Nat) : Int) = 4 from rfl] at k2
  rw [show qm_p2 ((3 : Nat) : Int) = 8 from rfl] at k3
  have b0 := dk 0 (by decide)
  have b1 := dk 1 (by decide)
  have b2 := dk 2 (by decide)
  have b3 := dk 3 (by decide)
  have lt : ∀ {c : Prop} [Decidable c] {x : Int}, x < 8 → (if c then (-5 : Int) else x) < 8 := by
    intro c _ x hx
    split <;> omega
  unfold qm_ch
  rw [h6, k0, k1, k2, k3, h1 (Int.toNat (14 + 6 * sd + d)) (by omega) (by omega)]
  unfold qm_cho
  split
  · rfl
  · rw [if_neg (show ¬ (0 : Int) % 2 = 1 by decide), if_neg (show ¬ (0 : Int) / 2 % 2 = 1 by decide), if_neg (show ¬ (0 : Int) / 4 % 2 = 1 by decide), if_neg (show ¬ (0 : Int) / 8 % 2 = 1 by decide)]
    rw [qm_plc_eq (N := N) (fun i a b => h1 i (by omega) b) (lt b0), qm_plc_eq (N := N) (fun i a b => h1 i (by omega) b) (lt b1), qm_plc_eq (N := N) (fun i a b => h1 i (by omega) b) (lt b2), qm_plc_eq (N := N) (fun i a b => h1 i (by omega) b) (lt b3)]
