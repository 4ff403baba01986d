/-! ADOPT: the loops -/
def qm_many (f g : Int → Int) : Nat → Int → Int → Int
  | 0, _, c => c
  | n + 1, s, c => qm_many f g n (s + 1) (if f s = g s then c else c + 1)
theorem qm_many_rng {f g : Int → Int} : ∀ (n : Nat) (s c : Int), c ≤ qm_many f g n s c ∧ qm_many f g n s c ≤ c + n := by
  intro n
  induction n with
  | zero => intro s c; exact ⟨Int.le_refl _, by show c ≤ c + ((0 : Nat) : Int); omega⟩
  | succ n ih =>
    intro s c
    have h := ih (s + 1) (if f s = g s then c else c + 1)
    show c ≤ qm_many f g n (s + 1) (if f s = g s then c else c + 1) ∧ qm_many f g n (s + 1) (if f s = g s then c else c + 1) ≤ _
    split at h
    · rename_i h1; rw [if_pos h1]; omega
    · rename_i h1; rw [if_neg h1]; omega
theorem qm_d_adl {S : List qm_Sh} {K : qm_J} {L : qm_Ct Int64} {D : qm_Ct UInt64} {R : qm_Ct (Option qm_Rf)} {X : Nat × (Nat → Int32)} {Q : Option qm_V → qm_Hp → Prop} {lim T : Int} {r1 r2 w1 w2 : Int → Int} (hS : qm_Sd S) (hR : qm_Rd R) (rl : 1 ≤ lim ∧ lim ≤ 8) (rT : 1 ≤ T ∧ T ≤ 8) (g1 : ∀ x, -lim ≤ x → x ≤ lim → (0 ≤ r1 x ∧ r1 x ≤ 6) ∧ (0 ≤ r2 x ∧ r2 x ≤ 6)) (g2 : ∀ x, -lim ≤ x → x ≤ lim → (0 ≤ w1 x ∧ w1 x ≤ 6) ∧ (0 ≤ w2 x ∧ w2 x ≤ 6)) : ∀ (n : Nat) (s c : Int) (J : qm_J), s + n = lim + 1 → -lim ≤ s → 0 ≤ c ∧ c + n ≤ 100 → (∀ x : Int, -lim ≤ x → x ≤ lim → J 38 (Int.toNat T + 1) (Int.toNat (x + 8)) = w1 x ∧ J 39 (Int.toNat T + 1) (Int.toNat (x + 8)) = w2 x) → (∀ x : Int, s ≤ x → x ≤ lim → J 17 1 (Int.toNat (x + 8)) = r1 x ∧ J 17 2 (Int.toNat (x + 8)) = r2 x) → (∀ J' : qm_J, (∀ r q i, r ≠ 17 → J' r q i = J r q i) → (∀ x : Int, s ≤ x → x ≤ lim → J' 17 1 (Int.toNat (x + 8)) = w1 x ∧ J' 17 2 (Int.toNat (x + 8)) = w2 x) → (∀ q i : Nat, (∀ x : Int, s ≤ x → x ≤ lim → i ≠ Int.toNat (x + 8)) → J' 17 q i = J 17 q i) → Q (some (qm_I (qm_i (qm_many (fun x => 10 * r1 x + r2 x) (fun x => 10 * w1 x + w2 x) n s c)))) (qm_H S J' K L D R X)) → qm_G qm_P qm_P211 29 [(0, qm_R (some (0, 0, 0))), (1, qm_I (qm_i T)), (2, qm_I (qm_i lim)), (3, qm_I (qm_i c)), (4, qm_I (qm_i s))] [] (qm_H S J K L D R X) Q := by
  intro n
  induction n with
  | zero =>
    intro s c J h1 h2 h3 hw hr k
    refine qm_G.pk (lv1 := [(0, qm_R (some (0, 0, 0))), (1, qm_I (qm_i T)), (2, qm_I (qm_i lim)), (3, qm_I (qm_i c)), (4, qm_I (qm_i s))]) rfl rfl rfl ?_
    refine qm_G.sp (lv1 := [(0, qm_R (some (0, 0, 0))), (1, qm_I (qm_i T)), (2, qm_I (qm_i lim)), (3, qm_I (qm_i c)), (4, qm_I (qm_i s))]) rfl rfl (qm_x_iload rfl) ?_
    refine qm_G.s1 rfl (qm_x_iload rfl) ?_
    refine qm_G.s1 rfl (qm_x_icmp_gt_t ⟨by omega, by omega⟩ ⟨by omega, by omega⟩ (by omega)) ?_
    refine qm_G.sp (lv1 := [(3, qm_I (qm_i c))]) rfl rfl (qm_x_iload rfl) ?_
    exact qm_G.ret rfl rfl (k J (fun _ _ _ _ => rfl) (fun x a b => absurd b (by omega)) (fun _ _ _ => rfl))
  | succ n ih =>
    intro s c J h1 h2 h3 hw hr k
    have h4 : s ≤ lim := by omega
    refine qm_G.pk (lv1 := [(0, qm_R (some (0, 0, 0))), (1, qm_I (qm_i T)), (2, qm_I (qm_i lim)), (3, qm_I (qm_i c)), (4, qm_I (qm_i s))]) rfl rfl rfl ?_
    refine qm_G.sp (lv1 := [(0, qm_R (some (0, 0, 0))), (1, qm_I (qm_i T)), (2, qm_I (qm_i lim)), (3, qm_I (qm_i c)), (4, qm_I (qm_i s))]) rfl rfl (qm_x_iload rfl) ?_
    refine qm_G.s1 rfl (qm_x_iload rfl) ?_
    refine qm_G.s1 rfl (qm_x_icmp_gt_f ⟨by omega, by omega⟩ ⟨by omega, by omega⟩ (by omega)) ?_
    refine qm_G.s1 rfl (qm_x_aload rfl) ?_
    refine qm_G.s1 rfl (qm_x_getfR (q := (some (0, 35, 0))) (hS 0 rfl) (hR 0 3 35 rfl rfl)) ?_
    refine qm_G.s1 rfl (qm_x_iload rfl) ?_
    refine qm_G.s1 rfl (qm_x_iload rfl) ?_
    refine qm_G.s1 rfl (qm_x_pushI 0 rfl) ?_
    refine qm_G.cm rfl rfl (hS 35 rfl) rfl ?_
    refine qm_C.go (cd := qm_P31) (lv := [(0, qm_R (some (0, 35, 0))), (1, qm_I (qm_i s)), (2, qm_I (qm_i T)), (3, qm_I (qm_i 0))]) rfl rfl ?_
    refine qm_G.s1 rfl (qm_x_iload rfl) ?_
    refine qm_G.s1 rfl (qm_x_if_ne_f ⟨by decide, by decide⟩ (by decide)) ?_
    refine qm_G.s1 rfl (qm_x_aload rfl) ?_
    refine qm_G.s1 rfl (qm_x_getfR (q := (some (0, 38, 0))) (hS 35 rfl) (hR 35 2 38 rfl rfl)) ?_
    refine qm_G.s1 rfl (qm_x_iload rfl) ?_
    refine qm_G.s1 rfl (qm_x_aaldg (hS 38 rfl) rfl rfl (by omega) (by omega)) ?_
    refine qm_G.s1 rfl (qm_x_iload rfl) ?_
    refine qm_G.s1 rfl (qm_x_pushI 8 rfl) ?_
    refine qm_G.s1 rfl (qm_x_iadd) ?_
    have hh2 := g2 s (by omega) (by omega)
    refine qm_G.s1 rfl (qm_x_iald (v := (w1 s)) (qm_arS hS rfl rfl) rfl (by omega) (by omega) (by omega) (hw s (by omega) (by omega)).1) ?_
    refine qm_G.s1 rfl (qm_x_goto) ?_
    refine qm_G.ret rfl rfl ⟨_, rfl, ?_⟩
    refine qm_G.s1 rfl (qm_x_istore (lv' := [(5, qm_I (qm_i (w1 s))), (0, qm_R (some (0, 0, 0))), (1, qm_I (qm_i T)), (2, qm_I (qm_i lim)), (3, qm_I (qm_i c)), (4, qm_I (qm_i s))]) rfl) ?_
    refine qm_G.s1 rfl (qm_x_aload rfl) ?_
    refine qm_G.s1 rfl (qm_x_getfR (q := (some (0, 35, 0))) (hS 0 rfl) (hR 0 3 35 rfl rfl)) ?_
    refine qm_G.s1 rfl (qm_x_iload rfl) ?_
    refine qm_G.s1 rfl (qm_x_iload rfl) ?_
    refine qm_G.s1 rfl (qm_x_pushI 1 rfl) ?_
    refine qm_G.cm rfl rfl (hS 35 rfl) rfl ?_
    refine qm_C.go (cd := qm_P31) (lv := [(0, qm_R (some (0, 35, 0))), (1, qm_I (qm_i s)), (2, qm_I (qm_i T)), (3, qm_I (qm_i 1))]) rfl rfl ?_
    refine qm_G.s1 rfl (qm_x_iload rfl) ?_
    refine qm_G.s1 rfl (qm_x_if_ne_t ⟨by decide, by decide⟩ (by decide)) ?_
    refine qm_G.sp (lv1 := [(0, qm_R (some (0, 35, 0))), (1, qm_I (qm_i s)), (2, qm_I (qm_i T))]) rfl rfl (qm_x_aload rfl) ?_
    refine qm_G.s1 rfl (qm_x_getfR (q := (some (0, 39, 0))) (hS 35 rfl) (hR 35 3 39 rfl rfl)) ?_
    refine qm_G.s1 rfl (qm_x_iload rfl) ?_
    refine qm_G.s1 rfl (qm_x_aaldg (hS 39 rfl) rfl rfl (by omega) (by omega)) ?_
    refine qm_G.s1 rfl (qm_x_iload rfl) ?_
    refine qm_G.s1 rfl (qm_x_pushI 8 rfl) ?_
    refine qm_G.s1 rfl (qm_x_iadd) ?_
    refine qm_G.s1 rfl (qm_x_iald (v := (w2 s)) (qm_arS hS rfl rfl) rfl (by omega) (by omega) (by omega) (hw s (by omega) (by omega)).2) ?_
    refine qm_G.ret rfl rfl ⟨_, rfl, ?_⟩
    refine qm_G.s1 rfl (qm_x_istore (lv' := [(6, qm_I (qm_i (w2 s))), (5, qm_I (qm_i (w1 s))), (0, qm_R (some (0, 0, 0))), (1, qm_I (qm_i T)), (2, qm_I (qm_i lim)), (3, qm_I (qm_i c)), (4, qm_I (qm_i s))]) rfl) ?_
    refine qm_G.s1 rfl (qm_x_aload rfl) ?_
    refine qm_G.s1 rfl (qm_x_getfR (q := (some (0, 1, 0))) (hS 0 rfl) (hR 0 0 1 rfl rfl)) ?_
    refine qm_G.s1 rfl (qm_x_iload rfl) ?_
    refine qm_G.s1 rfl (qm_x_iload rfl) ?_
    refine qm_G.s1 rfl (qm_x_iload rfl) ?_
    refine qm_G.cm rfl rfl (hS 1 rfl) rfl ?_
    refine qm_C.go (cd := qm_P68) (lv := [(0, qm_R (some (0, 1, 0))), (1, qm_I (qm_i s)), (2, qm_I (qm_i (w1 s))), (3, qm_I (qm_i (w2 s)))]) rfl rfl ?_
    refine qm_G.s1 rfl (qm_x_iload rfl) ?_
    refine qm_G.s1 rfl (qm_x_pushI 8 rfl) ?_
    refine qm_G.s1 rfl (qm_x_iadd) ?_
    refine qm_G.s1 rfl (qm_x_istore (lv' := [(4, qm_I (qm_i (s + 8))), (0, qm_R (some (0, 1, 0))), (1, qm_I (qm_i s)), (2, qm_I (qm_i (w1 s))), (3, qm_I (qm_i (w2 s)))]) rfl) ?_
    refine qm_G.s1 rfl (qm_x_aload rfl) ?_
    refine qm_G.s1 rfl (qm_x_getfR (q := (some (0, 17, 0))) (hS 1 rfl) (hR 1 3 17 rfl rfl)) ?_
    refine qm_G.s1 rfl (qm_x_pushI 0 rfl) ?_
    refine qm_G.s1 rfl (qm_x_aaldg (hS 17 rfl) rfl rfl (by decide) (by decide)) ?_
    refine qm_G.s1 rfl (qm_x_iload rfl) ?_
    have hh1 := g1 s (by omega) (by omega)
    refine qm_G.s1 rfl (qm_x_iald (v := (r1 s)) (qm_arS hS rfl rfl) rfl (by omega) (by omega) (by decide) (hr s (by omega) (by omega)).1) ?_
    refine qm_G.s1 rfl (qm_x_aload rfl) ?_
    refine qm_G.s1 rfl (qm_x_getfR (q := (some (0, 17, 0))) (hS 1 rfl) (hR 1 3 17 rfl rfl)) ?_
    refine qm_G.s1 rfl (qm_x_pushI 1 rfl) ?_
    refine qm_G.s1 rfl (qm_x_aaldg (hS 17 rfl) rfl rfl (by decide) (by decide)) ?_
    refine qm_G.s1 rfl (qm_x_iload rfl) ?_
    refine qm_G.s1 rfl (qm_x_iald (v := (r2 s)) (qm_arS hS rfl rfl) rfl (by omega) (by omega) (by decide) (hr s (by omega) (by omega)).2) ?_
    refine qm_G.cs rfl rfl rfl ?_
    refine qm_C.go (cd := qm_P48) (lv := [(0, qm_I (qm_i (r1 s))), (1, qm_I (qm_i (r2 s)))]) rfl rfl ?_
    refine qm_G.s1 rfl (qm_x_pushI 10 rfl) ?_
    refine qm_G.s1 rfl (qm_x_iload rfl) ?_
    refine qm_G.s1 rfl (qm_x_imul) ?_
    refine qm_G.s1 rfl (qm_x_iload rfl) ?_
    refine qm_G.s1 rfl (qm_x_iadd) ?_
    refine qm_G.ret rfl rfl ⟨_, rfl, ?_⟩
    refine qm_G.s1 rfl (qm_x_istore (lv' := [(5, qm_I (qm_i ((10 * (r1 s)) + (r2 s)))), (4, qm_I (qm_i (s + 8))), (0, qm_R (some (0, 1, 0))), (1, qm_I (qm_i s)), (2, qm_I (qm_i (w1 s))), (3, qm_I (qm_i (w2 s)))]) rfl) ?_
    refine qm_G.s1 rfl (qm_x_aload rfl) ?_
    refine qm_G.s1 rfl (qm_x_getfR (q := (some (0, 17, 0))) (hS 1 rfl) (hR 1 3 17 rfl rfl)) ?_
    refine qm_G.s1 rfl (qm_x_pushI 0 rfl) ?_
    refine qm_G.s1 rfl (qm_x_aaldg (hS 17 rfl) rfl rfl (by decide) (by decide)) ?_
    refine qm_G.s1 rfl (qm_x_iload rfl) ?_
    refine qm_G.s1 rfl (qm_x_iload rfl) ?_
    refine qm_G.s1 rfl (qm_x_iast (qm_arS hS rfl rfl) rfl (by omega) (by omega) (by decide)) ?_
    refine qm_G.s1 rfl (qm_x_aload rfl) ?_
    refine qm_G.s1 rfl (qm_x_getfR (q := (some (0, 17, 0))) (hS 1 rfl) (hR 1 3 17 rfl rfl)) ?_
    refine qm_G.s1 rfl (qm_x_pushI 1 rfl) ?_
    refine qm_G.s1 rfl (qm_x_aaldg (hS 17 rfl) rfl rfl (by decide) (by decide)) ?_
    refine qm_G.s1 rfl (qm_x_iload rfl) ?_
    refine qm_G.s1 rfl (qm_x_iload rfl) ?_
    refine qm_G.s1 rfl (qm_x_iast (qm_arS hS rfl rfl) rfl (by omega) (by omega) (by decide)) ?_
    refine qm_G.s1 rfl (qm_x_iload rfl) ?_
    refine qm_G.ret rfl rfl ⟨_, rfl, ?_⟩
    refine qm_G.s1 rfl (qm_x_iload rfl) ?_
    refine qm_G.s1 rfl (qm_x_iload rfl) ?_
    refine qm_G.cs rfl rfl rfl ?_
    refine qm_C.go (cd := qm_P48) (lv := [(0, qm_I (qm_i (w1 s))), (1, qm_I (qm_i (w2 s)))]) rfl rfl ?_
    refine qm_G.s1 rfl (qm_x_pushI 10 rfl) ?_
    refine qm_G.s1 rfl (qm_x_iload rfl) ?_
    refine qm_G.s1 rfl (qm_x_imul) ?_
    refine qm_G.s1 rfl (qm_x_iload rfl) ?_
    refine qm_G.s1 rfl (qm_x_iadd) ?_
    refine qm_G.ret rfl rfl ⟨_, rfl, ?_⟩
    refine qm_y_icmp_eq rfl ⟨by omega, by omega⟩ ⟨by omega, by omega⟩ (fun c1 => ?_) (fun c1 => ?_)
    · refine qm_G.sp (lv1 := [(0, qm_R (some (0, 0, 0))), (1, qm_I (qm_i T)), (2, qm_I (qm_i lim)), (3, qm_I (qm_i c)), (4, qm_I (qm_i s))]) rfl rfl (qm_x_iinc (lv' := [(4, qm_I (qm_i (s + 1))), (0, qm_R (some (0, 0, 0))), (1, qm_I (qm_i T)), (2, qm_I (qm_i lim)), (3, qm_I (qm_i c))]) 1 rfl rfl rfl) ?_
      refine qm_G.s1 rfl (qm_x_goto) ?_
      refine qm_G.pk (lv1 := [(0, qm_R (some (0, 0, 0))), (1, qm_I (qm_i T)), (2, qm_I (qm_i lim)), (3, qm_I (qm_i c)), (4, qm_I (qm_i (s + 1)))]) rfl rfl rfl ?_
      show qm_G qm_P qm_P211 29 [(0, qm_R (some (0, 0, 0))), (1, qm_I (qm_i T)), (2, qm_I (qm_i lim)), (3, qm_I (qm_i c)), (4, qm_I (qm_i (s + 1)))] [] (qm_H S (qm_set (qm_set J 17 1 (Int.toNat (s + 8)) (w1 s)) 17 2 (Int.toNat (s + 8)) (w2 s)) K L D R X) Q
      have hc : qm_many (fun x => 10 * r1 x + r2 x) (fun x => 10 * w1 x + w2 x) (n + 1) s c = qm_many (fun x => 10 * r1 x + r2 x) (fun x => 10 * w1 x + w2 x) n (s + 1) (c) := (by show qm_many _ _ n (s + 1) (if 10 * r1 s + r2 s = 10 * w1 s + w2 s then c else c + 1) = _; rw [if_pos (by omega)])
      refine ih (s + 1) _ _ (by omega) (by omega) (by omega) (fun x a b => by rw [qm_st_ne (by omega), qm_st_ne (by omega), qm_st_ne (by omega), qm_st_ne (by omega)]; exact hw x a b) (fun x a b => by rw [qm_st_ne (by omega), qm_st_ne (by omega), qm_st_ne (by omega), qm_st_ne (by omega)]; exact hr x (by omega) b) (fun J' e1 e2 e3 => ?_)
      rw [← hc]
      refine k J' (fun r q i h => by rw [e1 r q i h, qm_st_ne (by omega), qm_st_ne (by omega)]) (fun x a b => ?_) (fun q i h => ?_)
      · by_cases hx : x = s
        · subst hx; rw [e3 1 _ (fun y a b => by omega), e3 2 _ (fun y a b => by omega)]; exact ⟨by rw [qm_st_ne (by omega)]; exact qm_st_eq, qm_st_eq⟩
        · exact e2 x (by omega) b
      · have h8 := h s (by omega) h4
        rw [e3 q i (fun y a b => h y (by omega) b), qm_st_ne (by omega), qm_st_ne (by omega)]
    · refine qm_G.s1 rfl (qm_x_iinc (lv' := [(3, qm_I (qm_i (c + 1))), (6, qm_I (qm_i (w2 s))), (5, qm_I (qm_i (w1 s))), (0, qm_R (some (0, 0, 0))), (1, qm_I (qm_i T)), (2, qm_I (qm_i lim)), (4, qm_I (qm_i s))]) 1 rfl rfl rfl) ?_
      refine qm_G.sp (lv1 := [(0, qm_R (some (0, 0, 0))), (1, qm_I (qm_i T)), (2, qm_I (qm_i lim)), (3, qm_I (qm_i (c + 1))), (4, qm_I (qm_i s))]) rfl rfl (qm_x_iinc (lv' := [(4, qm_I (qm_i (s + 1))), (0, qm_R (some (0, 0, 0))), (1, qm_I (qm_i T)), (2, qm_I (qm_i lim)), (3, qm_I (qm_i (c + 1)))]) 1 rfl rfl rfl) ?_
      refine qm_G.s1 rfl (qm_x_goto) ?_
      refine qm_G.pk (lv1 := [(0, qm_R (some (0, 0, 0))), (1, qm_I (qm_i T)), (2, qm_I (qm_i lim)), (3, qm_I (qm_i (c + 1))), (4, qm_I (qm_i (s + 1)))]) rfl rfl rfl ?_
      show qm_G qm_P qm_P211 29 [(0, qm_R (some (0, 0, 0))), (1, qm_I (qm_i T)), (2, qm_I (qm_i lim)), (3, qm_I (qm_i (c + 1))), (4, qm_I (qm_i (s + 1)))] [] (qm_H S (qm_set (qm_set J 17 1 (Int.toNat (s + 8)) (w1 s)) 17 2 (Int.toNat (s + 8)) (w2 s)) K L D R X) Q
      have hc : qm_many (fun x => 10 * r1 x + r2 x) (fun x => 10 * w1 x + w2 x) (n + 1) s c = qm_many (fun x => 10 * r1 x + r2 x) (fun x => 10 * w1 x + w2 x) n (s + 1) (c + 1) := (by show qm_many _ _ n (s + 1) (if 10 * r1 s + r2 s = 10 * w1 s + w2 s then c else c + 1) = _; rw [if_neg (by omega)])
      refine ih (s + 1) _ _ (by omega) (by omega) (by omega) (fun x a b => by rw [qm_st_ne (by omega), qm_st_ne (by omega), qm_st_ne (by omega), qm_st_ne (by omega)]; exact hw x a b) (fun x a b => by rw [qm_st_ne (by omega), qm_st_ne (by omega), qm_st_ne (by omega), qm_st_ne (by omega)]; exact hr x (by omega) b) (fun J' e1 e2 e3 => ?_)
      rw [← hc]
      refine k J' (fun r q i h => by rw [e1 r q i h, qm_st_ne (by omega), qm_st_ne (by omega)]) (fun x a b => ?_) (fun q i h => ?_)
      · by_cases hx : x = s
        · subst hx; rw [e3 1 _ (fun y a b => by omega), e3 2 _ (fun y a b => by omega)]; exact ⟨by rw [qm_st_ne (by omega)]; exact qm_st_eq, qm_st_eq⟩
        · exact e2 x (by omega) b
      · have h8 := h s (by omega) h4
        rw [e3 q i (fun y a b => h y (by omega) b), qm_st_ne (by omega), qm_st_ne (by omega)]
theorem qm_m_adl {S : List qm_Sh} {K : qm_J} {L : qm_Ct Int64} {D : qm_Ct UInt64} {R : qm_Ct (Option qm_Rf)} {X : Nat × (Nat → Int32)} {Q : Option qm_V → qm_Hp → Prop} {lim T : Int} {r1 r2 w1 w2 : Int → Int} (hS : qm_Sd S) (hR : qm_Rd R) (rl : 1 ≤ lim ∧ lim ≤ 8) (rT : 1 ≤ T ∧ T ≤ 8) (g1 : ∀ x, -lim ≤ x → x ≤ lim → (0 ≤ r1 x ∧ r1 x ≤ 6) ∧ (0 ≤ r2 x ∧ r2 x ≤ 6)) (g2 : ∀ x, -lim ≤ x → x ≤ lim → (0 ≤ w1 x ∧ w1 x ≤ 6) ∧ (0 ≤ w2 x ∧ w2 x ≤ 6)) : ∀ (n : Nat) (s c : Int) (J : qm_J), s + n = lim + 1 → -lim ≤ s → 0 ≤ c ∧ c + n ≤ 100 → J 62 0 1 = lim → (∀ x : Int, -lim ≤ x → x ≤ lim → J 65 0 (Int.toNat (17 * T + 8 + x)) = 10 * w1 x + w2 x) → (∀ x : Int, s ≤ x → x ≤ lim → J 62 0 (Int.toNat (62 + 2 * (x + 8))) = r1 x ∧ J 62 0 (Int.toNat (62 + 2 * (x + 8) + 1)) = r2 x) → (∀ J' : qm_J, (∀ r q i, ¬ (r = 62 ∧ 62 ≤ i ∧ i < 96) → J' r q i = J r q i) → (∀ x : Int, s ≤ x → x ≤ lim → J' 62 0 (Int.toNat (62 + 2 * (x + 8))) = w1 x ∧ J' 62 0 (Int.toNat (62 + 2 * (x + 8) + 1)) = w2 x) → (∀ i : Nat, (∀ x : Int, s ≤ x → x ≤ lim → i ≠ Int.toNat (62 + 2 * (x + 8)) ∧ i ≠ Int.toNat (62 + 2 * (x + 8) + 1)) → J' 62 0 i = J 62 0 i) → Q (some (qm_I (qm_i (qm_many (fun x => 10 * r1 x + r2 x) (fun x => 10 * w1 x + w2 x) n s c)))) (qm_H S J' K L D R X)) → qm_G qm_P qm_P187 27 [(0, qm_R (some (0, 61, 0))), (1, qm_I (qm_i T)), (2, qm_I (qm_i c)), (3, qm_I (qm_i s))] [] (qm_H S J K L D R X) Q := by
  intro n
  induction n with
  | zero =>
    intro s c J h1 h2 h3 hl hw hr k
    refine qm_G.pk (lv1 := [(0, qm_R (some (0, 61, 0))), (1, qm_I (qm_i T)), (2, qm_I (qm_i c)), (3, qm_I (qm_i s))]) rfl rfl rfl ?_
    refine qm_G.sp (lv1 := [(0, qm_R (some (0, 61, 0))), (1, qm_I (qm_i T)), (2, qm_I (qm_i c)), (3, qm_I (qm_i s))]) rfl rfl (qm_x_iload rfl) ?_
    refine qm_G.s1 rfl (qm_x_aload rfl) ?_
    refine qm_G.s1 rfl (qm_x_getfR (q := (some (0, 62, 0))) (hS 61 rfl) (hR 61 0 62 rfl rfl)) ?_
    refine qm_G.s1 rfl (qm_x_pushI 1 rfl) ?_
    refine qm_G.s1 rfl (qm_x_iald (v := lim) (qm_arS hS rfl rfl) rfl (by decide) (by decide) (by decide) hl) ?_
    refine qm_G.s1 rfl (qm_x_icmp_gt_t ⟨by omega, by omega⟩ ⟨by omega, by omega⟩ (by omega)) ?_
    refine qm_G.sp (lv1 := [(2, qm_I (qm_i c))]) rfl rfl (qm_x_iload rfl) ?_
    exact qm_G.ret rfl rfl (k J (fun _ _ _ _ => rfl) (fun x a b => absurd b (by omega)) (fun _ _ => rfl))
  | succ n ih =>
    intro s c J h1 h2 h3 hl hw hr k
    have h4 : s ≤ lim := by omega
    refine qm_G.pk (lv1 := [(0, qm_R (some (0, 61, 0))), (1, qm_I (qm_i T)), (2, qm_I (qm_i c)), (3, qm_I (qm_i s))]) rfl rfl rfl ?_
    refine qm_G.sp (lv1 := [(0, qm_R (some (0, 61, 0))), (1, qm_I (qm_i T)), (2, qm_I (qm_i c)), (3, qm_I (qm_i s))]) rfl rfl (qm_x_iload rfl) ?_
    refine qm_G.s1 rfl (qm_x_aload rfl) ?_
    refine qm_G.s1 rfl (qm_x_getfR (q := (some (0, 62, 0))) (hS 61 rfl) (hR 61 0 62 rfl rfl)) ?_
    refine qm_G.s1 rfl (qm_x_pushI 1 rfl) ?_
    refine qm_G.s1 rfl (qm_x_iald (v := lim) (qm_arS hS rfl rfl) rfl (by decide) (by decide) (by decide) hl) ?_
    refine qm_G.s1 rfl (qm_x_icmp_gt_f ⟨by omega, by omega⟩ ⟨by omega, by omega⟩ (by omega)) ?_
    refine qm_G.s1 rfl (qm_x_pushI 10 rfl) ?_
    refine qm_G.s1 rfl (qm_x_aload rfl) ?_
    refine qm_G.s1 rfl (qm_x_getfR (q := (some (0, 62, 0))) (hS 61 rfl) (hR 61 0 62 rfl rfl)) ?_
    refine qm_G.s1 rfl (qm_x_pushI 62 rfl) ?_
    refine qm_G.s1 rfl (qm_x_pushI 2 rfl) ?_
    refine qm_G.s1 rfl (qm_x_iload rfl) ?_
    refine qm_G.s1 rfl (qm_x_pushI 8 rfl) ?_
    refine qm_G.s1 rfl (qm_x_iadd) ?_
    refine qm_G.s1 rfl (qm_x_imul) ?_
    refine qm_G.s1 rfl (qm_x_iadd) ?_
    have hh1 := g1 s (by omega) (by omega)
    refine qm_G.s1 rfl (qm_x_iald (v := (r1 s)) (qm_arS hS rfl rfl) rfl (by omega) (by omega) (by decide) (hr s (by omega) (by omega)).1) ?_
    refine qm_G.s1 rfl (qm_x_imul) ?_
    refine qm_G.s1 rfl (qm_x_aload rfl) ?_
    refine qm_G.s1 rfl (qm_x_getfR (q := (some (0, 62, 0))) (hS 61 rfl) (hR 61 0 62 rfl rfl)) ?_
    refine qm_G.s1 rfl (qm_x_pushI 62 rfl) ?_
    refine qm_G.s1 rfl (qm_x_pushI 2 rfl) ?_
    refine qm_G.s1 rfl (qm_x_iload rfl) ?_
    refine qm_G.s1 rfl (qm_x_pushI 8 rfl) ?_
    refine qm_G.s1 rfl (qm_x_iadd) ?_
    refine qm_G.s1 rfl (qm_x_imul) ?_
    refine qm_G.s1 rfl (qm_x_iadd) ?_
    refine qm_G.s1 rfl (qm_x_pushI 1 rfl) ?_
    refine qm_G.s1 rfl (qm_x_iadd) ?_
    refine qm_G.s1 rfl (qm_x_iald (v := (r2 s)) (qm_arS hS rfl rfl) rfl (by omega) (by omega) (by decide) (hr s (by omega) (by omega)).2) ?_
    refine qm_G.s1 rfl (qm_x_iadd) ?_
    refine qm_G.s1 rfl (qm_x_istore (lv' := [(4, qm_I (qm_i ((10 * (r1 s)) + (r2 s)))), (0, qm_R (some (0, 61, 0))), (1, qm_I (qm_i T)), (2, qm_I (qm_i c)), (3, qm_I (qm_i s))]) rfl) ?_
    refine qm_G.s1 rfl (qm_x_iload rfl) ?_
    refine qm_G.s1 rfl (qm_x_aload rfl) ?_
    refine qm_G.s1 rfl (qm_x_getfR (q := (some (0, 65, 0))) (hS 61 rfl) (hR 61 8 65 rfl rfl)) ?_
    refine qm_G.s1 rfl (qm_x_iload rfl) ?_
    refine qm_G.s1 rfl (qm_x_iload rfl) ?_
    refine qm_G.cs rfl rfl rfl ?_
    refine qm_C.go (cd := qm_P24) (lv := [(0, qm_I (qm_i T)), (1, qm_I (qm_i s))]) rfl rfl ?_
    refine qm_G.s1 rfl (qm_x_pushI 17 rfl) ?_
    refine qm_G.s1 rfl (qm_x_iload rfl) ?_
    refine qm_G.s1 rfl (qm_x_imul) ?_
    refine qm_G.s1 rfl (qm_x_pushI 8 rfl) ?_
    refine qm_G.s1 rfl (qm_x_iadd) ?_
    refine qm_G.s1 rfl (qm_x_iload rfl) ?_
    refine qm_G.s1 rfl (qm_x_iadd) ?_
    refine qm_G.ret rfl rfl ⟨_, rfl, ?_⟩
    have hh2 := g2 s (by omega) (by omega)
    refine qm_G.s1 rfl (qm_x_iald (v := (10 * w1 s + w2 s)) (qm_arS hS rfl rfl) rfl (by omega) (by omega) (by decide) (hw s (by omega) (by omega))) ?_
    refine qm_y_icmp_ne rfl ⟨by omega, by omega⟩ ⟨by omega, by omega⟩ (fun c1 => ?_) (fun c1 => ?_)
    · refine qm_G.sp (lv1 := [(0, qm_R (some (0, 61, 0))), (1, qm_I (qm_i T)), (2, qm_I (qm_i c)), (3, qm_I (qm_i s))]) rfl rfl (qm_x_iinc (lv' := [(2, qm_I (qm_i (c + 1))), (0, qm_R (some (0, 61, 0))), (1, qm_I (qm_i T)), (3, qm_I (qm_i s))]) 1 rfl rfl rfl) ?_
      refine qm_G.s1 rfl (qm_x_aload rfl) ?_
      refine qm_G.s1 rfl (qm_x_getfR (q := (some (0, 62, 0))) (hS 61 rfl) (hR 61 0 62 rfl rfl)) ?_
      refine qm_G.s1 rfl (qm_x_pushI 62 rfl) ?_
      refine qm_G.s1 rfl (qm_x_pushI 2 rfl) ?_
      refine qm_G.s1 rfl (qm_x_iload rfl) ?_
      refine qm_G.s1 rfl (qm_x_pushI 8 rfl) ?_
      refine qm_G.s1 rfl (qm_x_iadd) ?_
      refine qm_G.s1 rfl (qm_x_imul) ?_
      refine qm_G.s1 rfl (qm_x_iadd) ?_
      refine qm_G.s1 rfl (qm_x_aload rfl) ?_
      refine qm_G.s1 rfl (qm_x_getfR (q := (some (0, 65, 0))) (hS 61 rfl) (hR 61 8 65 rfl rfl)) ?_
      refine qm_G.s1 rfl (qm_x_iload rfl) ?_
      refine qm_G.s1 rfl (qm_x_iload rfl) ?_
      refine qm_G.cs rfl rfl rfl ?_
      refine qm_C.go (cd := qm_P24) (lv := [(0, qm_I (qm_i T)), (1, qm_I (qm_i s))]) rfl rfl ?_
      refine qm_G.s1 rfl (qm_x_pushI 17 rfl) ?_
      refine qm_G.s1 rfl (qm_x_iload rfl) ?_
      refine qm_G.s1 rfl (qm_x_imul) ?_
      refine qm_G.s1 rfl (qm_x_pushI 8 rfl) ?_
      refine qm_G.s1 rfl (qm_x_iadd) ?_
      refine qm_G.s1 rfl (qm_x_iload rfl) ?_
      refine qm_G.s1 rfl (qm_x_iadd) ?_
      refine qm_G.ret rfl rfl ⟨_, rfl, ?_⟩
      refine qm_G.s1 rfl (qm_x_iald (v := (10 * w1 s + w2 s)) (qm_arS hS rfl rfl) rfl (by omega) (by omega) (by decide) (hw s (by omega) (by omega))) ?_
      refine qm_G.s1 rfl (qm_x_pushI 10 rfl) ?_
      refine qm_G.s1 rfl (qm_x_idivp ⟨by omega, by omega⟩ (by omega) ⟨by decide, by decide⟩ (by decide)) ?_
      refine qm_G.s1 rfl (qm_x_iast (qm_arS hS rfl rfl) rfl (by omega) (by omega) (by decide)) ?_
      refine qm_G.s1 rfl (qm_x_aload rfl) ?_
      refine qm_G.s1 rfl (qm_x_getfR (q := (some (0, 62, 0))) (hS 61 rfl) (hR 61 0 62 rfl rfl)) ?_
      refine qm_G.s1 rfl (qm_x_pushI 62 rfl) ?_
      refine qm_G.s1 rfl (qm_x_pushI 2 rfl) ?_
      refine qm_G.s1 rfl (qm_x_iload rfl) ?_
      refine qm_G.s1 rfl (qm_x_pushI 8 rfl) ?_
      refine qm_G.s1 rfl (qm_x_iadd) ?_
      refine qm_G.s1 rfl (qm_x_imul) ?_
      refine qm_G.s1 rfl (qm_x_iadd) ?_
      refine qm_G.s1 rfl (qm_x_pushI 1 rfl) ?_
      refine qm_G.s1 rfl (qm_x_iadd) ?_
      refine qm_G.s1 rfl (qm_x_aload rfl) ?_
      refine qm_G.s1 rfl (qm_x_getfR (q := (some (0, 65, 0))) (hS 61 rfl) (hR 61 8 65 rfl rfl)) ?_
      refine qm_G.s1 rfl (qm_x_iload rfl) ?_
      refine qm_G.s1 rfl (qm_x_iload rfl) ?_
      refine qm_G.cs rfl rfl rfl ?_
      refine qm_C.go (cd := qm_P24) (lv := [(0, qm_I (qm_i T)), (1, qm_I (qm_i s))]) rfl rfl ?_
      refine qm_G.s1 rfl (qm_x_pushI 17 rfl) ?_
      refine qm_G.s1 rfl (qm_x_iload rfl) ?_
      refine qm_G.s1 rfl (qm_x_imul) ?_
      refine qm_G.s1 rfl (qm_x_pushI 8 rfl) ?_
      refine qm_G.s1 rfl (qm_x_iadd) ?_
      refine qm_G.s1 rfl (qm_x_iload rfl) ?_
      refine qm_G.s1 rfl (qm_x_iadd) ?_
      refine qm_G.ret rfl rfl ⟨_, rfl, ?_⟩
      refine qm_G.s1 rfl (qm_x_iald (v := (10 * w1 s + w2 s)) (qm_arS hS rfl rfl) rfl (by omega) (by omega) (by decide) (hw s (by omega) (by omega))) ?_
      refine qm_G.s1 rfl (qm_x_pushI 10 rfl) ?_
      refine qm_G.s1 rfl (qm_x_iremp ⟨by omega, by omega⟩ (by omega) ⟨by decide, by decide⟩ (by decide)) ?_
      refine qm_G.s1 rfl (qm_x_iast (qm_arS hS rfl rfl) rfl (by omega) (by omega) (by decide)) ?_
      refine qm_G.sp (lv1 := [(0, qm_R (some (0, 61, 0))), (1, qm_I (qm_i T)), (2, qm_I (qm_i (c + 1))), (3, qm_I (qm_i s))]) rfl rfl (qm_x_iinc (lv' := [(3, qm_I (qm_i (s + 1))), (0, qm_R (some (0, 61, 0))), (1, qm_I (qm_i T)), (2, qm_I (qm_i (c + 1)))]) 1 rfl rfl rfl) ?_
      refine qm_G.s1 rfl (qm_x_goto) ?_
      refine qm_G.pk (lv1 := [(0, qm_R (some (0, 61, 0))), (1, qm_I (qm_i T)), (2, qm_I (qm_i (c + 1))), (3, qm_I (qm_i (s + 1)))]) rfl rfl rfl ?_
      have hc : qm_many (fun x => 10 * r1 x + r2 x) (fun x => 10 * w1 x + w2 x) (n + 1) s c = qm_many (fun x => 10 * r1 x + r2 x) (fun x => 10 * w1 x + w2 x) n (s + 1) (c + 1) := (by show qm_many _ _ n (s + 1) (if 10 * r1 s + r2 s = 10 * w1 s + w2 s then c else c + 1) = _; rw [if_neg (by omega)])
      rw [show ((10 * w1 s + w2 s) / 10) = w1 s by omega, show ((10 * w1 s + w2 s) % 10) = w2 s by omega]
      refine ih (s + 1) _ _ (by omega) (by omega) (by omega) (by rw [qm_st_ne (by omega), qm_st_ne (by omega)]; exact hl) (fun x a b => by rw [qm_st_ne (by omega), qm_st_ne (by omega)]; exact hw x a b) (fun x a b => by rw [qm_st_ne (by omega), qm_st_ne (by omega), qm_st_ne (by omega), qm_st_ne (by omega)]; exact hr x (by omega) b) (fun J' e1 e2 e3 => ?_)
      rw [← hc]
      refine k J' (fun r q i h => by rw [e1 r q i h, qm_st_ne (by omega), qm_st_ne (by omega)]) (fun x a b => ?_) (fun i h => ?_)
      · by_cases hx : x = s
        · subst hx; rw [e3 _ (fun y a b => by omega), e3 _ (fun y a b => by omega)]; exact ⟨by rw [qm_st_ne (by omega)]; exact qm_st_eq, qm_st_eq⟩
        · exact e2 x (by omega) b
      · have h8 := h s (by omega) h4
        rw [e3 i (fun y a b => h y (by omega) b), qm_st_ne (by omega), qm_st_ne (by omega)]
    · refine qm_G.s1 rfl (qm_x_goto) ?_
      refine qm_G.sp (lv1 := [(0, qm_R (some (0, 61, 0))), (1, qm_I (qm_i T)), (2, qm_I (qm_i c)), (3, qm_I (qm_i s))]) rfl rfl (qm_x_iinc (lv' := [(3, qm_I (qm_i (s + 1))), (0, qm_R (some (0, 61, 0))), (1, qm_I (qm_i T)), (2, qm_I (qm_i c))]) 1 rfl rfl rfl) ?_
      refine qm_G.s1 rfl (qm_x_goto) ?_
      refine qm_G.pk (lv1 := [(0, qm_R (some (0, 61, 0))), (1, qm_I (qm_i T)), (2, qm_I (qm_i c)), (3, qm_I (qm_i (s + 1)))]) rfl rfl rfl ?_
      have hc : qm_many (fun x => 10 * r1 x + r2 x) (fun x => 10 * w1 x + w2 x) (n + 1) s c = qm_many (fun x => 10 * r1 x + r2 x) (fun x => 10 * w1 x + w2 x) n (s + 1) (c) := (by show qm_many _ _ n (s + 1) (if 10 * r1 s + r2 s = 10 * w1 s + w2 s then c else c + 1) = _; rw [if_pos (by omega)])
      refine ih (s + 1) _ _ (by omega) (by omega) (by omega) hl (fun x a b => hw x a b) (fun x a b => hr x (by omega) b) (fun J' e1 e2 e3 => ?_)
      rw [← hc]
      refine k J' (fun r q i h => by rw [e1 r q i h]) (fun x a b => ?_) (fun i h => ?_)
      · by_cases hx : x = s
        · subst hx; rw [e3 _ (fun y a b => by omega), e3 _ (fun y a b => by omega), (hr x (by omega) b).1, (hr x (by omega) b).2]; exact ⟨by omega, by omega⟩
        · exact e2 x (by omega) b
      · exact e3 i (fun y a b => h y (by omega) b)
/-- WHAT HOLDS BETWEEN THE CALLS, where the rule and working tables changed -/
theorem qm_Inv.rul {S : List qm_Sh} {J J' K : qm_J} {L L' : qm_Ct Int64} {D : qm_Ct UInt64} {R : qm_Ct (Option qm_Rf)} {k : Nat} (hI : qm_Inv S J K L D R k) (e : ∀ r s i, ¬ (qm_wJ r i ∨ r = 17 ∨ r = 62 ∧ 62 ≤ i ∧ i < 96) → J' r s i = J r s i) (h1 : ∀ i, i < 17 → J' 17 1 i = J' 62 0 (62 + 2 * i) ∧ J' 17 2 i = J' 62 0 (63 + 2 * i)) (h2 : ∀ i, i < 17 → (0 ≤ J' 62 0 (62 + 2 * i) ∧ J' 62 0 (62 + 2 * i) ≤ 6) ∧ 0 ≤ J' 62 0 (63 + 2 * i) ∧ J' 62 0 (63 + 2 * i) ≤ 6) (eL : ∀ r s i, ¬ (r = 37 ∨ r = 40 ∨ r = 64 ∨ r = 66 ∨ r = 76) → L' r s i = L r s i) : qm_Inv S J' K L' D R (k + 1) := by
  unfold qm_wJ at e
  refine ⟨hI.sd, hI.rd, hI.mk.fr (fun r s i x => e r s i (by omega)), hI.tr.fr (fun r s i x => e r s i (by omega)), ?_, (by rw [e 42 0 1 (by omega), e 61 0 12 (by omega)]; exact hI.tx), (by rw [e 61 0 12 (by omega)]; exact hI.rtx), (fun i x => by rw [e 69 0 i (by omega)]; exact hI.sgn i x), (fun t x => by rw [e (49 + 2 * t) 0 1 (by omega), e 73 0 t (by omega)]; exact hI.srt t x), (fun t x => by rw [e (49 + 2 * t) 0 2 (by omega), e 73 0 t (by omega), e 74 0 t (by omega)]; exact hI.len t x), (fun t i x y => by rw [eL (50 + 2 * t) 0 i (by omega), eL 75 0 _ (by omega)]; exact hI.itm t i x y), (by rw [e 0 0 2 (by omega), e 61 0 4 (by omega)]; exact hI.img), (by rw [e 61 0 4 (by omega)]; exact hI.rimg), (fun x => by rw [e 61 0 4 (by omega)] at x; have h9 := hI.old x; exact ⟨h9.1.fr (fun r s i x => e r s i (by omega)), h9.2.1.fr (fun r s i x => e r s i (by omega)), h9.2.2.fr (fun r s i x => e r s i (by omega))⟩), hI.slp, (by rw [e 47 0 1 (by omega)]; exact hI.sl1), (by rw [e 47 0 3 (by omega)]; exact hI.sl2), ⟨by have := hI.room.1; omega, by have := hI.room.2; omega⟩, hI.tall.up (Or.inl (e 61 0 12 (by omega))) (e 61 0 4 (by omega))⟩
  have hn := hI.nt
  exact ⟨qm_Ntn_sc (S := S) (K := J) (R := R) (D := D) hn.sc (fun r s i x => e r s i (by omega)), qm_Ntn_rsc (S := S) (K := J) (R := R) (D := D) hn.rsc (fun r s i x => e r s i (by omega)), qm_Ntn_ec (S := S) (K := J) (R := R) (D := D) hn.ec (fun r s i x => e r s i (by omega)), qm_Ntn_rec (S := S) (K := J) (R := R) (D := D) hn.rec (fun r s i x => e r s i (by omega)), qm_Ntn_see (S := S) (K := J) (R := R) (D := D) hn.see (fun r s i x => e r s i (by omega)), qm_Ntn_rsee (S := S) (K := J) (R := R) (D := D) hn.rsee (fun r s i x => e r s i (by omega)), qm_Ntn_evt (S := S) (K := J) (R := R) (D := D) hn.evt (fun r s i x => e r s i (by omega)), qm_Ntn_revt (S := S) (K := J) (R := R) (D := D) hn.revt (fun r s i x => e r s i (by omega)), h1, h2⟩
