/-! TAKEN: the greatest divisor of both -/
def qm_gl : Nat → Int → Int → Int × Int
  | 0, a, b => (a, b)
  | n + 1, a, b => if b ≤ 0 then (a, b) else qm_gl n b (a % b)
def qm_glb (c : Nat) : Bool := decide ((qm_gl 100 c 1000).2 = 0) && (decide ((qm_gl 100 c 1000).1 = (qm_gl 100 1000 c).1) && (decide (1 ≤ (qm_gl 100 1000 c).1) && decide ((qm_gl 100 1000 c).1 ≤ 2000)))
def qm_gla : Nat → Bool
  | 0 => true
  | n + 1 => qm_glb n && qm_gla n
theorem qm_gla_at : ∀ n : Nat, qm_gla n = true → ∀ c, c < n → qm_glb c = true := by
  intro n
  induction n with
  | zero => intro _ c h; exact absurd h (Nat.not_lt_zero c)
  | succ n ih =>
    intro h c hc
    have h2 := (Bool.and_eq_true _ _).mp h
    by_cases e : c = n
    · rw [e]; exact h2.1
    · exact ih h2.2 c (by omega)
theorem qm_gla_all : qm_gla 2001 = true := by decide +kernel
theorem qm_gl_ok {c : Int} (h : 0 ≤ c ∧ c ≤ 2000) : (qm_gl 100 c 1000).2 = 0 ∧ (qm_gl 100 c 1000).1 = (qm_gl 100 1000 c).1 ∧ 1 ≤ (qm_gl 100 1000 c).1 ∧ (qm_gl 100 1000 c).1 ≤ 2000 := by
  obtain ⟨n, rfl⟩ := Int.eq_ofNat_of_zero_le h.1
  have h1 := qm_gla_at 2001 qm_gla_all n (by omega)
  unfold qm_glb at h1
  rw [Bool.and_eq_true, Bool.and_eq_true, Bool.and_eq_true] at h1
  exact ⟨of_decide_eq_true h1.1, of_decide_eq_true h1.2.1, of_decide_eq_true h1.2.2.1, of_decide_eq_true h1.2.2.2⟩
theorem qm_gl_e {n : Nat} {a b : Int} (h : b ≤ 0) : qm_gl n a b = (a, b) := by
  cases n with
  | zero => rfl
  | succ n => exact if_pos h
theorem qm_gl_s {n : Nat} {a b : Int} (h : ¬ b ≤ 0) : qm_gl (n + 1) a b = qm_gl n b (a % b) := if_neg h
theorem qm_d_gl {Q : Option qm_V → qm_Hp → Prop} {h : qm_Hp} : ∀ (n : Nat) (s a b : Int), s + n = 100 → 0 ≤ s → (0 ≤ a ∧ a ≤ 2000) → (0 ≤ b ∧ b ≤ 2000) → qm_G qm_P qm_P17 34 [(2, qm_I (qm_i ((qm_gl n a b).1)))] [] (h) Q → qm_G qm_P qm_P17 7 [(2, qm_I (qm_i a)), (3, qm_I (qm_i b)), (4, qm_I (qm_i s))] [] (h) Q := by
  intro n
  induction n with
  | zero =>
    intro s a b h1 h2 ha hb k
    refine qm_G.pk (lv1 := [(2, qm_I (qm_i a)), (3, qm_I (qm_i b)), (4, qm_I (qm_i s))]) rfl rfl rfl ?_
    refine qm_G.sp (lv1 := [(2, qm_I (qm_i a)), (3, qm_I (qm_i b)), (4, qm_I (qm_i s))]) rfl rfl (qm_x_iload rfl) ?_
    refine qm_G.s1 rfl (qm_x_pushI 100 rfl) ?_
    refine qm_G.s1 rfl (qm_x_icmp_ge_t ⟨by omega, by omega⟩ ⟨by decide, by decide⟩ (by omega)) ?_
    refine qm_G.pk (lv1 := [(2, qm_I (qm_i a))]) rfl rfl rfl ?_
    have k := k
    exact k
  | succ n ih =>
    intro s a b h1 h2 ha hb k
    refine qm_G.pk (lv1 := [(2, qm_I (qm_i a)), (3, qm_I (qm_i b)), (4, qm_I (qm_i s))]) rfl rfl rfl ?_
    refine qm_G.sp (lv1 := [(2, qm_I (qm_i a)), (3, qm_I (qm_i b)), (4, qm_I (qm_i s))]) rfl rfl (qm_x_iload rfl) ?_
    refine qm_G.s1 rfl (qm_x_pushI 100 rfl) ?_
    refine qm_G.s1 rfl (qm_x_icmp_ge_f ⟨by omega, by omega⟩ ⟨by decide, by decide⟩ (by omega)) ?_
    refine qm_G.s1 rfl (qm_x_iload rfl) ?_
    refine qm_y_if_le rfl ⟨by omega, by omega⟩ (fun c1 => ?_) (fun c1 => ?_)
    · refine qm_G.pk (lv1 := [(2, qm_I (qm_i a))]) rfl rfl rfl ?_
      rw [qm_gl_e (by omega)] at k
      exact k
    · refine qm_G.s1 rfl (qm_x_iload rfl) ?_
      refine qm_G.s1 rfl (qm_x_iload rfl) ?_
      refine qm_G.s1 rfl (qm_x_iremp ⟨by omega, by omega⟩ (by omega) ⟨by omega, by omega⟩ (by omega)) ?_
      refine qm_G.s1 rfl (qm_x_istore (lv' := [(5, qm_I (qm_i (a % b))), (2, qm_I (qm_i a)), (3, qm_I (qm_i b)), (4, qm_I (qm_i s))]) rfl) ?_
      refine qm_G.s1 rfl (qm_x_iload rfl) ?_
      refine qm_G.s1 rfl (qm_x_istore (lv' := [(2, qm_I (qm_i b)), (5, qm_I (qm_i (a % b))), (3, qm_I (qm_i b)), (4, qm_I (qm_i s))]) rfl) ?_
      refine qm_G.s1 rfl (qm_x_iload rfl) ?_
      refine qm_G.s1 rfl (qm_x_istore (lv' := [(3, qm_I (qm_i (a % b))), (2, qm_I (qm_i b)), (5, qm_I (qm_i (a % b))), (4, qm_I (qm_i s))]) rfl) ?_
      refine qm_G.s1 rfl (qm_x_iinc (lv' := [(4, qm_I (qm_i (s + 1))), (3, qm_I (qm_i (a % b))), (2, qm_I (qm_i b)), (5, qm_I (qm_i (a % b)))]) 1 rfl rfl rfl) ?_
      refine qm_G.s1 rfl (qm_x_goto) ?_
      refine qm_G.pk (lv1 := [(2, qm_I (qm_i b)), (3, qm_I (qm_i (a % b))), (4, qm_I (qm_i (s + 1)))]) rfl rfl rfl ?_
      have m1 := Int.emod_nonneg a (show b ≠ 0 by omega)
      have m2 := Int.emod_lt_of_pos a (show 0 < b by omega)
      rw [qm_gl_s (by omega)] at k
      exact ih (s + 1) b (a % b) (by omega) (by omega) hb (by omega) k
theorem qm_v_gcd {Q : Option qm_V → qm_Hp → Prop} {h : qm_Hp} {c : Int} (rc : 0 ≤ c ∧ c ≤ 2000) (k : Q (some (qm_I (qm_i (qm_gl 100 1000 c).1))) h) : qm_C qm_P 17 [qm_I (qm_i c), qm_I (qm_i 1000)] (h) Q := by
  refine qm_C.go (cd := qm_P17) (lv := [(0, qm_I (qm_i c)), (1, qm_I (qm_i 1000))]) rfl rfl ?_
  refine qm_G.s1 rfl (qm_x_iload rfl) ?_
  refine qm_G.s1 rfl (qm_x_istore (lv' := [(2, qm_I (qm_i 1000)), (0, qm_I (qm_i c)), (1, qm_I (qm_i 1000))]) rfl) ?_
  refine qm_G.s1 rfl (qm_x_iload rfl) ?_
  refine qm_G.s1 rfl (qm_x_istore (lv' := [(3, qm_I (qm_i c)), (2, qm_I (qm_i 1000)), (0, qm_I (qm_i c)), (1, qm_I (qm_i 1000))]) rfl) ?_
  refine qm_G.s1 rfl (qm_x_pushI 0 rfl) ?_
  refine qm_G.s1 rfl (qm_x_istore (lv' := [(4, qm_I (qm_i 0)), (3, qm_I (qm_i c)), (2, qm_I (qm_i 1000)), (0, qm_I (qm_i c)), (1, qm_I (qm_i 1000))]) rfl) ?_
  refine qm_G.pk (lv1 := [(2, qm_I (qm_i 1000)), (3, qm_I (qm_i c)), (4, qm_I (qm_i 0))]) rfl rfl rfl ?_
  have g9 := qm_gl_ok rc
  obtain ⟨w, hw⟩ : ∃ w, w = (qm_gl 100 1000 c).1 := ⟨_, rfl⟩
  rw [← hw] at g9 k
  refine qm_d_gl 100 0 1000 c (by decide) (by decide) (by decide) rc ?_
  rw [← hw]
  refine qm_G.sp (lv1 := [(2, qm_I (qm_i w))]) rfl rfl (qm_x_iload rfl) ?_
  refine qm_G.s1 rfl (qm_x_pushI 1 rfl) ?_
  refine qm_G.s1 rfl (qm_x_icmp_ge_t ⟨by omega, by omega⟩ ⟨by decide, by decide⟩ (by omega)) ?_
  refine qm_G.sp (lv1 := [(2, qm_I (qm_i w))]) rfl rfl (qm_x_iload rfl) ?_
  exact qm_G.ret rfl rfl k
theorem qm_m_gl {Q : Option qm_V → qm_Hp → Prop} {h : qm_Hp} {m o : Int} : ∀ (n : Nat) (a b : Int), (0 ≤ a ∧ a ≤ 2000) → (0 ≤ b ∧ b ≤ 2000) → (qm_gl n a b).2 = 0 → qm_G qm_P qm_P170 80 [(3, qm_I (qm_i m)), (4, qm_I (qm_i o)), (5, qm_I (qm_i ((qm_gl n a b).1)))] [] (h) Q → qm_G qm_P qm_P170 57 [(3, qm_I (qm_i m)), (4, qm_I (qm_i o)), (5, qm_I (qm_i a)), (6, qm_I (qm_i b))] [] (h) Q := by
  intro n
  induction n with
  | zero =>
    intro a b ha hb h2 k
    change b = 0 at h2
    refine qm_G.pk (lv1 := [(3, qm_I (qm_i m)), (4, qm_I (qm_i o)), (5, qm_I (qm_i a)), (6, qm_I (qm_i b))]) rfl rfl rfl ?_
    refine qm_G.sp (lv1 := [(3, qm_I (qm_i m)), (4, qm_I (qm_i o)), (5, qm_I (qm_i a)), (6, qm_I (qm_i b))]) rfl rfl (qm_x_iload rfl) ?_
    refine qm_G.s1 rfl (qm_x_if_eq_t ⟨by omega, by omega⟩ (by omega)) ?_
    refine qm_G.pk (lv1 := [(3, qm_I (qm_i m)), (4, qm_I (qm_i o)), (5, qm_I (qm_i a))]) rfl rfl rfl ?_
    exact k
  | succ n ih =>
    intro a b ha hb h2 k
    refine qm_G.pk (lv1 := [(3, qm_I (qm_i m)), (4, qm_I (qm_i o)), (5, qm_I (qm_i a)), (6, qm_I (qm_i b))]) rfl rfl rfl ?_
    refine qm_G.sp (lv1 := [(3, qm_I (qm_i m)), (4, qm_I (qm_i o)), (5, qm_I (qm_i a)), (6, qm_I (qm_i b))]) rfl rfl (qm_x_iload rfl) ?_
    refine qm_y_if_eq rfl ⟨by omega, by omega⟩ (fun c1 => ?_) (fun c1 => ?_)
    · refine qm_G.pk (lv1 := [(3, qm_I (qm_i m)), (4, qm_I (qm_i o)), (5, qm_I (qm_i a))]) rfl rfl rfl ?_
      rw [qm_gl_e (by omega)] at k
      exact k
    · refine qm_G.s1 rfl (qm_x_iload rfl) ?_
      refine qm_G.s1 rfl (qm_x_iload rfl) ?_
      refine qm_G.s1 rfl (qm_x_iremp ⟨by omega, by omega⟩ (by omega) ⟨by omega, by omega⟩ (by omega)) ?_
      refine qm_G.s1 rfl (qm_x_istore (lv' := [(7, qm_I (qm_i (a % b))), (3, qm_I (qm_i m)), (4, qm_I (qm_i o)), (5, qm_I (qm_i a)), (6, qm_I (qm_i b))]) rfl) ?_
      refine qm_G.s1 rfl (qm_x_iload rfl) ?_
      refine qm_G.s1 rfl (qm_x_istore (lv' := [(5, qm_I (qm_i b)), (7, qm_I (qm_i (a % b))), (3, qm_I (qm_i m)), (4, qm_I (qm_i o)), (6, qm_I (qm_i b))]) rfl) ?_
      refine qm_G.s1 rfl (qm_x_iload rfl) ?_
      refine qm_G.s1 rfl (qm_x_istore (lv' := [(6, qm_I (qm_i (a % b))), (5, qm_I (qm_i b)), (7, qm_I (qm_i (a % b))), (3, qm_I (qm_i m)), (4, qm_I (qm_i o))]) rfl) ?_
      refine qm_G.s1 rfl (qm_x_goto) ?_
      refine qm_G.pk (lv1 := [(3, qm_I (qm_i m)), (4, qm_I (qm_i o)), (5, qm_I (qm_i b)), (6, qm_I (qm_i (a % b)))]) rfl rfl rfl ?_
      have m1 := Int.emod_nonneg a (show b ≠ 0 by omega)
      have m2 := Int.emod_lt_of_pos a (show 0 < b by omega)
      rw [qm_gl_s (by omega)] at k h2
      exact ih b (a % b) hb (by omega) h2 k
