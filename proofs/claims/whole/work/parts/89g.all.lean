/-! ALL ORDERS DONE -/
theorem qm_d_doA {S : List qm_Sh} {J K : qm_J} {L : qm_Ct Int64} {D : qm_Ct UInt64} {R : qm_Ct (Option qm_Rf)} {X : Nat × (Nat → Int32)} {Q : Option qm_V → qm_Hp → Prop} {m : Nat → Int} {a b : UInt64} {v : Int} {c : Nat} {kk : Nat} (hk : kk ≤ 6) (hS : qm_Sd S) (hR : qm_Rd R) (hC : qm_Cl J D (m, a, b)) (hr : qm_Rg c (m, a, b)) (hc : c ≤ 900) (rv : 0 ≤ v ∧ v ≤ 9999) (k : ∀ (J1 : qm_J) (D1 : qm_Ct UInt64), qm_Cf J J1 → qm_Df D D1 → qm_Cl J1 D1 (qm_do kk v (m, a, b)).1 → Q (some (qm_I (qm_i (qm_do kk v (m, a, b)).2))) (qm_H S J1 K L D1 R X)) : qm_C qm_P 173 [qm_R (some (0, 0, 0)), qm_R (some (1, 5 + kk, 0)), qm_I (qm_i v)] (qm_H S J K L D R X) Q := by
  rcases (show kk = 0 ∨ kk = 1 ∨ kk = 2 ∨ kk = 3 ∨ kk = 4 ∨ kk = 5 ∨ kk = 6 by omega) with e | e | e | e | e | e | e
  · subst e; exact qm_d_do0 hS hR hC hr hc rv k
  · subst e; exact qm_d_do1 hS hR hC hr hc rv k
  · subst e; exact qm_d_do2 hS hR hC hr hc rv k
  · subst e; exact qm_d_do3 hS hR hC hr hc rv k
  · subst e; exact qm_d_do4 hS hR hC hr hc rv k
  · subst e; exact qm_d_do5 hS hR hC hr hc rv k
  · subst e; exact qm_d_do6 hS hR hC hr hc rv k
theorem qm_m_doA {S : List qm_Sh} {J K : qm_J} {L : qm_Ct Int64} {D : qm_Ct UInt64} {R : qm_Ct (Option qm_Rf)} {X : Nat × (Nat → Int32)} {Q : Option qm_V → qm_Hp → Prop} {m : Nat → Int} {a b : UInt64} {v : Int} {c : Nat} {kk : Nat} (hk : kk ≤ 6) (hS : qm_Sd S) (hR : qm_Rd R) (hC : qm_Cm J D (m, a, b)) (hr : qm_Rg c (m, a, b)) (hc : c ≤ 900) (rv : 0 ≤ v ∧ v ≤ 9999) (k : ∀ (J1 : qm_J) (D1 : qm_Ct UInt64), qm_Cg J J1 → qm_Dg D D1 → qm_Cm J1 D1 (qm_do kk v (m, a, b)).1 → Q (some (qm_I (qm_i (qm_do kk v (m, a, b)).2))) (qm_H S J1 K L D1 R X)) : qm_C qm_P 172 [qm_R (some (0, 61, 0)), qm_I (qm_i (kk : Int)), qm_I (qm_i v)] (qm_H S J K L D R X) Q := by
  rcases (show kk = 0 ∨ kk = 1 ∨ kk = 2 ∨ kk = 3 ∨ kk = 4 ∨ kk = 5 ∨ kk = 6 by omega) with e | e | e | e | e | e | e
  · subst e; exact qm_m_do0 hS hR hC hr hc rv k
  · subst e; exact qm_m_do1 hS hR hC hr hc rv k
  · subst e; exact qm_m_do2 hS hR hC hr hc rv k
  · subst e; exact qm_m_do3 hS hR hC hr hc rv k
  · subst e; exact qm_m_do4 hS hR hC hr hc rv k
  · subst e; exact qm_m_do5 hS hR hC hr hc rv k
  · subst e; exact qm_m_do6 hS hR hC hr hc rv k
theorem qm_dlw_fl {m : Nat → Int} {a b : UInt64} {st P W C q : Int} : 0 ≤ (qm_dlw m a b st P W C q).2 ∧ (qm_dlw m a b st P W C q).2 ≤ 1 := by
  unfold qm_dlw
  split
  · exact ⟨(show (0 : Int) ≤ 0 by decide), (show (0 : Int) ≤ 1 by decide)⟩
  · split
    · exact ⟨(show (0 : Int) ≤ 0 by decide), (show (0 : Int) ≤ 1 by decide)⟩
    · exact ⟨(show (0 : Int) ≤ 1 by decide), (show (1 : Int) ≤ 1 by decide)⟩
theorem qm_dlw_kp {m : Nat → Int} {a b : UInt64} {st P W C q : Int} {i : Nat} (h : i ≠ 10 ∧ i ≠ 11) : (qm_dlw m a b st P W C q).1.1 i = m i := by
  unfold qm_dlw
  split
  · rfl
  · split
    · rfl
    · show qm_up (qm_up m 10 st) 11 C i = m i
      unfold qm_up
      rw [if_neg h.2, if_neg h.1]
theorem qm_ifd {c : Prop} [Decidable c] {x y : qm_MS} : 0 ≤ (if c then (x, (1 : Int)) else (y, 0)).2 ∧ (if c then (x, (1 : Int)) else (y, 0)).2 ≤ 1 := by
  split
  · exact ⟨(show (0 : Int) ≤ 1 by decide), (show (1 : Int) ≤ 1 by decide)⟩
  · exact ⟨(show (0 : Int) ≤ 0 by decide), (show (0 : Int) ≤ 1 by decide)⟩
theorem qm_do_fl {k : Nat} {s : qm_MS} {v : Int} : 0 ≤ (qm_do k v s).2 ∧ (qm_do k v s).2 ≤ 1 := by
  obtain ⟨m, a, b⟩ := s
  rcases (show k = 0 ∨ k = 1 ∨ k = 2 ∨ k = 3 ∨ k = 4 ∨ k = 5 ∨ 6 ≤ k by omega) with e | e | e | e | e | e | e
  · subst e; exact qm_ifd
  · subst e; exact qm_ifd
  · subst e; exact qm_dlw_fl
  · subst e; exact qm_dlw_fl
  · subst e; exact ⟨(show (0 : Int) ≤ 1 by decide), (show (1 : Int) ≤ 1 by decide)⟩
  · subst e; exact qm_ifd
  · obtain ⟨k6, rfl⟩ : ∃ j, k = j + 6 := ⟨k - 6, by omega⟩
    exact qm_ifd
theorem qm_up_kp {m : Nat → Int} {j i : Nat} {v : Int} (h : i ≠ j) : qm_up m j v i = m i := if_neg h
theorem qm_ifk {c : Prop} [Decidable c] {m : Nat → Int} {a b : UInt64} {j i : Nat} {v : Int} (h : i ≠ j) : (if c then ((qm_up m j v, a, b), (1 : Int)) else ((m, a, b), 0)).1.1 i = m i := by
  split
  · exact qm_up_kp h
  · rfl
theorem qm_do_kp {k i : Nat} {s : qm_MS} {v : Int} (h : i ≠ 0 ∧ i ≠ 6 ∧ i ≠ 8 ∧ i ≠ 9 ∧ i ≠ 10 ∧ i ≠ 11) : (qm_do k v s).1.1 i = s.1 i := by
  obtain ⟨m, a, b⟩ := s
  rcases (show k = 0 ∨ k = 1 ∨ k = 2 ∨ k = 3 ∨ k = 4 ∨ k = 5 ∨ 6 ≤ k by omega) with e | e | e | e | e | e | e
  · subst e; exact qm_ifk (by omega)
  · subst e; exact qm_ifk (by omega)
  · subst e; exact qm_dlw_kp (by omega)
  · subst e; exact qm_dlw_kp (by omega)
  · subst e; exact (qm_up_kp (by omega)).trans (qm_up_kp (by omega))
  · subst e; exact qm_ifk (by omega)
  · obtain ⟨k6, rfl⟩ : ∃ j, k = j + 6 := ⟨k - 6, by omega⟩
    exact qm_ifk (by omega)
def qm_rs (kd : Nat → Nat) (nv : Nat → Int) (s : qm_MS) : Nat → qm_MS × Int
  | 0 => (s, 0)
  | n + 1 => ((qm_do (kd n) (nv n) (qm_rs kd nv s n).1).1, (qm_rs kd nv s n).2 + (qm_do (kd n) (nv n) (qm_rs kd nv s n).1).2)
theorem qm_rs_rg {kd : Nat → Nat} {nv : Nat → Int} {s : qm_MS} {c : Nat} (h : qm_Rg c s) : ∀ n, c + n ≤ 900 → qm_Rg (c + n) (qm_rs kd nv s n).1 ∧ 0 ≤ (qm_rs kd nv s n).2 ∧ (qm_rs kd nv s n).2 ≤ n := by
  intro n
  induction n with
  | zero => intro _; exact ⟨h, Int.le_refl _, Int.le_refl _⟩
  | succ n ih =>
    intro hn
    have h1 := ih (by omega)
    have h2 := qm_do_fl (k := kd n) (s := (qm_rs kd nv s n).1) (v := nv n)
    refine ⟨qm_do_rg (c := c + n) (m := (qm_rs kd nv s n).1.1) (a := (qm_rs kd nv s n).1.2.1) (b := (qm_rs kd nv s n).1.2.2) h1.1 (show c + n ≤ 900 by omega), ?_, ?_⟩
    · show 0 ≤ (qm_rs kd nv s n).2 + (qm_do (kd n) (nv n) (qm_rs kd nv s n).1).2
      omega
    · show (qm_rs kd nv s n).2 + (qm_do (kd n) (nv n) (qm_rs kd nv s n).1).2 ≤ ((n + 1 : Nat) : Int)
      omega
theorem qm_rs_kp {kd : Nat → Nat} {nv : Nat → Int} {s : qm_MS} {i : Nat} (h : i ≠ 0 ∧ i ≠ 6 ∧ i ≠ 8 ∧ i ≠ 9 ∧ i ≠ 10 ∧ i ≠ 11) : ∀ n, (qm_rs kd nv s n).1.1 i = s.1 i := by
  intro n
  induction n with
  | zero => rfl
  | succ n ih => exact (qm_do_kp h).trans ih
theorem qm_d_exl {S : List qm_Sh} {K : qm_J} {L : qm_Ct Int64} {R : qm_Ct (Option qm_Rf)} {X : Nat × (Nat → Int32)} {Q : Option qm_V → qm_Hp → Prop} {kd : Nat → Nat} {nv : Nat → Int} {s0 : qm_MS} {N c : Nat} {J : qm_J} {D : qm_Ct UInt64} (hS : qm_Sd S) (hR : qm_Rd R) (hr : qm_Rg c s0) (hc : c ≤ 800) (hN : N ≤ 12) (hv : ∀ i, i < N → 0 ≤ nv i ∧ nv i ≤ 9999 ∧ kd i ≤ 6) (hW : ∀ i, i < N → R 44 0 i = some (1, 5 + kd i, 0)) (hV : ∀ i, i < N → J 45 0 i = nv i) (hct : J 42 0 5 = (N : Int)) (k : ∀ (J1 : qm_J) (D1 : qm_Ct UInt64), qm_Cf J J1 → qm_Df D D1 → qm_Cl J1 D1 (qm_rs kd nv s0 N).1 → Q (some (qm_I (qm_i (qm_rs kd nv s0 N).2))) (qm_H S J1 K L D1 R X)) : ∀ (m n : Nat) (x dn : Int) (J1 : qm_J) (D1 : qm_Ct UInt64), n + m = N → x = (n : Int) → dn = (qm_rs kd nv s0 n).2 → qm_Cf J J1 → qm_Df D D1 → qm_Cl J1 D1 (qm_rs kd nv s0 n).1 → qm_G qm_P qm_P221 29 [(0, qm_R (some (0, 0, 0))), (2, qm_I (qm_i dn)), (3, qm_I (qm_i x))] [] (qm_H S J1 K L D1 R X) Q := by
  intro m
  induction m with
  | zero =>
    intro n x dn J1 D1 hn hx hd hF hG hC
    obtain rfl : n = N := by omega
    have rg9 := qm_rs_rg (kd := kd) (nv := nv) hr n (by omega)
    rw [← hd] at rg9
    have hN9 : (n : Int) ≤ 12 := by omega
    refine qm_G.pk (lv1 := [(0, qm_R (some (0, 0, 0))), (2, qm_I (qm_i dn)), (3, qm_I (qm_i x))]) rfl rfl rfl ?_
    refine qm_G.sp (lv1 := [(0, qm_R (some (0, 0, 0))), (2, qm_I (qm_i dn)), (3, qm_I (qm_i x))]) rfl rfl (qm_x_iload rfl) ?_
    refine qm_G.s1 rfl (qm_x_aload rfl) ?_
    refine qm_G.s1 rfl (qm_x_getfR (q := (some (0, 42, 0))) (hS 0 rfl) (hR 0 4 42 rfl rfl)) ?_
    refine qm_G.s1 rfl (qm_x_getfI (v := (n : Int)) (hS 42 rfl) ((hF 42 0 5 (by omega) (by omega) (by omega) (by omega)).trans hct)) ?_
    refine qm_G.s1 rfl (qm_x_icmp_ge_t ⟨by omega, by omega⟩ ⟨by omega, by omega⟩ (by omega)) ?_
    refine qm_G.sp (lv1 := [(2, qm_I (qm_i dn))]) rfl rfl (qm_x_iload rfl) ?_
    rw [hd]
    exact qm_G.ret rfl rfl (k J1 D1 hF hG hC)
  | succ m ih =>
    intro n x dn J1 D1 hn hx hd hF hG hC
    have rg9 := qm_rs_rg (kd := kd) (nv := nv) hr n (by omega)
    rw [← hd] at rg9
    refine qm_G.pk (lv1 := [(0, qm_R (some (0, 0, 0))), (2, qm_I (qm_i dn)), (3, qm_I (qm_i x))]) rfl rfl rfl ?_
    refine qm_G.sp (lv1 := [(0, qm_R (some (0, 0, 0))), (2, qm_I (qm_i dn)), (3, qm_I (qm_i x))]) rfl rfl (qm_x_iload rfl) ?_
    refine qm_G.s1 rfl (qm_x_aload rfl) ?_
    refine qm_G.s1 rfl (qm_x_getfR (q := (some (0, 42, 0))) (hS 0 rfl) (hR 0 4 42 rfl rfl)) ?_
    refine qm_G.s1 rfl (qm_x_getfI (v := (N : Int)) (hS 42 rfl) ((hF 42 0 5 (by omega) (by omega) (by omega) (by omega)).trans hct)) ?_
    refine qm_G.s1 rfl (qm_x_icmp_ge_f ⟨by omega, by omega⟩ ⟨by omega, by omega⟩ (by omega)) ?_
    refine qm_G.s1 rfl (qm_x_iload rfl) ?_
    refine qm_G.s1 rfl (qm_x_pushI 12 rfl) ?_
    refine qm_G.s1 rfl (qm_x_icmp_ge_f ⟨by omega, by omega⟩ ⟨by decide, by decide⟩ (by omega)) ?_
    refine qm_G.s1 rfl (qm_x_aload rfl) ?_
    refine qm_G.s1 rfl (qm_x_aload rfl) ?_
    refine qm_G.s1 rfl (qm_x_getfR (q := (some (0, 42, 0))) (hS 0 rfl) (hR 0 4 42 rfl rfl)) ?_
    refine qm_G.s1 rfl (qm_x_getfR (q := (some (0, 44, 0))) (hS 42 rfl) (hR 42 3 44 rfl rfl)) ?_
    refine qm_G.s1 rfl (qm_x_iload rfl) ?_
    refine qm_G.s1 rfl (qm_x_aaldr (q := (some (1, 5 + kd n, 0))) (hS 44 rfl) rfl rfl (by omega) (by omega) (by rw [show Int.toNat x = n by omega]; exact hW n (by omega))) ?_
    refine qm_G.s1 rfl (qm_x_aload rfl) ?_
    refine qm_G.s1 rfl (qm_x_getfR (q := (some (0, 42, 0))) (hS 0 rfl) (hR 0 4 42 rfl rfl)) ?_
    refine qm_G.s1 rfl (qm_x_getfR (q := (some (0, 45, 0))) (hS 42 rfl) (hR 42 4 45 rfl rfl)) ?_
    refine qm_G.s1 rfl (qm_x_iload rfl) ?_
    refine qm_G.s1 rfl (qm_x_iald (v := (nv n)) (qm_arS hS rfl rfl) rfl (by omega) (by omega) (by decide) (Eq.trans (congrArg (J1 45 0) (by omega)) ((hF 45 0 n (by omega) (by omega) (by omega) (by omega)).trans (hV n (by omega))))) ?_
    refine qm_G.cm rfl rfl (hS 0 rfl) rfl ?_
    refine qm_d_doA (c := c + n) (m := (qm_rs kd nv s0 n).1.1) (a := (qm_rs kd nv s0 n).1.2.1) (b := (qm_rs kd nv s0 n).1.2.2) (hv n (by omega)).2.2 hS hR hC rg9.1 (by omega) ⟨(hv n (by omega)).1, (hv n (by omega)).2.1⟩ (fun J2 D2 f2 d2 C2 => ⟨_, rfl, ?_⟩)
    have fl9 := qm_do_fl (k := kd n) (s := (qm_rs kd nv s0 n).1) (v := nv n)
    change qm_G _ _ _ _ (qm_I (qm_i (qm_do (kd n) (nv n) (qm_rs kd nv s0 n).1).2) :: _) _ _
    refine qm_y_if_eq rfl ⟨by omega, by omega⟩ (fun c1 => ?_) (fun c1 => ?_)
    · refine qm_G.sp (lv1 := [(0, qm_R (some (0, 0, 0))), (2, qm_I (qm_i dn)), (3, qm_I (qm_i x))]) rfl rfl (qm_x_iinc (lv' := [(3, qm_I (qm_i (x + 1))), (0, qm_R (some (0, 0, 0))), (2, qm_I (qm_i dn))]) 1 rfl rfl rfl) ?_
      refine qm_G.s1 rfl (qm_x_goto) ?_
      refine qm_G.pk (lv1 := [(0, qm_R (some (0, 0, 0))), (2, qm_I (qm_i dn)), (3, qm_I (qm_i (x + 1)))]) rfl rfl rfl ?_
      exact ih (n + 1) _ _ J2 D2 (by omega) (by omega) (by show _ = (qm_rs kd nv s0 n).2 + (qm_do (kd n) (nv n) (qm_rs kd nv s0 n).1).2; omega) (fun r s i a b c d => (f2 r s i a b c d).trans (hF r s i a b c d)) (fun r s i a => (d2 r s i a).trans (hG r s i a)) C2
    · refine qm_G.s1 rfl (qm_x_iinc (lv' := [(2, qm_I (qm_i (dn + 1))), (0, qm_R (some (0, 0, 0))), (3, qm_I (qm_i x))]) 1 rfl rfl rfl) ?_
      refine qm_G.sp (lv1 := [(0, qm_R (some (0, 0, 0))), (2, qm_I (qm_i (dn + 1))), (3, qm_I (qm_i x))]) rfl rfl (qm_x_iinc (lv' := [(3, qm_I (qm_i (x + 1))), (0, qm_R (some (0, 0, 0))), (2, qm_I (qm_i (dn + 1)))]) 1 rfl rfl rfl) ?_
      refine qm_G.s1 rfl (qm_x_goto) ?_
      refine qm_G.pk (lv1 := [(0, qm_R (some (0, 0, 0))), (2, qm_I (qm_i (dn + 1))), (3, qm_I (qm_i (x + 1)))]) rfl rfl rfl ?_
      exact ih (n + 1) _ _ J2 D2 (by omega) (by omega) (by show _ = (qm_rs kd nv s0 n).2 + (qm_do (kd n) (nv n) (qm_rs kd nv s0 n).1).2; omega) (fun r s i a b c d => (f2 r s i a b c d).trans (hF r s i a b c d)) (fun r s i a => (d2 r s i a).trans (hG r s i a)) C2
theorem qm_m_exl {S : List qm_Sh} {K : qm_J} {L : qm_Ct Int64} {R : qm_Ct (Option qm_Rf)} {X : Nat × (Nat → Int32)} {Q : Option qm_V → qm_Hp → Prop} {kd : Nat → Nat} {nv : Nat → Int} {s0 : qm_MS} {N c : Nat} {J : qm_J} {D : qm_Ct UInt64} (hS : qm_Sd S) (hR : qm_Rd R) (hr : qm_Rg c s0) (hc : c ≤ 800) (hN : N ≤ 12) (hv : ∀ i, i < N → 0 ≤ nv i ∧ nv i ≤ 9999 ∧ kd i ≤ 6) (hW : ∀ i, i < N → J 70 0 i = (kd i : Int)) (hV : ∀ i, i < N → J 71 0 i = nv i) (k : ∀ (J1 : qm_J) (D1 : qm_Ct UInt64), qm_Cg J J1 → qm_Dg D D1 → qm_Cm J1 D1 (qm_rs kd nv s0 N).1 → Q (some (qm_I (qm_i (qm_rs kd nv s0 N).2))) (qm_H S J1 K L D1 R X)) : ∀ (m n : Nat) (x dn : Int) (J1 : qm_J) (D1 : qm_Ct UInt64), n + m = N → x = (n : Int) → dn = (qm_rs kd nv s0 n).2 → qm_Cg J J1 → qm_Dg D D1 → qm_Cm J1 D1 (qm_rs kd nv s0 n).1 → qm_G qm_P qm_P209 129 [(0, qm_R (some (0, 61, 0))), (1, qm_I (qm_i (N : Int))), (4, qm_I (qm_i dn)), (5, qm_I (qm_i x))] [] (qm_H S J1 K L D1 R X) Q := by
  intro m
  induction m with
  | zero =>
    intro n x dn J1 D1 hn hx hd hF hG hC
    obtain rfl : n = N := by omega
    have rg9 := qm_rs_rg (kd := kd) (nv := nv) hr n (by omega)
    rw [← hd] at rg9
    have hN9 : (n : Int) ≤ 12 := by omega
    refine qm_G.pk (lv1 := [(0, qm_R (some (0, 61, 0))), (1, qm_I (qm_i (n : Int))), (4, qm_I (qm_i dn)), (5, qm_I (qm_i x))]) rfl rfl rfl ?_
    refine qm_G.sp (lv1 := [(0, qm_R (some (0, 61, 0))), (1, qm_I (qm_i (n : Int))), (4, qm_I (qm_i dn)), (5, qm_I (qm_i x))]) rfl rfl (qm_x_iload rfl) ?_
    refine qm_G.s1 rfl (qm_x_iload rfl) ?_
    refine qm_G.s1 rfl (qm_x_icmp_ge_t ⟨by omega, by omega⟩ ⟨by omega, by omega⟩ (by omega)) ?_
    refine qm_G.sp (lv1 := [(4, qm_I (qm_i dn))]) rfl rfl (qm_x_iload rfl) ?_
    rw [hd]
    exact qm_G.ret rfl rfl (k J1 D1 hF hG hC)
  | succ m ih =>
    intro n x dn J1 D1 hn hx hd hF hG hC
    have rg9 := qm_rs_rg (kd := kd) (nv := nv) hr n (by omega)
    rw [← hd] at rg9
    refine qm_G.pk (lv1 := [(0, qm_R (some (0, 61, 0))), (1, qm_I (qm_i (N : Int))), (4, qm_I (qm_i dn)), (5, qm_I (qm_i x))]) rfl rfl rfl ?_
    refine qm_G.sp (lv1 := [(0, qm_R (some (0, 61, 0))), (1, qm_I (qm_i (N : Int))), (4, qm_I (qm_i dn)), (5, qm_I (qm_i x))]) rfl rfl (qm_x_iload rfl) ?_
    refine qm_G.s1 rfl (qm_x_iload rfl) ?_
    refine qm_G.s1 rfl (qm_x_icmp_ge_f ⟨by omega, by omega⟩ ⟨by omega, by omega⟩ (by omega)) ?_
    refine qm_G.s1 rfl (qm_x_aload rfl) ?_
    refine qm_G.s1 rfl (qm_x_aload rfl) ?_
    refine qm_G.s1 rfl (qm_x_getfR (q := (some (0, 70, 0))) (hS 61 rfl) (hR 61 14 70 rfl rfl)) ?_
    refine qm_G.s1 rfl (qm_x_iload rfl) ?_
    refine qm_G.s1 rfl (qm_x_iald (v := (kd n : Int)) (qm_arS hS rfl rfl) rfl (by omega) (by omega) (by decide) (Eq.trans (congrArg (J1 70 0) (by omega)) ((hF 70 0 n (by decide)).trans (hW n (by omega))))) ?_
    refine qm_G.s1 rfl (qm_x_aload rfl) ?_
    refine qm_G.s1 rfl (qm_x_getfR (q := (some (0, 71, 0))) (hS 61 rfl) (hR 61 15 71 rfl rfl)) ?_
    refine qm_G.s1 rfl (qm_x_iload rfl) ?_
    refine qm_G.s1 rfl (qm_x_iald (v := (nv n)) (qm_arS hS rfl rfl) rfl (by omega) (by omega) (by decide) (Eq.trans (congrArg (J1 71 0) (by omega)) ((hF 71 0 n (by decide)).trans (hV n (by omega))))) ?_
    refine qm_G.cm rfl rfl (hS 61 rfl) rfl ?_
    refine qm_m_doA (c := c + n) (m := (qm_rs kd nv s0 n).1.1) (a := (qm_rs kd nv s0 n).1.2.1) (b := (qm_rs kd nv s0 n).1.2.2) (hv n (by omega)).2.2 hS hR hC rg9.1 (by omega) ⟨(hv n (by omega)).1, (hv n (by omega)).2.1⟩ (fun J2 D2 f2 d2 C2 => ⟨_, rfl, ?_⟩)
    have fl9 := qm_do_fl (k := kd n) (s := (qm_rs kd nv s0 n).1) (v := nv n)
    change qm_G _ _ _ _ (qm_I (qm_i (qm_do (kd n) (nv n) (qm_rs kd nv s0 n).1).2) :: _) _ _
    refine qm_y_if_eq rfl ⟨by omega, by omega⟩ (fun c1 => ?_) (fun c1 => ?_)
    · refine qm_G.sp (lv1 := [(0, qm_R (some (0, 61, 0))), (1, qm_I (qm_i (N : Int))), (4, qm_I (qm_i dn)), (5, qm_I (qm_i x))]) rfl rfl (qm_x_iinc (lv' := [(5, qm_I (qm_i (x + 1))), (0, qm_R (some (0, 61, 0))), (1, qm_I (qm_i (N : Int))), (4, qm_I (qm_i dn))]) 1 rfl rfl rfl) ?_
      refine qm_G.s1 rfl (qm_x_goto) ?_
      refine qm_G.pk (lv1 := [(0, qm_R (some (0, 61, 0))), (1, qm_I (qm_i (N : Int))), (4, qm_I (qm_i dn)), (5, qm_I (qm_i (x + 1)))]) rfl rfl rfl ?_
      exact ih (n + 1) _ _ J2 D2 (by omega) (by omega) (by show _ = (qm_rs kd nv s0 n).2 + (qm_do (kd n) (nv n) (qm_rs kd nv s0 n).1).2; omega) (fun r s i a => (f2 r s i a).trans (hF r s i a)) (fun r s i a => (d2 r s i a).trans (hG r s i a)) C2
    · refine qm_G.s1 rfl (qm_x_iinc (lv' := [(4, qm_I (qm_i (dn + 1))), (0, qm_R (some (0, 61, 0))), (1, qm_I (qm_i (N : Int))), (5, qm_I (qm_i x))]) 1 rfl rfl rfl) ?_
      refine qm_G.sp (lv1 := [(0, qm_R (some (0, 61, 0))), (1, qm_I (qm_i (N : Int))), (4, qm_I (qm_i (dn + 1))), (5, qm_I (qm_i x))]) rfl rfl (qm_x_iinc (lv' := [(5, qm_I (qm_i (x + 1))), (0, qm_R (some (0, 61, 0))), (1, qm_I (qm_i (N : Int))), (4, qm_I (qm_i (dn + 1)))]) 1 rfl rfl rfl) ?_
      refine qm_G.s1 rfl (qm_x_goto) ?_
      refine qm_G.pk (lv1 := [(0, qm_R (some (0, 61, 0))), (1, qm_I (qm_i (N : Int))), (4, qm_I (qm_i (dn + 1))), (5, qm_I (qm_i (x + 1)))]) rfl rfl rfl ?_
      exact ih (n + 1) _ _ J2 D2 (by omega) (by omega) (by show _ = (qm_rs kd nv s0 n).2 + (qm_do (kd n) (nv n) (qm_rs kd nv s0 n).1).2; omega) (fun r s i a => (f2 r s i a).trans (hF r s i a)) (fun r s i a => (d2 r s i a).trans (hG r s i a)) C2
theorem qm_U_read {S : List qm_Sh} {J J' K : qm_J} {L : qm_Ct Int64} {D D' : qm_Ct UInt64} {R R' : qm_Ct (Option qm_Rf)} {k c : Nat} (hI : qm_Inv S J K L D R k) (e : ∀ r s i, ¬ (r = 3 ∧ i = 0) → ¬ (r = 2 ∧ i = 5) → r ≠ 10 → ¬ (r = 9 ∧ (i = 1 ∨ i = 2)) → r ≠ 42 → r ≠ 45 → ¬ (r = 61 ∧ (i = 12 ∨ i = 16 ∨ i = 17)) → r ≠ 70 → r ≠ 71 → ¬ (r = 62 ∧ (i = 0 ∨ i = 6 ∨ 8 ≤ i ∧ i ≤ 11)) → J' r s i = J r s i) (eD : ∀ r s i, ¬ (r = 9 ∧ (i = 3 ∨ i = 4)) → ¬ (r = 61 ∧ (i = 2 ∨ i = 3)) → D' r s i = D r s i) (eR : ∀ r s i, r ≠ 44 → R' r s i = R r s i) (hR' : qm_Rd R') (z1 : J' 42 0 1 = 0) (z2 : J' 61 0 12 = 0) (C : qm_Cl J' D' (J' 62 0, D' 61 0 2, D' 61 0 3)) (G : qm_Rg c (J' 62 0, D' 61 0 2, D' 61 0 3)) (hc : c ≤ k + 1) : qm_Inv S J' K L D' R' (k + 1) := by
  obtain ⟨e0, e1, e5, e6, e8, e9, e10, e11, ea, eb⟩ := C
  obtain ⟨r0, r1, r5, r6, r8, r9, r10, r11, hm9, hs9⟩ := G
  have riv' : ∀ i : Nat, i < 8 → (i : Int) < J' 62 0 7 → ∃ q, R' 7 0 i = some (0, q, 0) ∧ 78 ≤ q ∧ qm_nth S q = some (Sum.inl 7) ∧ J' q 0 0 = J' 62 0 (26 + 3 * i) ∧ J' q 0 1 = J' 62 0 (27 + 3 * i) ∧ J' q 0 2 = J' 62 0 (28 + 3 * i) ∧ (0 ≤ J' 62 0 (26 + 3 * i) ∧ J' 62 0 (26 + 3 * i) ≤ 3) ∧ (0 ≤ J' 62 0 (27 + 3 * i) ∧ J' 62 0 (27 + 3 * i) ≤ 6) ∧ 0 ≤ J' 62 0 (28 + 3 * i) ∧ J' 62 0 (28 + 3 * i) ≤ 6 := by
    intro i hi hlt
    rw [e 62 0 7 (by omega) (by omega) (by omega) (by omega) (by omega) (by omega) (by omega) (by omega) (by omega) (by omega)] at hlt
    obtain ⟨q, h1, h2, h3, h4⟩ := hI.mk.riv i hi hlt
    refine ⟨q, (eR 7 0 i (by omega)).trans h1, h2, h3, ?_⟩
    rw [e q 0 0 (by omega) (by omega) (by omega) (by omega) (by omega) (by omega) (by omega) (by omega) (by omega) (by omega), e q 0 1 (by omega) (by omega) (by omega) (by omega) (by omega) (by omega) (by omega) (by omega) (by omega) (by omega), e q 0 2 (by omega) (by omega) (by omega) (by omega) (by omega) (by omega) (by omega) (by omega) (by omega) (by omega), e 62 0 (26 + 3 * i) (by omega) (by omega) (by omega) (by omega) (by omega) (by omega) (by omega) (by omega) (by omega) (by omega), e 62 0 (27 + 3 * i) (by omega) (by omega) (by omega) (by omega) (by omega) (by omega) (by omega) (by omega) (by omega) (by omega), e 62 0 (28 + 3 * i) (by omega) (by omega) (by omega) (by omega) (by omega) (by omega) (by omega) (by omega) (by omega) (by omega)]
    exact h4
  have tr9 : qm_Trn J' D' := ⟨e8, e9, r8, r9, e10, r10, e11, r11, ea, eb⟩
  have old' : J' 61 0 4 = 1 → qm_Mko S J' R' ∧ qm_Tro J' D' ∧ qm_Nto J' := by
    intro x
    rw [e 61 0 4 (by omega) (by omega) (by omega) (by omega) (by omega) (by omega) (by omega) (by omega) (by omega) (by omega)] at x
    have h9 := hI.old x
    have rv : ∀ i : Nat, i < 8 → (i : Int) < J' 63 0 7 → ∃ q, R' 24 0 i = some (0, q, 0) ∧ 78 ≤ q ∧ qm_nth S q = some (Sum.inl 7) ∧ J' q 0 0 = J' 63 0 (26 + 3 * i) ∧ J' q 0 1 = J' 63 0 (27 + 3 * i) ∧ J' q 0 2 = J' 63 0 (28 + 3 * i) ∧ (0 ≤ J' 63 0 (26 + 3 * i) ∧ J' 63 0 (26 + 3 * i) ≤ 3) ∧ (0 ≤ J' 63 0 (27 + 3 * i) ∧ J' 63 0 (27 + 3 * i) ≤ 6) ∧ 0 ≤ J' 63 0 (28 + 3 * i) ∧ J' 63 0 (28 + 3 * i) ≤ 6 := by
      intro i hi hlt
      rw [e 63 0 7 (by omega) (by omega) (by omega) (by omega) (by omega) (by omega) (by omega) (by omega) (by omega) (by omega)] at hlt
      obtain ⟨q, h1, h2, h3, h4⟩ := h9.1.riv i hi hlt
      refine ⟨q, (eR 24 0 i (by omega)).trans h1, h2, h3, ?_⟩
      rw [e q 0 0 (by omega) (by omega) (by omega) (by omega) (by omega) (by omega) (by omega) (by omega) (by omega) (by omega), e q 0 1 (by omega) (by omega) (by omega) (by omega) (by omega) (by omega) (by omega) (by omega) (by omega) (by omega), e q 0 2 (by omega) (by omega) (by omega) (by omega) (by omega) (by omega) (by omega) (by omega) (by omega) (by omega), e 63 0 (26 + 3 * i) (by omega) (by omega) (by omega) (by omega) (by omega) (by omega) (by omega) (by omega) (by omega) (by omega), e 63 0 (27 + 3 * i) (by omega) (by omega) (by omega) (by omega) (by omega) (by omega) (by omega) (by omega) (by omega) (by omega), e 63 0 (28 + 3 * i) (by omega) (by omega) (by omega) (by omega) (by omega) (by omega) (by omega) (by omega) (by omega) (by omega)]
      exact h4
    refine ⟨⟨qm_Mko_set (S := S) (K := J) (R := R) (D := D) h9.1.set (fun r s i x => e r s i (by omega) (by omega) (by omega) (by omega) (by omega) (by omega) (by omega) (by omega) (by omega) (by omega)), qm_Mko_r0 (S := S) (K := J) (R := R) (D := D) h9.1.r0 (fun r s i x => e r s i (by omega) (by omega) (by omega) (by omega) (by omega) (by omega) (by omega) (by omega) (by omega) (by omega)), qm_Mko_r1 (S := S) (K := J) (R := R) (D := D) h9.1.r1 (fun r s i x => e r s i (by omega) (by omega) (by omega) (by omega) (by omega) (by omega) (by omega) (by omega) (by omega) (by omega)), qm_Mko_r2 (S := S) (K := J) (R := R) (D := D) h9.1.r2 (fun r s i x => e r s i (by omega) (by omega) (by omega) (by omega) (by omega) (by omega) (by omega) (by omega) (by omega) (by omega)), qm_Mko_r3 (S := S) (K := J) (R := R) (D := D) h9.1.r3 (fun r s i x => e r s i (by omega) (by omega) (by omega) (by omega) (by omega) (by omega) (by omega) (by omega) (by omega) (by omega)), qm_Mko_r4 (S := S) (K := J) (R := R) (D := D) h9.1.r4 (fun r s i x => e r s i (by omega) (by omega) (by omega) (by omega) (by omega) (by omega) (by omega) (by omega) (by omega) (by omega)), qm_Mko_r5 (S := S) (K := J) (R := R) (D := D) h9.1.r5 (fun r s i x => e r s i (by omega) (by omega) (by omega) (by omega) (by omega) (by omega) (by omega) (by omega) (by omega) (by omega)), qm_Mko_str (S := S) (K := J) (R := R) (D := D) h9.1.str (fun r s i x => e r s i (by omega) (by omega) (by omega) (by omega) (by omega) (by omega) (by omega) (by omega) (by omega) (by omega)), qm_Mko_rstr (S := S) (K := J) (R := R) (D := D) h9.1.rstr (fun r s i x => e r s i (by omega) (by omega) (by omega) (by omega) (by omega) (by omega) (by omega) (by omega) (by omega) (by omega)), qm_Mko_rc (S := S) (K := J) (R := R) (D := D) h9.1.rc (fun r s i x => e r s i (by omega) (by omega) (by omega) (by omega) (by omega) (by omega) (by omega) (by omega) (by omega) (by omega)), qm_Mko_rrc (S := S) (K := J) (R := R) (D := D) h9.1.rrc (fun r s i x => e r s i (by omega) (by omega) (by omega) (by omega) (by omega) (by omega) (by omega) (by omega) (by omega) (by omega)), qm_Mko_odb (S := S) (K := J) (R := R) (D := D) h9.1.odb (fun r s i x => e r s i (by omega) (by omega) (by omega) (by omega) (by omega) (by omega) (by omega) (by omega) (by omega) (by omega)), qm_Mko_oda (S := S) (K := J) (R := R) (D := D) h9.1.oda (fun r s i x => e r s i (by omega) (by omega) (by omega) (by omega) (by omega) (by omega) (by omega) (by omega) (by omega) (by omega)), qm_Mko_rod (S := S) (K := J) (R := R) (D := D) h9.1.rod (fun r s i x => e r s i (by omega) (by omega) (by omega) (by omega) (by omega) (by omega) (by omega) (by omega) (by omega) (by omega)), rv, qm_Mko_dek (S := S) (K := J) (R := R) (D := D) h9.1.dek (fun r s i x => e r s i (by omega) (by omega) (by omega) (by omega) (by omega) (by omega) (by omega) (by omega) (by omega) (by omega))⟩, ⟨qm_Tro_qb (S := S) (K := J) (R := R) (D := D) h9.2.1.qb (fun r s i x => e r s i (by omega) (by omega) (by omega) (by omega) (by omega) (by omega) (by omega) (by omega) (by omega) (by omega)), qm_Tro_qa (S := S) (K := J) (R := R) (D := D) h9.2.1.qa (fun r s i x => e r s i (by omega) (by omega) (by omega) (by omega) (by omega) (by omega) (by omega) (by omega) (by omega) (by omega)), qm_Tro_rqb (S := S) (K := J) (R := R) (D := D) h9.2.1.rqb (fun r s i x => e r s i (by omega) (by omega) (by omega) (by omega) (by omega) (by omega) (by omega) (by omega) (by omega) (by omega)), qm_Tro_rqa (S := S) (K := J) (R := R) (D := D) h9.2.1.rqa (fun r s i x => e r s i (by omega) (by omega) (by omega) (by omega) (by omega) (by omega) (by omega) (by omega) (by omega) (by omega)), qm_Tro_stk (S := S) (K := J) (R := R) (D := D) h9.2.1.stk (fun r s i x => e r s i (by omega) (by omega) (by omega) (by omega) (by omega) (by omega) (by omega) (by omega) (by omega) (by omega)), qm_Tro_rstk (S := S) (K := J) (R := R) (D := D) h9.2.1.rstk (fun r s i x => e r s i (by omega) (by omega) (by omega) (by omega) (by omega) (by omega) (by omega) (by omega) (by omega) (by omega)), qm_Tro_csh (S := S) (K := J) (R := R) (D := D) h9.2.1.csh (fun r s i x => e r s i (by omega) (by omega) (by omega) (by omega) (by omega) (by omega) (by omega) (by omega) (by omega) (by omega)), qm_Tro_rcsh (S := S) (K := J) (R := R) (D := D) h9.2.1.rcsh (fun r s i x => e r s i (by omega) (by omega) (by omega) (by omega) (by omega) (by omega) (by omega) (by omega) (by omega) (by omega)), (by rw [eD 26 0 3 (by omega) (by omega), eD 61 0 5 (by omega) (by omega)]; exact h9.2.1.mid), (by rw [eD 26 0 4 (by omega) (by omega), eD 61 0 6 (by omega) (by omega)]; exact h9.2.1.spr)⟩, h9.2.2.fr (fun r s i x => e r s i (by omega) (by omega) (by omega) (by omega) (by omega) (by omega) (by omega) (by omega) (by omega) (by omega))⟩
  exact ⟨hI.sd, hR', ⟨(fun i hi => if c9 : i = 0 then (by rw [c9]; exact e0) else (by rw [e 3 0 i (by omega) (by omega) (by omega) (by omega) (by omega) (by omega) (by omega) (by omega) (by omega) (by omega), e 62 0 i (by omega) (by omega) (by omega) (by omega) (by omega) (by omega) (by omega) (by omega) (by omega) (by omega)]; exact hI.mk.set i hi)), r0, qm_Mkn_r1 (S := S) (K := J) (R := R) (D := D) hI.mk.r1 (fun r s i x => e r s i (by omega) (by omega) (by omega) (by omega) (by omega) (by omega) (by omega) (by omega) (by omega) (by omega)), qm_Mkn_r2 (S := S) (K := J) (R := R) (D := D) hI.mk.r2 (fun r s i x => e r s i (by omega) (by omega) (by omega) (by omega) (by omega) (by omega) (by omega) (by omega) (by omega) (by omega)), qm_Mkn_r3 (S := S) (K := J) (R := R) (D := D) hI.mk.r3 (fun r s i x => e r s i (by omega) (by omega) (by omega) (by omega) (by omega) (by omega) (by omega) (by omega) (by omega) (by omega)), qm_Mkn_r4 (S := S) (K := J) (R := R) (D := D) hI.mk.r4 (fun r s i x => e r s i (by omega) (by omega) (by omega) (by omega) (by omega) (by omega) (by omega) (by omega) (by omega) (by omega)), qm_Mkn_r5 (S := S) (K := J) (R := R) (D := D) hI.mk.r5 (fun r s i x => e r s i (by omega) (by omega) (by omega) (by omega) (by omega) (by omega) (by omega) (by omega) (by omega) (by omega)), e6, r6, qm_Mkn_rc (S := S) (K := J) (R := R) (D := D) hI.mk.rc (fun r s i x => e r s i (by omega) (by omega) (by omega) (by omega) (by omega) (by omega) (by omega) (by omega) (by omega) (by omega)), qm_Mkn_rrc (S := S) (K := J) (R := R) (D := D) hI.mk.rrc (fun r s i x => e r s i (by omega) (by omega) (by omega) (by omega) (by omega) (by omega) (by omega) (by omega) (by omega) (by omega)), qm_Mkn_odb (S := S) (K := J) (R := R) (D := D) hI.mk.odb (fun r s i x => e r s i (by omega) (by omega) (by omega) (by omega) (by omega) (by omega) (by omega) (by omega) (by omega) (by omega)), qm_Mkn_oda (S := S) (K := J) (R := R) (D := D) hI.mk.oda (fun r s i x => e r s i (by omega) (by omega) (by omega) (by omega) (by omega) (by omega) (by omega) (by omega) (by omega) (by omega)), qm_Mkn_rod (S := S) (K := J) (R := R) (D := D) hI.mk.rod (fun r s i x => e r s i (by omega) (by omega) (by omega) (by omega) (by omega) (by omega) (by omega) (by omega) (by omega) (by omega)), riv', qm_Mkn_dek (S := S) (K := J) (R := R) (D := D) hI.mk.dek (fun r s i x => e r s i (by omega) (by omega) (by omega) (by omega) (by omega) (by omega) (by omega) (by omega) (by omega) (by omega))⟩, tr9, hI.nt.fr (fun r s i x => e r s i (by omega) (by omega) (by omega) (by omega) (by omega) (by omega) (by omega) (by omega) (by omega) (by omega)), (z1.trans z2.symm), (by rw [z2]; exact ⟨by decide, by decide⟩), (fun i x => by rw [e 69 0 i (by omega) (by omega) (by omega) (by omega) (by omega) (by omega) (by omega) (by omega) (by omega) (by omega)]; exact hI.sgn i x), (fun t x => by rw [e (49 + 2 * t) 0 1 (by omega) (by omega) (by omega) (by omega) (by omega) (by omega) (by omega) (by omega) (by omega) (by omega), e 73 0 t (by omega) (by omega) (by omega) (by omega) (by omega) (by omega) (by omega) (by omega) (by omega) (by omega)]; exact hI.srt t x), (fun t x => by rw [e (49 + 2 * t) 0 2 (by omega) (by omega) (by omega) (by omega) (by omega) (by omega) (by omega) (by omega) (by omega) (by omega), e 73 0 t (by omega) (by omega) (by omega) (by omega) (by omega) (by omega) (by omega) (by omega) (by omega) (by omega), e 74 0 t (by omega) (by omega) (by omega) (by omega) (by omega) (by omega) (by omega) (by omega) (by omega) (by omega)]; exact hI.len t x), hI.itm, (by rw [e 0 0 2 (by omega) (by omega) (by omega) (by omega) (by omega) (by omega) (by omega) (by omega) (by omega) (by omega), e 61 0 4 (by omega) (by omega) (by omega) (by omega) (by omega) (by omega) (by omega) (by omega) (by omega) (by omega)]; exact hI.img), (by rw [e 61 0 4 (by omega) (by omega) (by omega) (by omega) (by omega) (by omega) (by omega) (by omega) (by omega) (by omega)]; exact hI.rimg), old', (by obtain ⟨⟨q, n, h1, h2⟩, h5⟩ := hI.slp; exact ⟨⟨q, n, (eR 47 0 0 (by omega)).trans h1, h2⟩, fun i hi => ⟨by rw [eR 7 0 i (by omega)]; exact (h5 i hi).1, by rw [eR 24 0 i (by omega)]; exact (h5 i hi).2⟩⟩), (by rw [e 47 0 1 (by omega) (by omega) (by omega) (by omega) (by omega) (by omega) (by omega) (by omega) (by omega) (by omega)]; exact hI.sl1), (by rw [e 47 0 3 (by omega) (by omega) (by omega) (by omega) (by omega) (by omega) (by omega) (by omega) (by omega) (by omega)]; exact hI.sl2), ⟨by have := hI.room.1; omega, by have := hI.room.2; omega⟩, ⟨⟨c, by rw [z2]; omega, hm9, hs9⟩, fun h6 => by rw [e 61 0 4 (by omega) (by omega) (by omega) (by omega) (by omega) (by omega) (by omega) (by omega) (by omega) (by omega)] at h6; obtain ⟨c1, h7, h8⟩ := hI.tall.2 h6; have h10 := hI.rtx; exact ⟨c1, by rw [z2]; omega, by rw [eD 61 0 5 (by omega) (by omega), eD 61 0 6 (by omega) (by omega)]; exact h8⟩⟩⟩
theorem qm_Inv.cl {S : List qm_Sh} {J K : qm_J} {L : qm_Ct Int64} {D : qm_Ct UInt64} {R : qm_Ct (Option qm_Rf)} {k : Nat} (hI : qm_Inv S J K L D R k) : qm_Cl J D (J 62 0, D 61 0 2, D 61 0 3) := ⟨hI.mk.set 0 (by decide), hI.mk.set 1 (by decide), hI.mk.set 5 (by decide), hI.mk.str, hI.tr.qb, hI.tr.qa, hI.tr.stk, hI.tr.csh, hI.tr.mid, hI.tr.spr⟩
theorem qm_Inv.rg {S : List qm_Sh} {J K : qm_J} {L : qm_Ct Int64} {D : qm_Ct UInt64} {R : qm_Ct (Option qm_Rf)} {k : Nat} (hI : qm_Inv S J K L D R k) : ∃ c : Nat, (c : Int) + J 61 0 12 ≤ k ∧ c ≤ k ∧ qm_Rg c (J 62 0, D 61 0 2, D 61 0 3) := by
  obtain ⟨c, h1, h2, h3, h4⟩ := hI.tall.now hI.rtx.1
  exact ⟨c, h1, h2, hI.mk.r0, hI.mk.r1, hI.mk.r5, hI.mk.rstr, hI.tr.rqb, hI.tr.rqa, hI.tr.rstk, hI.tr.rcsh, h3, h4⟩
theorem qm_U_fault {S : List qm_Sh} {J J' K : qm_J} {L : qm_Ct Int64} {D : qm_Ct UInt64} {R R' : qm_Ct (Option qm_Rf)} {k : Nat} (hI : qm_Inv S J K L D R k) (e : ∀ r s i, r ≠ 42 → r ≠ 45 → ¬ (r = 61 ∧ (i = 12 ∨ i = 16 ∨ i = 17)) → r ≠ 70 → r ≠ 71 → J' r s i = J r s i) (eR : ∀ r s i, r ≠ 44 → R' r s i = R r s i) (hR' : qm_Rd R') (z1 : J' 42 0 1 = 0) (z2 : J' 61 0 12 = 0) : qm_Inv S J' K L D R' (k + 1) := by
  obtain ⟨c, h1, h2, G⟩ := hI.rg
  have e62 : J' 62 0 = J 62 0 := funext (fun i => e 62 0 i (by omega) (by omega) (by omega) (by omega) (by omega))
  have C := hI.cl
  refine qm_U_read (c := c) hI (fun r s i _ _ _ _ a b c d f _ => e r s i a b c d f) (fun _ _ _ _ _ => rfl) eR hR' z1 z2 ?_ (by rw [e62]; exact G) (by omega)
  rw [e62]
  exact ⟨(e 3 0 0 (by omega) (by omega) (by omega) (by omega) (by omega)).trans C.1, (e 3 0 1 (by omega) (by omega) (by omega) (by omega) (by omega)).trans C.2.1, (e 3 0 5 (by omega) (by omega) (by omega) (by omega) (by omega)).trans C.2.2.1, (e 2 0 5 (by omega) (by omega) (by omega) (by omega) (by omega)).trans C.2.2.2.1, (e 10 0 0 (by omega) (by omega) (by omega) (by omega) (by omega)).trans C.2.2.2.2.1, (e 10 0 1 (by omega) (by omega) (by omega) (by omega) (by omega)).trans C.2.2.2.2.2.1, (e 9 0 1 (by omega) (by omega) (by omega) (by omega) (by omega)).trans C.2.2.2.2.2.2.1, (e 9 0 2 (by omega) (by omega) (by omega) (by omega) (by omega)).trans C.2.2.2.2.2.2.2.1, C.2.2.2.2.2.2.2.2.1, C.2.2.2.2.2.2.2.2.2⟩
