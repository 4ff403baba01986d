/-! A DECK COPIED -/
def qm_tk (J : qm_J) (g y : Int) : Prop := y < 0 ∨ g = 0 ∨ (g = 1 ∧ (J 62 0 (26 + 3 * Int.toNat y) = 1 ∨ J 62 0 (26 + 3 * Int.toNat y) = 3)) ∨ (g = 2 ∧ J 62 0 (26 + 3 * Int.toNat y) = 2)
theorem qm_tk_u {T : Nat → Prop} {q r : Int} (hq : 0 ≤ q ∧ q ≤ 4) (hr : 0 ≤ r ∧ r ≤ 4) (a : ∀ i : Nat, 0 ≤ (i : Int) → (i : Int) < q → T i) (b : q = 4 ∨ ¬ T (Int.toNat q)) (c : ∀ i : Nat, 0 ≤ (i : Int) → (i : Int) < r → T i) (d : r = 4 ∨ ¬ T (Int.toNat r)) : q = r := by
  rcases Int.lt_trichotomy q r with h | h | h
  · rcases b with b | b
    · omega
    · exact absurd (c (Int.toNat q) (by omega) (by omega)) b
  · exact h
  · rcases d with d | d
    · omega
    · exact absurd (a (Int.toNat r) (by omega) (by omega)) d
theorem qm_d_cpd {S : List qm_Sh} {J K : qm_J} {L : qm_Ct Int64} {D : qm_Ct UInt64} {R : qm_Ct (Option qm_Rf)} {X : Nat × (Nat → Int32)} {k0 : Nat} {Q : Option qm_V → qm_Hp → Prop} {f g : Int} (hI : qm_Inv S J K L D R k0) (rf : 0 ≤ f ∧ f ≤ 2) (rg : 0 ≤ g ∧ g ≤ 2) : ∀ (m : Nat) (p : Int) (J' : qm_J), p + m = 4 → 0 ≤ p → (∀ r s i, r ≠ 8 → J' r s i = J r s i) → (∀ i : Nat, p ≤ (i : Int) → i < 4 → J' 8 (Int.toNat f + 1) i = J 8 (Int.toNat f + 1) i) → (∀ (q : Int) (J2 : qm_J), p ≤ q → q ≤ 4 → (∀ i : Nat, p ≤ (i : Int) → (i : Int) < q → qm_tk J g (J 62 0 (50 + 4 * Int.toNat f + i))) → (q = 4 ∨ ¬ qm_tk J g (J 62 0 (50 + 4 * Int.toNat f + Int.toNat q))) → (∀ r s i : Nat, ¬ (r = 8 ∧ s = Int.toNat g + 1 ∧ p ≤ (i : Int) ∧ (i : Int) < q) → J2 r s i = J' r s i) → (∀ i : Nat, p ≤ (i : Int) → (i : Int) < q → J2 8 (Int.toNat g + 1) i = J 8 (Int.toNat f + 1) i) → Q (some (qm_I (qm_i q))) (qm_H S J2 K L D R X)) → qm_G qm_P qm_P166 2 [(0, qm_R (some (0, 2, 0))), (1, qm_I (qm_i f)), (2, qm_I (qm_i g)), (3, qm_I (qm_i p))] [] (qm_H S J' K L D R X) Q := by
  have hS := hI.sd
  have hR := hI.rd
  intro m
  induction m with
  | zero =>
    intro p J' h1 h2 e ef k
    refine qm_G.pk (lv1 := [(0, qm_R (some (0, 2, 0))), (1, qm_I (qm_i f)), (2, qm_I (qm_i g)), (3, qm_I (qm_i p))]) rfl rfl rfl ?_
    refine qm_G.sp (lv1 := [(0, qm_R (some (0, 2, 0))), (1, qm_I (qm_i f)), (2, qm_I (qm_i g)), (3, qm_I (qm_i p))]) rfl rfl (qm_x_iload rfl) ?_
    refine qm_G.s1 rfl (qm_x_pushI 4 rfl) ?_
    refine qm_G.s1 rfl (qm_x_icmp_ge_t ⟨by omega, by omega⟩ ⟨by decide, by decide⟩ (by omega)) ?_
    refine qm_G.sp (lv1 := []) rfl rfl (qm_x_pushI 4 rfl) ?_
    exact qm_G.ret rfl rfl (k 4 J' (by omega) (by decide) (fun i a b => absurd a (by omega)) (Or.inl rfl) (fun _ _ _ _ => rfl) (fun i a b => absurd a (by omega)))
  | succ m ih =>
    intro p J' h1 h2 e ef k
    have dk := hI.mk.dek (Int.toNat f) (Int.toNat p) (by omega) (by omega)
    rcases dk with ⟨d1, d2⟩ | ⟨d1, d2, d3⟩
    · refine qm_G.pk (lv1 := [(0, qm_R (some (0, 2, 0))), (1, qm_I (qm_i f)), (2, qm_I (qm_i g)), (3, qm_I (qm_i p))]) rfl rfl rfl ?_
      refine qm_G.sp (lv1 := [(0, qm_R (some (0, 2, 0))), (1, qm_I (qm_i f)), (2, qm_I (qm_i g)), (3, qm_I (qm_i p))]) rfl rfl (qm_x_iload rfl) ?_
      refine qm_G.s1 rfl (qm_x_pushI 4 rfl) ?_
      refine qm_G.s1 rfl (qm_x_icmp_ge_f ⟨by omega, by omega⟩ ⟨by decide, by decide⟩ (by omega)) ?_
      refine qm_G.s1 rfl (qm_x_aload rfl) ?_
      refine qm_G.s1 rfl (qm_x_iload rfl) ?_
      refine qm_G.s1 rfl (qm_x_aload rfl) ?_
      refine qm_G.s1 rfl (qm_x_getfR (q := (some (0, 8, 0))) (hS 2 rfl) (hR 2 4 8 rfl rfl)) ?_
      refine qm_G.s1 rfl (qm_x_iload rfl) ?_
      refine qm_G.s1 rfl (qm_x_aaldg (hS 8 rfl) rfl rfl (by omega) (by omega)) ?_
      refine qm_G.s1 rfl (qm_x_iload rfl) ?_
      refine qm_G.s1 rfl (qm_x_iald (v := (J 8 (Int.toNat f + 1) (Int.toNat p))) (qm_arS hS rfl rfl) rfl (by omega) (by omega) (by omega) (ef _ (by omega) (by omega))) ?_
      refine qm_G.cm rfl rfl (hS 2 rfl) rfl ?_
      refine qm_C.go (cd := qm_P145) (lv := [(0, qm_R (some (0, 2, 0))), (1, qm_I (qm_i g)), (2, qm_I (qm_i (J 8 (Int.toNat f + 1) (Int.toNat p))))]) rfl rfl ?_
      refine qm_G.s1 rfl (qm_x_aload rfl) ?_
      refine qm_G.s1 rfl (qm_x_iload rfl) ?_
      refine qm_G.cm rfl rfl (hS 2 rfl) rfl ?_
      refine qm_C.go (cd := qm_P93) (lv := [(0, qm_R (some (0, 2, 0))), (1, qm_I (qm_i (J 8 (Int.toNat f + 1) (Int.toNat p))))]) rfl rfl ?_
      refine qm_G.s1 rfl (qm_x_iload rfl) ?_
      refine qm_G.s1 rfl (qm_x_pushI 0 rfl) ?_
      refine qm_G.s1 rfl (qm_x_aload rfl) ?_
      have f62_7 : 0 ≤ J 62 0 7 ∧ J 62 0 7 ≤ 8 := hI.mk.rrc
      have f2_3 : J 2 0 3 = J 62 0 7 := hI.mk.rc
      refine qm_G.s1 rfl (qm_x_getfI (v := (J 2 0 3)) (hS 2 rfl) (e 2 0 3 (by omega))) ?_
      refine qm_G.s1 rfl (qm_x_pushI 1 rfl) ?_
      refine qm_G.s1 rfl (qm_x_isub) ?_
      refine qm_G.cs rfl rfl rfl ?_
      refine qm_v_within10_f ⟨by omega, by omega⟩ ⟨by decide, by decide⟩ ⟨by omega, by omega⟩ (by omega) ⟨_, rfl, ?_⟩
      refine qm_G.s1 rfl (qm_x_if_eq_t ⟨by decide, by decide⟩ (by decide)) ?_
      refine qm_G.sp (lv1 := []) rfl rfl (qm_x_push) ?_
      refine qm_G.ret rfl rfl ⟨_, rfl, ?_⟩
      refine qm_G.s1 rfl (qm_x_astore (lv' := [(3, qm_R (none)), (0, qm_R (some (0, 2, 0))), (1, qm_I (qm_i g)), (2, qm_I (qm_i (J 8 (Int.toNat f + 1) (Int.toNat p))))]) rfl) ?_
      refine qm_G.s1 rfl (qm_x_aload rfl) ?_
      refine qm_G.s1 rfl (qm_x_ifnull0) ?_
      refine qm_G.sp (lv1 := []) rfl rfl (qm_x_pushI 1 rfl) ?_
      refine qm_G.ret rfl rfl ⟨_, rfl, ?_⟩
      refine qm_G.s1 rfl (qm_x_if_ne_t ⟨by decide, by decide⟩ (by decide)) ?_
      refine qm_G.sp (lv1 := [(0, qm_R (some (0, 2, 0))), (1, qm_I (qm_i f)), (2, qm_I (qm_i g)), (3, qm_I (qm_i p))]) rfl rfl (qm_x_aload rfl) ?_
      refine qm_G.s1 rfl (qm_x_getfR (q := (some (0, 8, 0))) (hS 2 rfl) (hR 2 4 8 rfl rfl)) ?_
      refine qm_G.s1 rfl (qm_x_iload rfl) ?_
      refine qm_G.s1 rfl (qm_x_aaldg (hS 8 rfl) rfl rfl (by omega) (by omega)) ?_
      refine qm_G.s1 rfl (qm_x_iload rfl) ?_
      refine qm_G.s1 rfl (qm_x_aload rfl) ?_
      refine qm_G.s1 rfl (qm_x_getfR (q := (some (0, 8, 0))) (hS 2 rfl) (hR 2 4 8 rfl rfl)) ?_
      refine qm_G.s1 rfl (qm_x_iload rfl) ?_
      refine qm_G.s1 rfl (qm_x_aaldg (hS 8 rfl) rfl rfl (by omega) (by omega)) ?_
      refine qm_G.s1 rfl (qm_x_iload rfl) ?_
      refine qm_G.s1 rfl (qm_x_iald (v := (J 8 (Int.toNat f + 1) (Int.toNat p))) (qm_arS hS rfl rfl) rfl (by omega) (by omega) (by omega) (ef _ (by omega) (by omega))) ?_
      refine qm_G.s1 rfl (qm_x_iast (qm_arS hS rfl rfl) rfl (by omega) (by omega) (by omega)) ?_
      refine qm_G.s1 rfl (qm_x_iinc (lv' := [(3, qm_I (qm_i (p + 1))), (0, qm_R (some (0, 2, 0))), (1, qm_I (qm_i f)), (2, qm_I (qm_i g))]) 1 rfl rfl rfl) ?_
      refine qm_G.s1 rfl (qm_x_goto) ?_
      refine qm_G.pk (lv1 := [(0, qm_R (some (0, 2, 0))), (1, qm_I (qm_i f)), (2, qm_I (qm_i g)), (3, qm_I (qm_i (p + 1)))]) rfl rfl rfl ?_
      have tp : qm_tk J g (J 62 0 (50 + 4 * Int.toNat f + Int.toNat p)) := (by unfold qm_tk; omega)
      refine ih (p + 1) (qm_set J' 8 (Int.toNat g + 1) (Int.toNat p) (J 8 (Int.toNat f + 1) (Int.toNat p))) (by omega) (by omega) (fun r s i h => by rw [qm_st_ne (by omega)]; exact e r s i h) (fun i a b => by rw [qm_st_ne (by omega)]; exact ef i (by omega) b) (fun q J2 a b c d e1 e2 => k q J2 (by omega) b (fun i h1 h2 => ?_) d (fun r s i h => by rw [e1 r s i (by omega), qm_st_ne (by omega)]) (fun i h1 h2 => ?_))
      · by_cases h : i = Int.toNat p
        · rw [h]; exact tp
        · exact c i (by omega) h2
      · by_cases h : i = Int.toNat p
        · rw [h, e1 8 (Int.toNat g + 1) (Int.toNat p) (by omega)]; exact qm_st_eq
        · exact e2 i (by omega) h2
    · have f62_7 : 0 ≤ J 62 0 7 ∧ J 62 0 7 ≤ 8 := hI.mk.rrc
      refine qm_G.pk (lv1 := [(0, qm_R (some (0, 2, 0))), (1, qm_I (qm_i f)), (2, qm_I (qm_i g)), (3, qm_I (qm_i p))]) rfl rfl rfl ?_
      refine qm_G.sp (lv1 := [(0, qm_R (some (0, 2, 0))), (1, qm_I (qm_i f)), (2, qm_I (qm_i g)), (3, qm_I (qm_i p))]) rfl rfl (qm_x_iload rfl) ?_
      refine qm_G.s1 rfl (qm_x_pushI 4 rfl) ?_
      refine qm_G.s1 rfl (qm_x_icmp_ge_f ⟨by omega, by omega⟩ ⟨by decide, by decide⟩ (by omega)) ?_
      refine qm_G.s1 rfl (qm_x_aload rfl) ?_
      refine qm_G.s1 rfl (qm_x_iload rfl) ?_
      refine qm_G.s1 rfl (qm_x_aload rfl) ?_
      refine qm_G.s1 rfl (qm_x_getfR (q := (some (0, 8, 0))) (hS 2 rfl) (hR 2 4 8 rfl rfl)) ?_
      refine qm_G.s1 rfl (qm_x_iload rfl) ?_
      refine qm_G.s1 rfl (qm_x_aaldg (hS 8 rfl) rfl rfl (by omega) (by omega)) ?_
      refine qm_G.s1 rfl (qm_x_iload rfl) ?_
      refine qm_G.s1 rfl (qm_x_iald (v := (J 8 (Int.toNat f + 1) (Int.toNat p))) (qm_arS hS rfl rfl) rfl (by omega) (by omega) (by omega) (ef _ (by omega) (by omega))) ?_
      refine qm_G.cm rfl rfl (hS 2 rfl) rfl ?_
      refine qm_C.go (cd := qm_P145) (lv := [(0, qm_R (some (0, 2, 0))), (1, qm_I (qm_i g)), (2, qm_I (qm_i (J 8 (Int.toNat f + 1) (Int.toNat p))))]) rfl rfl ?_
      refine qm_G.s1 rfl (qm_x_aload rfl) ?_
      refine qm_G.s1 rfl (qm_x_iload rfl) ?_
      refine qm_G.cm rfl rfl (hS 2 rfl) rfl ?_
      refine qm_C.go (cd := qm_P93) (lv := [(0, qm_R (some (0, 2, 0))), (1, qm_I (qm_i (J 8 (Int.toNat f + 1) (Int.toNat p))))]) rfl rfl ?_
      refine qm_G.s1 rfl (qm_x_iload rfl) ?_
      refine qm_G.s1 rfl (qm_x_pushI 0 rfl) ?_
      refine qm_G.s1 rfl (qm_x_aload rfl) ?_
      have f2_3 : J 2 0 3 = J 62 0 7 := hI.mk.rc
      refine qm_G.s1 rfl (qm_x_getfI (v := (J 2 0 3)) (hS 2 rfl) (e 2 0 3 (by omega))) ?_
      refine qm_G.s1 rfl (qm_x_pushI 1 rfl) ?_
      refine qm_G.s1 rfl (qm_x_isub) ?_
      refine qm_G.cs rfl rfl rfl ?_
      refine qm_v_within10_t ⟨by omega, by omega⟩ ⟨by decide, by decide⟩ ⟨by omega, by omega⟩ (by omega) ⟨_, rfl, ?_⟩
      refine qm_G.s1 rfl (qm_x_if_eq_f ⟨by decide, by decide⟩ (by decide)) ?_
      refine qm_G.s1 rfl (qm_x_aload rfl) ?_
      refine qm_G.s1 rfl (qm_x_getfR (q := (some (0, 7, 0))) (hS 2 rfl) (hR 2 2 7 rfl rfl)) ?_
      refine qm_G.s1 rfl (qm_x_iload rfl) ?_
      obtain ⟨q2, g3r, g3h, g3s, g3a, g3b, g3c, g3x, g3y, g3z⟩ := hI.mk.riv (Int.toNat (J 8 (Int.toNat f + 1) (Int.toNat p))) (by omega) (by omega)
      refine qm_G.s1 rfl (qm_x_aaldr (q := (some (0, q2, 0))) (hS 7 rfl) rfl rfl (by omega) (by omega) g3r) ?_
      refine qm_G.s1 rfl (qm_x_goto) ?_
      refine qm_G.ret rfl rfl ⟨_, rfl, ?_⟩
      refine qm_G.s1 rfl (qm_x_astore (lv' := [(3, qm_R (some (0, q2, 0))), (0, qm_R (some (0, 2, 0))), (1, qm_I (qm_i g)), (2, qm_I (qm_i (J 8 (Int.toNat f + 1) (Int.toNat p))))]) rfl) ?_
      refine qm_G.s1 rfl (qm_x_aload rfl) ?_
      refine qm_G.s1 rfl (qm_x_ifnull1) ?_
      refine qm_G.s1 rfl (qm_x_iload rfl) ?_
      refine qm_y_if_ne rfl ⟨by omega, by omega⟩ (fun c4 => ?_) (fun c4 => ?_)
      · refine qm_G.sp (lv1 := [(1, qm_I (qm_i g)), (3, qm_R (some (0, q2, 0)))]) rfl rfl (qm_x_iload rfl) ?_
        refine qm_G.s1 rfl (qm_x_pushI 1 rfl) ?_
        refine qm_y_icmp_ne rfl ⟨by omega, by omega⟩ ⟨by decide, by decide⟩ (fun c5 => ?_) (fun c5 => ?_)
        · refine qm_G.sp (lv1 := [(3, qm_R (some (0, q2, 0)))]) rfl rfl (qm_x_aload rfl) ?_
          refine qm_G.cm rfl rfl g3s rfl ?_
          refine qm_C.go (cd := qm_P47) (lv := [(0, qm_R (some (0, q2, 0)))]) rfl rfl ?_
          refine qm_G.s1 rfl (qm_x_aload rfl) ?_
          refine qm_G.s1 rfl (qm_x_getfI (v := (J q2 0 0)) g3s (e q2 0 0 (by omega))) ?_
          refine qm_G.s1 rfl (qm_x_pushI 2 rfl) ?_
          refine qm_y_icmp_ne rfl ⟨by omega, by omega⟩ ⟨by decide, by decide⟩ (fun c6 => ?_) (fun c6 => ?_)
          · refine qm_G.sp (lv1 := []) rfl rfl (qm_x_pushI 0 rfl) ?_
            refine qm_G.ret rfl rfl ⟨_, rfl, ?_⟩
            refine qm_G.ret rfl rfl ⟨_, rfl, ?_⟩
            refine qm_G.s1 rfl (qm_x_if_ne_f ⟨by decide, by decide⟩ (by decide)) ?_
            refine qm_G.s1 rfl (qm_x_iload rfl) ?_
            exact qm_G.ret rfl rfl (k p J' (by omega) (by omega) (fun i a b => absurd a (by omega)) (Or.inr (by unfold qm_tk; rw [← d1]; omega)) (fun _ _ _ _ => rfl) (fun i a b => absurd a (by omega)))
          · refine qm_G.s1 rfl (qm_x_pushI 1 rfl) ?_
            refine qm_G.s1 rfl (qm_x_goto) ?_
            refine qm_G.ret rfl rfl ⟨_, rfl, ?_⟩
            refine qm_G.ret rfl rfl ⟨_, rfl, ?_⟩
            refine qm_G.s1 rfl (qm_x_if_ne_t ⟨by decide, by decide⟩ (by decide)) ?_
            refine qm_G.sp (lv1 := [(0, qm_R (some (0, 2, 0))), (1, qm_I (qm_i f)), (2, qm_I (qm_i g)), (3, qm_I (qm_i p))]) rfl rfl (qm_x_aload rfl) ?_
            refine qm_G.s1 rfl (qm_x_getfR (q := (some (0, 8, 0))) (hS 2 rfl) (hR 2 4 8 rfl rfl)) ?_
            refine qm_G.s1 rfl (qm_x_iload rfl) ?_
            refine qm_G.s1 rfl (qm_x_aaldg (hS 8 rfl) rfl rfl (by omega) (by omega)) ?_
            refine qm_G.s1 rfl (qm_x_iload rfl) ?_
            refine qm_G.s1 rfl (qm_x_aload rfl) ?_
            refine qm_G.s1 rfl (qm_x_getfR (q := (some (0, 8, 0))) (hS 2 rfl) (hR 2 4 8 rfl rfl)) ?_
            refine qm_G.s1 rfl (qm_x_iload rfl) ?_
            refine qm_G.s1 rfl (qm_x_aaldg (hS 8 rfl) rfl rfl (by omega) (by omega)) ?_
            refine qm_G.s1 rfl (qm_x_iload rfl) ?_
            refine qm_G.s1 rfl (qm_x_iald (v := (J 8 (Int.toNat f + 1) (Int.toNat p))) (qm_arS hS rfl rfl) rfl (by omega) (by omega) (by omega) (ef _ (by omega) (by omega))) ?_
            refine qm_G.s1 rfl (qm_x_iast (qm_arS hS rfl rfl) rfl (by omega) (by omega) (by omega)) ?_
            refine qm_G.s1 rfl (qm_x_iinc (lv' := [(3, qm_I (qm_i (p + 1))), (0, qm_R (some (0, 2, 0))), (1, qm_I (qm_i f)), (2, qm_I (qm_i g))]) 1 rfl rfl rfl) ?_
            refine qm_G.s1 rfl (qm_x_goto) ?_
            refine qm_G.pk (lv1 := [(0, qm_R (some (0, 2, 0))), (1, qm_I (qm_i f)), (2, qm_I (qm_i g)), (3, qm_I (qm_i (p + 1)))]) rfl rfl rfl ?_
            have tp : qm_tk J g (J 62 0 (50 + 4 * Int.toNat f + Int.toNat p)) := (by unfold qm_tk; rw [← d1]; omega)
            refine ih (p + 1) (qm_set J' 8 (Int.toNat g + 1) (Int.toNat p) (J 8 (Int.toNat f + 1) (Int.toNat p))) (by omega) (by omega) (fun r s i h => by rw [qm_st_ne (by omega)]; exact e r s i h) (fun i a b => by rw [qm_st_ne (by omega)]; exact ef i (by omega) b) (fun q J2 a b c d e1 e2 => k q J2 (by omega) b (fun i h1 h2 => ?_) d (fun r s i h => by rw [e1 r s i (by omega), qm_st_ne (by omega)]) (fun i h1 h2 => ?_))
            · by_cases h : i = Int.toNat p
              · rw [h]; exact tp
              · exact c i (by omega) h2
            · by_cases h : i = Int.toNat p
              · rw [h, e1 8 (Int.toNat g + 1) (Int.toNat p) (by omega)]; exact qm_st_eq
              · exact e2 i (by omega) h2
        · refine qm_G.s1 rfl (qm_x_aload rfl) ?_
          refine qm_G.cm rfl rfl g3s rfl ?_
          refine qm_C.go (cd := qm_P46) (lv := [(0, qm_R (some (0, q2, 0)))]) rfl rfl ?_
          refine qm_G.s1 rfl (qm_x_aload rfl) ?_
          refine qm_G.s1 rfl (qm_x_getfI (v := (J q2 0 0)) g3s (e q2 0 0 (by omega))) ?_
          refine qm_G.s1 rfl (qm_x_pushI 1 rfl) ?_
          refine qm_y_icmp_eq rfl ⟨by omega, by omega⟩ ⟨by decide, by decide⟩ (fun c7 => ?_) (fun c7 => ?_)
          · refine qm_G.sp (lv1 := []) rfl rfl (qm_x_pushI 1 rfl) ?_
            refine qm_G.s1 rfl (qm_x_goto) ?_
            refine qm_G.ret rfl rfl ⟨_, rfl, ?_⟩
            refine qm_G.s1 rfl (qm_x_goto) ?_
            refine qm_G.ret rfl rfl ⟨_, rfl, ?_⟩
            refine qm_G.s1 rfl (qm_x_if_ne_t ⟨by decide, by decide⟩ (by decide)) ?_
            refine qm_G.sp (lv1 := [(0, qm_R (some (0, 2, 0))), (1, qm_I (qm_i f)), (2, qm_I (qm_i g)), (3, qm_I (qm_i p))]) rfl rfl (qm_x_aload rfl) ?_
            refine qm_G.s1 rfl (qm_x_getfR (q := (some (0, 8, 0))) (hS 2 rfl) (hR 2 4 8 rfl rfl)) ?_
            refine qm_G.s1 rfl (qm_x_iload rfl) ?_
            refine qm_G.s1 rfl (qm_x_aaldg (hS 8 rfl) rfl rfl (by omega) (by omega)) ?_
            refine qm_G.s1 rfl (qm_x_iload rfl) ?_
            refine qm_G.s1 rfl (qm_x_aload rfl) ?_
            refine qm_G.s1 rfl (qm_x_getfR (q := (some (0, 8, 0))) (hS 2 rfl) (hR 2 4 8 rfl rfl)) ?_
            refine qm_G.s1 rfl (qm_x_iload rfl) ?_
            refine qm_G.s1 rfl (qm_x_aaldg (hS 8 rfl) rfl rfl (by omega) (by omega)) ?_
            refine qm_G.s1 rfl (qm_x_iload rfl) ?_
            refine qm_G.s1 rfl (qm_x_iald (v := (J 8 (Int.toNat f + 1) (Int.toNat p))) (qm_arS hS rfl rfl) rfl (by omega) (by omega) (by omega) (ef _ (by omega) (by omega))) ?_
            refine qm_G.s1 rfl (qm_x_iast (qm_arS hS rfl rfl) rfl (by omega) (by omega) (by omega)) ?_
            refine qm_G.s1 rfl (qm_x_iinc (lv' := [(3, qm_I (qm_i (p + 1))), (0, qm_R (some (0, 2, 0))), (1, qm_I (qm_i f)), (2, qm_I (qm_i g))]) 1 rfl rfl rfl) ?_
            refine qm_G.s1 rfl (qm_x_goto) ?_
            refine qm_G.pk (lv1 := [(0, qm_R (some (0, 2, 0))), (1, qm_I (qm_i f)), (2, qm_I (qm_i g)), (3, qm_I (qm_i (p + 1)))]) rfl rfl rfl ?_
            have tp : qm_tk J g (J 62 0 (50 + 4 * Int.toNat f + Int.toNat p)) := (by unfold qm_tk; rw [← d1]; omega)
            refine ih (p + 1) (qm_set J' 8 (Int.toNat g + 1) (Int.toNat p) (J 8 (Int.toNat f + 1) (Int.toNat p))) (by omega) (by omega) (fun r s i h => by rw [qm_st_ne (by omega)]; exact e r s i h) (fun i a b => by rw [qm_st_ne (by omega)]; exact ef i (by omega) b) (fun q J2 a b c d e1 e2 => k q J2 (by omega) b (fun i h1 h2 => ?_) d (fun r s i h => by rw [e1 r s i (by omega), qm_st_ne (by omega)]) (fun i h1 h2 => ?_))
            · by_cases h : i = Int.toNat p
              · rw [h]; exact tp
              · exact c i (by omega) h2
            · by_cases h : i = Int.toNat p
              · rw [h, e1 8 (Int.toNat g + 1) (Int.toNat p) (by omega)]; exact qm_st_eq
              · exact e2 i (by omega) h2
          · refine qm_G.s1 rfl (qm_x_aload rfl) ?_
            refine qm_G.s1 rfl (qm_x_getfI (v := (J q2 0 0)) g3s (e q2 0 0 (by omega))) ?_
            refine qm_G.s1 rfl (qm_x_pushI 3 rfl) ?_
            refine qm_y_icmp_ne rfl ⟨by omega, by omega⟩ ⟨by decide, by decide⟩ (fun c8 => ?_) (fun c8 => ?_)
            · refine qm_G.sp (lv1 := []) rfl rfl (qm_x_pushI 0 rfl) ?_
              refine qm_G.ret rfl rfl ⟨_, rfl, ?_⟩
              refine qm_G.s1 rfl (qm_x_goto) ?_
              refine qm_G.ret rfl rfl ⟨_, rfl, ?_⟩
              refine qm_G.s1 rfl (qm_x_if_ne_f ⟨by decide, by decide⟩ (by decide)) ?_
              refine qm_G.s1 rfl (qm_x_iload rfl) ?_
              exact qm_G.ret rfl rfl (k p J' (by omega) (by omega) (fun i a b => absurd a (by omega)) (Or.inr (by unfold qm_tk; rw [← d1]; omega)) (fun _ _ _ _ => rfl) (fun i a b => absurd a (by omega)))
            · refine qm_G.sp (lv1 := []) rfl rfl (qm_x_pushI 1 rfl) ?_
              refine qm_G.s1 rfl (qm_x_goto) ?_
              refine qm_G.ret rfl rfl ⟨_, rfl, ?_⟩
              refine qm_G.s1 rfl (qm_x_goto) ?_
              refine qm_G.ret rfl rfl ⟨_, rfl, ?_⟩
              refine qm_G.s1 rfl (qm_x_if_ne_t ⟨by decide, by decide⟩ (by decide)) ?_
              refine qm_G.sp (lv1 := [(0, qm_R (some (0, 2, 0))), (1, qm_I (qm_i f)), (2, qm_I (qm_i g)), (3, qm_I (qm_i p))]) rfl rfl (qm_x_aload rfl) ?_
              refine qm_G.s1 rfl (qm_x_getfR (q := (some (0, 8, 0))) (hS 2 rfl) (hR 2 4 8 rfl rfl)) ?_
              refine qm_G.s1 rfl (qm_x_iload rfl) ?_
              refine qm_G.s1 rfl (qm_x_aaldg (hS 8 rfl) rfl rfl (by omega) (by omega)) ?_
              refine qm_G.s1 rfl (qm_x_iload rfl) ?_
              refine qm_G.s1 rfl (qm_x_aload rfl) ?_
              refine qm_G.s1 rfl (qm_x_getfR (q := (some (0, 8, 0))) (hS 2 rfl) (hR 2 4 8 rfl rfl)) ?_
              refine qm_G.s1 rfl (qm_x_iload rfl) ?_
              refine qm_G.s1 rfl (qm_x_aaldg (hS 8 rfl) rfl rfl (by omega) (by omega)) ?_
              refine qm_G.s1 rfl (qm_x_iload rfl) ?_
              refine qm_G.s1 rfl (qm_x_iald (v := (J 8 (Int.toNat f + 1) (Int.toNat p))) (qm_arS hS rfl rfl) rfl (by omega) (by omega) (by omega) (ef _ (by omega) (by omega))) ?_
              refine qm_G.s1 rfl (qm_x_iast (qm_arS hS rfl rfl) rfl (by omega) (by omega) (by omega)) ?_
              refine qm_G.s1 rfl (qm_x_iinc (lv' := [(3, qm_I (qm_i (p + 1))), (0, qm_R (some (0, 2, 0))), (1, qm_I (qm_i f)), (2, qm_I (qm_i g))]) 1 rfl rfl rfl) ?_
              refine qm_G.s1 rfl (qm_x_goto) ?_
              refine qm_G.pk (lv1 := [(0, qm_R (some (0, 2, 0))), (1, qm_I (qm_i f)), (2, qm_I (qm_i g)), (3, qm_I (qm_i (p + 1)))]) rfl rfl rfl ?_
              have tp : qm_tk J g (J 62 0 (50 + 4 * Int.toNat f + Int.toNat p)) := (by unfold qm_tk; rw [← d1]; omega)
              refine ih (p + 1) (qm_set J' 8 (Int.toNat g + 1) (Int.toNat p) (J 8 (Int.toNat f + 1) (Int.toNat p))) (by omega) (by omega) (fun r s i h => by rw [qm_st_ne (by omega)]; exact e r s i h) (fun i a b => by rw [qm_st_ne (by omega)]; exact ef i (by omega) b) (fun q J2 a b c d e1 e2 => k q J2 (by omega) b (fun i h1 h2 => ?_) d (fun r s i h => by rw [e1 r s i (by omega), qm_st_ne (by omega)]) (fun i h1 h2 => ?_))
              · by_cases h : i = Int.toNat p
                · rw [h]; exact tp
                · exact c i (by omega) h2
              · by_cases h : i = Int.toNat p
                · rw [h, e1 8 (Int.toNat g + 1) (Int.toNat p) (by omega)]; exact qm_st_eq
                · exact e2 i (by omega) h2
      · refine qm_G.sp (lv1 := []) rfl rfl (qm_x_pushI 1 rfl) ?_
        refine qm_G.ret rfl rfl ⟨_, rfl, ?_⟩
        refine qm_G.s1 rfl (qm_x_if_ne_t ⟨by decide, by decide⟩ (by decide)) ?_
        refine qm_G.sp (lv1 := [(0, qm_R (some (0, 2, 0))), (1, qm_I (qm_i f)), (2, qm_I (qm_i g)), (3, qm_I (qm_i p))]) rfl rfl (qm_x_aload rfl) ?_
        refine qm_G.s1 rfl (qm_x_getfR (q := (some (0, 8, 0))) (hS 2 rfl) (hR 2 4 8 rfl rfl)) ?_
        refine qm_G.s1 rfl (qm_x_iload rfl) ?_
        refine qm_G.s1 rfl (qm_x_aaldg (hS 8 rfl) rfl rfl (by omega) (by omega)) ?_
        refine qm_G.s1 rfl (qm_x_iload rfl) ?_
        refine qm_G.s1 rfl (qm_x_aload rfl) ?_
        refine qm_G.s1 rfl (qm_x_getfR (q := (some (0, 8, 0))) (hS 2 rfl) (hR 2 4 8 rfl rfl)) ?_
        refine qm_G.s1 rfl (qm_x_iload rfl) ?_
        refine qm_G.s1 rfl (qm_x_aaldg (hS 8 rfl) rfl rfl (by omega) (by omega)) ?_
        refine qm_G.s1 rfl (qm_x_iload rfl) ?_
        refine qm_G.s1 rfl (qm_x_iald (v := (J 8 (Int.toNat f + 1) (Int.toNat p))) (qm_arS hS rfl rfl) rfl (by omega) (by omega) (by omega) (ef _ (by omega) (by omega))) ?_
        refine qm_G.s1 rfl (qm_x_iast (qm_arS hS rfl rfl) rfl (by omega) (by omega) (by omega)) ?_
        refine qm_G.s1 rfl (qm_x_iinc (lv' := [(3, qm_I (qm_i (p + 1))), (0, qm_R (some (0, 2, 0))), (1, qm_I (qm_i f)), (2, qm_I (qm_i g))]) 1 rfl rfl rfl) ?_
        refine qm_G.s1 rfl (qm_x_goto) ?_
        refine qm_G.pk (lv1 := [(0, qm_R (some (0, 2, 0))), (1, qm_I (qm_i f)), (2, qm_I (qm_i g)), (3, qm_I (qm_i (p + 1)))]) rfl rfl rfl ?_
        have tp : qm_tk J g (J 62 0 (50 + 4 * Int.toNat f + Int.toNat p)) := (by unfold qm_tk; rw [← d1]; omega)
        refine ih (p + 1) (qm_set J' 8 (Int.toNat g + 1) (Int.toNat p) (J 8 (Int.toNat f + 1) (Int.toNat p))) (by omega) (by omega) (fun r s i h => by rw [qm_st_ne (by omega)]; exact e r s i h) (fun i a b => by rw [qm_st_ne (by omega)]; exact ef i (by omega) b) (fun q J2 a b c d e1 e2 => k q J2 (by omega) b (fun i h1 h2 => ?_) d (fun r s i h => by rw [e1 r s i (by omega), qm_st_ne (by omega)]) (fun i h1 h2 => ?_))
        · by_cases h : i = Int.toNat p
          · rw [h]; exact tp
          · exact c i (by omega) h2
        · by_cases h : i = Int.toNat p
          · rw [h, e1 8 (Int.toNat g + 1) (Int.toNat p) (by omega)]; exact qm_st_eq
          · exact e2 i (by omega) h2
theorem qm_m_cpd {S : List qm_Sh} {J K : qm_J} {L : qm_Ct Int64} {D : qm_Ct UInt64} {R : qm_Ct (Option qm_Rf)} {X : Nat × (Nat → Int32)} {k0 : Nat} {Q : Option qm_V → qm_Hp → Prop} {f g : Int} (hI : qm_Inv S J K L D R k0) (rf : 0 ≤ f ∧ f ≤ 2) (rg : 0 ≤ g ∧ g ≤ 2) : ∀ (m : Nat) (p : Int) (J' : qm_J), p + m = 4 → 0 ≤ p → (∀ r s i, r ≠ 8 → ¬ (r = 62 ∧ 50 ≤ i ∧ i < 62) → J' r s i = J r s i) → (∀ i : Nat, p ≤ (i : Int) → i < 4 → J' 62 0 (50 + 4 * Int.toNat f + i) = J 62 0 (50 + 4 * Int.toNat f + i)) → (∀ (q : Int) (J2 : qm_J), p ≤ q → q ≤ 4 → (∀ i : Nat, p ≤ (i : Int) → (i : Int) < q → qm_tk J g (J 62 0 (50 + 4 * Int.toNat f + i))) → (q = 4 ∨ ¬ qm_tk J g (J 62 0 (50 + 4 * Int.toNat f + Int.toNat q))) → (∀ r s i : Nat, ¬ (r = 62 ∧ s = 0 ∧ (50 + 4 * g + p ≤ (i : Int)) ∧ (i : Int) < 50 + 4 * g + q) → J2 r s i = J' r s i) → (∀ i : Nat, p ≤ (i : Int) → (i : Int) < q → J2 62 0 (50 + 4 * Int.toNat g + i) = J 62 0 (50 + 4 * Int.toNat f + i)) → Q (some (qm_I (qm_i q))) (qm_H S J2 K L D R X)) → qm_G qm_P qm_P124 18 [(0, qm_R (some (0, 61, 0))), (1, qm_I (qm_i f)), (2, qm_I (qm_i g)), (3, qm_I (qm_i p))] [] (qm_H S J' K L D R X) Q := by
  have hS := hI.sd
  have hR := hI.rd
  intro m
  induction m with
  | zero =>
    intro p J' h1 h2 e ef k
    have e2 : ∀ r s i, (r ≠ 8 ∧ ¬ (r = 62 ∧ 50 ≤ i ∧ i < 62)) → J' r s i = J r s i := fun r s i h => e r s i h.1 h.2
    refine qm_G.pk (lv1 := [(0, qm_R (some (0, 61, 0))), (1, qm_I (qm_i f)), (2, qm_I (qm_i g)), (3, qm_I (qm_i p))]) rfl rfl rfl ?_
    refine qm_G.sp (lv1 := [(0, qm_R (some (0, 61, 0))), (1, qm_I (qm_i f)), (2, qm_I (qm_i g)), (3, qm_I (qm_i p))]) rfl rfl (qm_x_iload rfl) ?_
    refine qm_G.s1 rfl (qm_x_pushI 4 rfl) ?_
    refine qm_G.s1 rfl (qm_x_icmp_ge_t ⟨by omega, by omega⟩ ⟨by decide, by decide⟩ (by omega)) ?_
    refine qm_G.sp (lv1 := []) rfl rfl (qm_x_pushI 4 rfl) ?_
    exact qm_G.ret rfl rfl (k 4 J' (by omega) (by decide) (fun i a b => absurd a (by omega)) (Or.inl rfl) (fun _ _ _ _ => rfl) (fun i a b => absurd a (by omega)))
  | succ m ih =>
    intro p J' h1 h2 e ef k
    have e2 : ∀ r s i, (r ≠ 8 ∧ ¬ (r = 62 ∧ 50 ≤ i ∧ i < 62)) → J' r s i = J r s i := fun r s i h => e r s i h.1 h.2
    have dk := hI.mk.dek (Int.toNat f) (Int.toNat p) (by omega) (by omega)
    rcases dk with ⟨d1, d2⟩ | ⟨d1, d2, d3⟩
    · refine qm_G.pk (lv1 := [(0, qm_R (some (0, 61, 0))), (1, qm_I (qm_i f)), (2, qm_I (qm_i g)), (3, qm_I (qm_i p))]) rfl rfl rfl ?_
      refine qm_G.sp (lv1 := [(0, qm_R (some (0, 61, 0))), (1, qm_I (qm_i f)), (2, qm_I (qm_i g)), (3, qm_I (qm_i p))]) rfl rfl (qm_x_iload rfl) ?_
      refine qm_G.s1 rfl (qm_x_pushI 4 rfl) ?_
      refine qm_G.s1 rfl (qm_x_icmp_ge_f ⟨by omega, by omega⟩ ⟨by decide, by decide⟩ (by omega)) ?_
      refine qm_G.s1 rfl (qm_x_aload rfl) ?_
      refine qm_G.s1 rfl (qm_x_getfR (q := (some (0, 62, 0))) (hS 61 rfl) (hR 61 0 62 rfl rfl)) ?_
      refine qm_G.s1 rfl (qm_x_pushI 50 rfl) ?_
      refine qm_G.s1 rfl (qm_x_pushI 4 rfl) ?_
      refine qm_G.s1 rfl (qm_x_iload rfl) ?_
      refine qm_G.s1 rfl (qm_x_imul) ?_
      refine qm_G.s1 rfl (qm_x_iadd) ?_
      refine qm_G.s1 rfl (qm_x_iload rfl) ?_
      refine qm_G.s1 rfl (qm_x_iadd) ?_
      refine qm_G.s1 rfl (qm_x_iald (v := (J 62 0 (50 + 4 * Int.toNat f + Int.toNat p))) (qm_arS hS rfl rfl) rfl (by omega) (by omega) (by decide) (Eq.trans (congrArg (J' 62 0) (by omega)) (ef (Int.toNat p) (by omega) (by omega)))) ?_
      refine qm_G.s1 rfl (qm_x_istore (lv' := [(4, qm_I (qm_i (J 62 0 (50 + 4 * Int.toNat f + Int.toNat p)))), (0, qm_R (some (0, 61, 0))), (1, qm_I (qm_i f)), (2, qm_I (qm_i g)), (3, qm_I (qm_i p))]) rfl) ?_
      refine qm_G.s1 rfl (qm_x_aload rfl) ?_
      refine qm_G.s1 rfl (qm_x_iload rfl) ?_
      refine qm_G.s1 rfl (qm_x_iload rfl) ?_
      refine qm_G.cm rfl rfl (hS 61 rfl) rfl ?_
      refine qm_C.go (cd := qm_P26) (lv := [(0, qm_R (some (0, 61, 0))), (1, qm_I (qm_i g)), (2, qm_I (qm_i (J 62 0 (50 + 4 * Int.toNat f + Int.toNat p))))]) rfl rfl ?_
      refine qm_G.s1 rfl (qm_x_iload rfl) ?_
      refine qm_G.s1 rfl (qm_x_if_lt_t ⟨by omega, by omega⟩ (by omega)) ?_
      refine qm_G.sp (lv1 := []) rfl rfl (qm_x_pushI 1 rfl) ?_
      refine qm_G.ret rfl rfl ⟨_, rfl, ?_⟩
      refine qm_G.s1 rfl (qm_x_if_ne_t ⟨by decide, by decide⟩ (by decide)) ?_
      refine qm_G.sp (lv1 := [(0, qm_R (some (0, 61, 0))), (1, qm_I (qm_i f)), (2, qm_I (qm_i g)), (3, qm_I (qm_i p)), (4, qm_I (qm_i (J 62 0 (50 + 4 * Int.toNat f + Int.toNat p))))]) rfl rfl (qm_x_aload rfl) ?_
      refine qm_G.s1 rfl (qm_x_getfR (q := (some (0, 62, 0))) (hS 61 rfl) (hR 61 0 62 rfl rfl)) ?_
      refine qm_G.s1 rfl (qm_x_pushI 50 rfl) ?_
      refine qm_G.s1 rfl (qm_x_pushI 4 rfl) ?_
      refine qm_G.s1 rfl (qm_x_iload rfl) ?_
      refine qm_G.s1 rfl (qm_x_imul) ?_
      refine qm_G.s1 rfl (qm_x_iadd) ?_
      refine qm_G.s1 rfl (qm_x_iload rfl) ?_
      refine qm_G.s1 rfl (qm_x_iadd) ?_
      refine qm_G.s1 rfl (qm_x_iload rfl) ?_
      refine qm_G.s1 rfl (qm_x_iast (qm_arS hS rfl rfl) rfl (by omega) (by omega) (by decide)) ?_
      refine qm_G.s1 rfl (qm_x_iinc (lv' := [(3, qm_I (qm_i (p + 1))), (0, qm_R (some (0, 61, 0))), (1, qm_I (qm_i f)), (2, qm_I (qm_i g)), (4, qm_I (qm_i (J 62 0 (50 + 4 * Int.toNat f + Int.toNat p))))]) 1 rfl rfl rfl) ?_
      refine qm_G.s1 rfl (qm_x_goto) ?_
      refine qm_G.pk (lv1 := [(0, qm_R (some (0, 61, 0))), (1, qm_I (qm_i f)), (2, qm_I (qm_i g)), (3, qm_I (qm_i (p + 1)))]) rfl rfl rfl ?_
      have tp : qm_tk J g (J 62 0 (50 + 4 * Int.toNat f + Int.toNat p)) := (by unfold qm_tk; omega)
      rw [show (Int.toNat ((50 + (4 * g)) + p)) = 50 + 4 * Int.toNat g + Int.toNat p by omega]
      refine ih (p + 1) (qm_set J' 62 0 (50 + 4 * Int.toNat g + Int.toNat p) (J 62 0 (50 + 4 * Int.toNat f + Int.toNat p))) (by omega) (by omega) (fun r s i h h' => by rw [qm_st_ne (by omega)]; exact e r s i h h') (fun i a b => ?_) (fun q J2 a b c d e1 e2 => k q J2 (by omega) b (fun i h1 h2 => ?_) d (fun r s i h => by rw [e1 r s i (by omega), qm_st_ne (by omega)]) (fun i h1 h2 => ?_))
      · by_cases h : 50 + 4 * Int.toNat f + i = 50 + 4 * Int.toNat g + Int.toNat p
        · exact absurd h (by omega)
        · rw [qm_st_ne (by omega)]; exact ef i (by omega) b
      · by_cases h : i = Int.toNat p
        · rw [h]; exact tp
        · exact c i (by omega) h2
      · by_cases h : i = Int.toNat p
        · rw [h, e1 62 0 (50 + 4 * Int.toNat g + Int.toNat p) (by omega)]; exact qm_st_eq
        · exact e2 i (by omega) h2
    · have f62_7 : 0 ≤ J 62 0 7 ∧ J 62 0 7 ≤ 8 := hI.mk.rrc
      have kd := hI.mk.riv (Int.toNat (J 62 0 (50 + 4 * Int.toNat f + Int.toNat p))) (by omega) (by omega)
      have kd2 : 0 ≤ J 62 0 (26 + 3 * Int.toNat (J 62 0 (50 + 4 * Int.toNat f + Int.toNat p))) ∧ J 62 0 (26 + 3 * Int.toNat (J 62 0 (50 + 4 * Int.toNat f + Int.toNat p))) ≤ 3 := by obtain ⟨_, _, _, _, _, _, _, h, _⟩ := kd; exact h
      refine qm_G.pk (lv1 := [(0, qm_R (some (0, 61, 0))), (1, qm_I (qm_i f)), (2, qm_I (qm_i g)), (3, qm_I (qm_i p))]) rfl rfl rfl ?_
      refine qm_G.sp (lv1 := [(0, qm_R (some (0, 61, 0))), (1, qm_I (qm_i f)), (2, qm_I (qm_i g)), (3, qm_I (qm_i p))]) rfl rfl (qm_x_iload rfl) ?_
      refine qm_G.s1 rfl (qm_x_pushI 4 rfl) ?_
      refine qm_G.s1 rfl (qm_x_icmp_ge_f ⟨by omega, by omega⟩ ⟨by decide, by decide⟩ (by omega)) ?_
      refine qm_G.s1 rfl (qm_x_aload rfl) ?_
      refine qm_G.s1 rfl (qm_x_getfR (q := (some (0, 62, 0))) (hS 61 rfl) (hR 61 0 62 rfl rfl)) ?_
      refine qm_G.s1 rfl (qm_x_pushI 50 rfl) ?_
      refine qm_G.s1 rfl (qm_x_pushI 4 rfl) ?_
      refine qm_G.s1 rfl (qm_x_iload rfl) ?_
      refine qm_G.s1 rfl (qm_x_imul) ?_
      refine qm_G.s1 rfl (qm_x_iadd) ?_
      refine qm_G.s1 rfl (qm_x_iload rfl) ?_
      refine qm_G.s1 rfl (qm_x_iadd) ?_
      refine qm_G.s1 rfl (qm_x_iald (v := (J 62 0 (50 + 4 * Int.toNat f + Int.toNat p))) (qm_arS hS rfl rfl) rfl (by omega) (by omega) (by decide) (Eq.trans (congrArg (J' 62 0) (by omega)) (ef (Int.toNat p) (by omega) (by omega)))) ?_
      refine qm_G.s1 rfl (qm_x_istore (lv' := [(4, qm_I (qm_i (J 62 0 (50 + 4 * Int.toNat f + Int.toNat p)))), (0, qm_R (some (0, 61, 0))), (1, qm_I (qm_i f)), (2, qm_I (qm_i g)), (3, qm_I (qm_i p))]) rfl) ?_
      refine qm_G.s1 rfl (qm_x_aload rfl) ?_
      refine qm_G.s1 rfl (qm_x_iload rfl) ?_
      refine qm_G.s1 rfl (qm_x_iload rfl) ?_
      refine qm_G.cm rfl rfl (hS 61 rfl) rfl ?_
      refine qm_C.go (cd := qm_P26) (lv := [(0, qm_R (some (0, 61, 0))), (1, qm_I (qm_i g)), (2, qm_I (qm_i (J 62 0 (50 + 4 * Int.toNat f + Int.toNat p))))]) rfl rfl ?_
      refine qm_G.s1 rfl (qm_x_iload rfl) ?_
      refine qm_G.s1 rfl (qm_x_if_lt_f ⟨by omega, by omega⟩ (by omega)) ?_
      refine qm_G.s1 rfl (qm_x_iload rfl) ?_
      refine qm_y_if_ne rfl ⟨by omega, by omega⟩ (fun c1 => ?_) (fun c1 => ?_)
      · refine qm_G.sp (lv1 := [(0, qm_R (some (0, 61, 0))), (1, qm_I (qm_i g)), (2, qm_I (qm_i (J 62 0 (50 + 4 * Int.toNat f + Int.toNat p))))]) rfl rfl (qm_x_aload rfl) ?_
        refine qm_G.s1 rfl (qm_x_getfR (q := (some (0, 62, 0))) (hS 61 rfl) (hR 61 0 62 rfl rfl)) ?_
        refine qm_G.s1 rfl (qm_x_pushI 26 rfl) ?_
        refine qm_G.s1 rfl (qm_x_pushI 3 rfl) ?_
        refine qm_G.s1 rfl (qm_x_iload rfl) ?_
        refine qm_G.s1 rfl (qm_x_imul) ?_
        refine qm_G.s1 rfl (qm_x_iadd) ?_
        refine qm_G.s1 rfl (qm_x_iald (v := (J 62 0 (26 + 3 * Int.toNat (J 62 0 (50 + 4 * Int.toNat f + Int.toNat p))))) (qm_arS hS rfl rfl) rfl (by omega) (by omega) (by decide) (Eq.trans (Eq.trans (congrArg (J' 62 0) (by omega)) (e2 62 0 (Int.toNat (3 * J 62 0 (50 + 4 * Int.toNat f + Int.toNat p) + 26)) (by omega))) (congrArg (J 62 0) (by omega)))) ?_
        refine qm_G.s1 rfl (qm_x_istore (lv' := [(3, qm_I (qm_i (J 62 0 (26 + 3 * Int.toNat (J 62 0 (50 + 4 * Int.toNat f + Int.toNat p)))))), (0, qm_R (some (0, 61, 0))), (1, qm_I (qm_i g)), (2, qm_I (qm_i (J 62 0 (50 + 4 * Int.toNat f + Int.toNat p))))]) rfl) ?_
        refine qm_G.s1 rfl (qm_x_iload rfl) ?_
        refine qm_G.s1 rfl (qm_x_pushI 1 rfl) ?_
        refine qm_y_icmp_ne rfl ⟨by omega, by omega⟩ ⟨by decide, by decide⟩ (fun c2 => ?_) (fun c2 => ?_)
        · refine qm_G.sp (lv1 := [(3, qm_I (qm_i (J 62 0 (26 + 3 * Int.toNat (J 62 0 (50 + 4 * Int.toNat f + Int.toNat p))))))]) rfl rfl (qm_x_iload rfl) ?_
          refine qm_G.s1 rfl (qm_x_pushI 2 rfl) ?_
          refine qm_y_icmp_ne rfl ⟨by omega, by omega⟩ ⟨by decide, by decide⟩ (fun c3 => ?_) (fun c3 => ?_)
          · refine qm_G.sp (lv1 := []) rfl rfl (qm_x_pushI 0 rfl) ?_
            refine qm_G.ret rfl rfl ⟨_, rfl, ?_⟩
            refine qm_G.s1 rfl (qm_x_if_ne_f ⟨by decide, by decide⟩ (by decide)) ?_
            refine qm_G.s1 rfl (qm_x_iload rfl) ?_
            exact qm_G.ret rfl rfl (k p J' (by omega) (by omega) (fun i a b => absurd a (by omega)) (Or.inr (by unfold qm_tk; omega)) (fun _ _ _ _ => rfl) (fun i a b => absurd a (by omega)))
          · refine qm_G.s1 rfl (qm_x_pushI 1 rfl) ?_
            refine qm_G.s1 rfl (qm_x_goto) ?_
            refine qm_G.ret rfl rfl ⟨_, rfl, ?_⟩
            refine qm_G.s1 rfl (qm_x_if_ne_t ⟨by decide, by decide⟩ (by decide)) ?_
            refine qm_G.sp (lv1 := [(0, qm_R (some (0, 61, 0))), (1, qm_I (qm_i f)), (2, qm_I (qm_i g)), (3, qm_I (qm_i p)), (4, qm_I (qm_i (J 62 0 (50 + 4 * Int.toNat f + Int.toNat p))))]) rfl rfl (qm_x_aload rfl) ?_
            refine qm_G.s1 rfl (qm_x_getfR (q := (some (0, 62, 0))) (hS 61 rfl) (hR 61 0 62 rfl rfl)) ?_
            refine qm_G.s1 rfl (qm_x_pushI 50 rfl) ?_
            refine qm_G.s1 rfl (qm_x_pushI 4 rfl) ?_
            refine qm_G.s1 rfl (qm_x_iload rfl) ?_
            refine qm_G.s1 rfl (qm_x_imul) ?_
            refine qm_G.s1 rfl (qm_x_iadd) ?_
            refine qm_G.s1 rfl (qm_x_iload rfl) ?_
            refine qm_G.s1 rfl (qm_x_iadd) ?_
            refine qm_G.s1 rfl (qm_x_iload rfl) ?_
            refine qm_G.s1 rfl (qm_x_iast (qm_arS hS rfl rfl) rfl (by omega) (by omega) (by decide)) ?_
            refine qm_G.s1 rfl (qm_x_iinc (lv' := [(3, qm_I (qm_i (p + 1))), (0, qm_R (some (0, 61, 0))), (1, qm_I (qm_i f)), (2, qm_I (qm_i g)), (4, qm_I (qm_i (J 62 0 (50 + 4 * Int.toNat f + Int.toNat p))))]) 1 rfl rfl rfl) ?_
            refine qm_G.s1 rfl (qm_x_goto) ?_
            refine qm_G.pk (lv1 := [(0, qm_R (some (0, 61, 0))), (1, qm_I (qm_i f)), (2, qm_I (qm_i g)), (3, qm_I (qm_i (p + 1)))]) rfl rfl rfl ?_
            have tp : qm_tk J g (J 62 0 (50 + 4 * Int.toNat f + Int.toNat p)) := (by unfold qm_tk; omega)
            rw [show (Int.toNat ((50 + (4 * g)) + p)) = 50 + 4 * Int.toNat g + Int.toNat p by omega]
            refine ih (p + 1) (qm_set J' 62 0 (50 + 4 * Int.toNat g + Int.toNat p) (J 62 0 (50 + 4 * Int.toNat f + Int.toNat p))) (by omega) (by omega) (fun r s i h h' => by rw [qm_st_ne (by omega)]; exact e r s i h h') (fun i a b => ?_) (fun q J2 a b c d e1 e2 => k q J2 (by omega) b (fun i h1 h2 => ?_) d (fun r s i h => by rw [e1 r s i (by omega), qm_st_ne (by omega)]) (fun i h1 h2 => ?_))
            · by_cases h : 50 + 4 * Int.toNat f + i = 50 + 4 * Int.toNat g + Int.toNat p
              · exact absurd h (by omega)
              · rw [qm_st_ne (by omega)]; exact ef i (by omega) b
            · by_cases h : i = Int.toNat p
              · rw [h]; exact tp
              · exact c i (by omega) h2
            · by_cases h : i = Int.toNat p
              · rw [h, e1 62 0 (50 + 4 * Int.toNat g + Int.toNat p) (by omega)]; exact qm_st_eq
              · exact e2 i (by omega) h2
        · refine qm_G.s1 rfl (qm_x_iload rfl) ?_
          refine qm_G.s1 rfl (qm_x_pushI 1 rfl) ?_
          refine qm_y_icmp_eq rfl ⟨by omega, by omega⟩ ⟨by decide, by decide⟩ (fun c4 => ?_) (fun c4 => ?_)
          · refine qm_G.sp (lv1 := []) rfl rfl (qm_x_pushI 1 rfl) ?_
            refine qm_G.s1 rfl (qm_x_goto) ?_
            refine qm_G.ret rfl rfl ⟨_, rfl, ?_⟩
            refine qm_G.s1 rfl (qm_x_if_ne_t ⟨by decide, by decide⟩ (by decide)) ?_
            refine qm_G.sp (lv1 := [(0, qm_R (some (0, 61, 0))), (1, qm_I (qm_i f)), (2, qm_I (qm_i g)), (3, qm_I (qm_i p)), (4, qm_I (qm_i (J 62 0 (50 + 4 * Int.toNat f + Int.toNat p))))]) rfl rfl (qm_x_aload rfl) ?_
            refine qm_G.s1 rfl (qm_x_getfR (q := (some (0, 62, 0))) (hS 61 rfl) (hR 61 0 62 rfl rfl)) ?_
            refine qm_G.s1 rfl (qm_x_pushI 50 rfl) ?_
            refine qm_G.s1 rfl (qm_x_pushI 4 rfl) ?_
            refine qm_G.s1 rfl (qm_x_iload rfl) ?_
            refine qm_G.s1 rfl (qm_x_imul) ?_
            refine qm_G.s1 rfl (qm_x_iadd) ?_
            refine qm_G.s1 rfl (qm_x_iload rfl) ?_
            refine qm_G.s1 rfl (qm_x_iadd) ?_
            refine qm_G.s1 rfl (qm_x_iload rfl) ?_
            refine qm_G.s1 rfl (qm_x_iast (qm_arS hS rfl rfl) rfl (by omega) (by omega) (by decide)) ?_
            refine qm_G.s1 rfl (qm_x_iinc (lv' := [(3, qm_I (qm_i (p + 1))), (0, qm_R (some (0, 61, 0))), (1, qm_I (qm_i f)), (2, qm_I (qm_i g)), (4, qm_I (qm_i (J 62 0 (50 + 4 * Int.toNat f + Int.toNat p))))]) 1 rfl rfl rfl) ?_
            refine qm_G.s1 rfl (qm_x_goto) ?_
            refine qm_G.pk (lv1 := [(0, qm_R (some (0, 61, 0))), (1, qm_I (qm_i f)), (2, qm_I (qm_i g)), (3, qm_I (qm_i (p + 1)))]) rfl rfl rfl ?_
            have tp : qm_tk J g (J 62 0 (50 + 4 * Int.toNat f + Int.toNat p)) := (by unfold qm_tk; omega)
            rw [show (Int.toNat ((50 + (4 * g)) + p)) = 50 + 4 * Int.toNat g + Int.toNat p by omega]
            refine ih (p + 1) (qm_set J' 62 0 (50 + 4 * Int.toNat g + Int.toNat p) (J 62 0 (50 + 4 * Int.toNat f + Int.toNat p))) (by omega) (by omega) (fun r s i h h' => by rw [qm_st_ne (by omega)]; exact e r s i h h') (fun i a b => ?_) (fun q J2 a b c d e1 e2 => k q J2 (by omega) b (fun i h1 h2 => ?_) d (fun r s i h => by rw [e1 r s i (by omega), qm_st_ne (by omega)]) (fun i h1 h2 => ?_))
            · by_cases h : 50 + 4 * Int.toNat f + i = 50 + 4 * Int.toNat g + Int.toNat p
              · exact absurd h (by omega)
              · rw [qm_st_ne (by omega)]; exact ef i (by omega) b
            · by_cases h : i = Int.toNat p
              · rw [h]; exact tp
              · exact c i (by omega) h2
            · by_cases h : i = Int.toNat p
              · rw [h, e1 62 0 (50 + 4 * Int.toNat g + Int.toNat p) (by omega)]; exact qm_st_eq
              · exact e2 i (by omega) h2
          · refine qm_G.s1 rfl (qm_x_iload rfl) ?_
            refine qm_G.s1 rfl (qm_x_pushI 3 rfl) ?_
            refine qm_y_icmp_ne rfl ⟨by omega, by omega⟩ ⟨by decide, by decide⟩ (fun c5 => ?_) (fun c5 => ?_)
            · refine qm_G.sp (lv1 := []) rfl rfl (qm_x_pushI 0 rfl) ?_
              refine qm_G.s1 rfl (qm_x_goto) ?_
              refine qm_G.ret rfl rfl ⟨_, rfl, ?_⟩
              refine qm_G.s1 rfl (qm_x_if_ne_f ⟨by decide, by decide⟩ (by decide)) ?_
              refine qm_G.s1 rfl (qm_x_iload rfl) ?_
              exact qm_G.ret rfl rfl (k p J' (by omega) (by omega) (fun i a b => absurd a (by omega)) (Or.inr (by unfold qm_tk; omega)) (fun _ _ _ _ => rfl) (fun i a b => absurd a (by omega)))
            · refine qm_G.sp (lv1 := []) rfl rfl (qm_x_pushI 1 rfl) ?_
              refine qm_G.s1 rfl (qm_x_goto) ?_
              refine qm_G.ret rfl rfl ⟨_, rfl, ?_⟩
              refine qm_G.s1 rfl (qm_x_if_ne_t ⟨by decide, by decide⟩ (by decide)) ?_
              refine qm_G.sp (lv1 := [(0, qm_R (some (0, 61, 0))), (1, qm_I (qm_i f)), (2, qm_I (qm_i g)), (3, qm_I (qm_i p)), (4, qm_I (qm_i (J 62 0 (50 + 4 * Int.toNat f + Int.toNat p))))]) rfl rfl (qm_x_aload rfl) ?_
              refine qm_G.s1 rfl (qm_x_getfR (q := (some (0, 62, 0))) (hS 61 rfl) (hR 61 0 62 rfl rfl)) ?_
              refine qm_G.s1 rfl (qm_x_pushI 50 rfl) ?_
              refine qm_G.s1 rfl (qm_x_pushI 4 rfl) ?_
              refine qm_G.s1 rfl (qm_x_iload rfl) ?_
              refine qm_G.s1 rfl (qm_x_imul) ?_
              refine qm_G.s1 rfl (qm_x_iadd) ?_
              refine qm_G.s1 rfl (qm_x_iload rfl) ?_
              refine qm_G.s1 rfl (qm_x_iadd) ?_
              refine qm_G.s1 rfl (qm_x_iload rfl) ?_
              refine qm_G.s1 rfl (qm_x_iast (qm_arS hS rfl rfl) rfl (by omega) (by omega) (by decide)) ?_
              refine qm_G.s1 rfl (qm_x_iinc (lv' := [(3, qm_I (qm_i (p + 1))), (0, qm_R (some (0, 61, 0))), (1, qm_I (qm_i f)), (2, qm_I (qm_i g)), (4, qm_I (qm_i (J 62 0 (50 + 4 * Int.toNat f + Int.toNat p))))]) 1 rfl rfl rfl) ?_
              refine qm_G.s1 rfl (qm_x_goto) ?_
              refine qm_G.pk (lv1 := [(0, qm_R (some (0, 61, 0))), (1, qm_I (qm_i f)), (2, qm_I (qm_i g)), (3, qm_I (qm_i (p + 1)))]) rfl rfl rfl ?_
              have tp : qm_tk J g (J 62 0 (50 + 4 * Int.toNat f + Int.toNat p)) := (by unfold qm_tk; omega)
              rw [show (Int.toNat ((50 + (4 * g)) + p)) = 50 + 4 * Int.toNat g + Int.toNat p by omega]
              refine ih (p + 1) (qm_set J' 62 0 (50 + 4 * Int.toNat g + Int.toNat p) (J 62 0 (50 + 4 * Int.toNat f + Int.toNat p))) (by omega) (by omega) (fun r s i h h' => by rw [qm_st_ne (by omega)]; exact e r s i h h') (fun i a b => ?_) (fun q J2 a b c d e1 e2 => k q J2 (by omega) b (fun i h1 h2 => ?_) d (fun r s i h => by rw [e1 r s i (by omega), qm_st_ne (by omega)]) (fun i h1 h2 => ?_))
              · by_cases h : 50 + 4 * Int.toNat f + i = 50 + 4 * Int.toNat g + Int.toNat p
                · exact absurd h (by omega)
                · rw [qm_st_ne (by omega)]; exact ef i (by omega) b
              · by_cases h : i = Int.toNat p
                · rw [h]; exact tp
                · exact c i (by omega) h2
              · by_cases h : i = Int.toNat p
                · rw [h, e1 62 0 (50 + 4 * Int.toNat g + Int.toNat p) (by omega)]; exact qm_st_eq
                · exact e2 i (by omega) h2
      · refine qm_G.sp (lv1 := []) rfl rfl (qm_x_pushI 1 rfl) ?_
        refine qm_G.ret rfl rfl ⟨_, rfl, ?_⟩
        refine qm_G.s1 rfl (qm_x_if_ne_t ⟨by decide, by decide⟩ (by decide)) ?_
        refine qm_G.sp (lv1 := [(0, qm_R (some (0, 61, 0))), (1, qm_I (qm_i f)), (2, qm_I (qm_i g)), (3, qm_I (qm_i p)), (4, qm_I (qm_i (J 62 0 (50 + 4 * Int.toNat f + Int.toNat p))))]) rfl rfl (qm_x_aload rfl) ?_
        refine qm_G.s1 rfl (qm_x_getfR (q := (some (0, 62, 0))) (hS 61 rfl) (hR 61 0 62 rfl rfl)) ?_
        refine qm_G.s1 rfl (qm_x_pushI 50 rfl) ?_
        refine qm_G.s1 rfl (qm_x_pushI 4 rfl) ?_
        refine qm_G.s1 rfl (qm_x_iload rfl) ?_
        refine qm_G.s1 rfl (qm_x_imul) ?_
        refine qm_G.s1 rfl (qm_x_iadd) ?_
        refine qm_G.s1 rfl (qm_x_iload rfl) ?_
        refine qm_G.s1 rfl (qm_x_iadd) ?_
        refine qm_G.s1 rfl (qm_x_iload rfl) ?_
        refine qm_G.s1 rfl (qm_x_iast (qm_arS hS rfl rfl) rfl (by omega) (by omega) (by decide)) ?_
        refine qm_G.s1 rfl (qm_x_iinc (lv' := [(3, qm_I (qm_i (p + 1))), (0, qm_R (some (0, 61, 0))), (1, qm_I (qm_i f)), (2, qm_I (qm_i g)), (4, qm_I (qm_i (J 62 0 (50 + 4 * Int.toNat f + Int.toNat p))))]) 1 rfl rfl rfl) ?_
        refine qm_G.s1 rfl (qm_x_goto) ?_
        refine qm_G.pk (lv1 := [(0, qm_R (some (0, 61, 0))), (1, qm_I (qm_i f)), (2, qm_I (qm_i g)), (3, qm_I (qm_i (p + 1)))]) rfl rfl rfl ?_
        have tp : qm_tk J g (J 62 0 (50 + 4 * Int.toNat f + Int.toNat p)) := (by unfold qm_tk; omega)
        rw [show (Int.toNat ((50 + (4 * g)) + p)) = 50 + 4 * Int.toNat g + Int.toNat p by omega]
        refine ih (p + 1) (qm_set J' 62 0 (50 + 4 * Int.toNat g + Int.toNat p) (J 62 0 (50 + 4 * Int.toNat f + Int.toNat p))) (by omega) (by omega) (fun r s i h h' => by rw [qm_st_ne (by omega)]; exact e r s i h h') (fun i a b => ?_) (fun q J2 a b c d e1 e2 => k q J2 (by omega) b (fun i h1 h2 => ?_) d (fun r s i h => by rw [e1 r s i (by omega), qm_st_ne (by omega)]) (fun i h1 h2 => ?_))
        · by_cases h : 50 + 4 * Int.toNat f + i = 50 + 4 * Int.toNat g + Int.toNat p
          · exact absurd h (by omega)
          · rw [qm_st_ne (by omega)]; exact ef i (by omega) b
        · by_cases h : i = Int.toNat p
          · rw [h]; exact tp
          · exact c i (by omega) h2
        · by_cases h : i = Int.toNat p
          · rw [h, e1 62 0 (50 + 4 * Int.toNat g + Int.toNat p) (by omega)]; exact qm_st_eq
          · exact e2 i (by omega) h2
theorem qm_U_dk {S : List qm_Sh} {J J' K : qm_J} {L : qm_Ct Int64} {D : qm_Ct UInt64} {R : qm_Ct (Option qm_Rf)} {k : Nat} (e : ∀ r s i, r ≠ 8 → ¬ (r = 62 ∧ 50 ≤ i ∧ i < 62) → J' r s i = J r s i) (dk : ∀ d p, d < 3 → p < 4 → (J' 8 (d + 1) p = -1 ∧ J' 62 0 (50 + 4 * d + p) = -5) ∨ (J' 8 (d + 1) p = J' 62 0 (50 + 4 * d + p) ∧ 0 ≤ J' 62 0 (50 + 4 * d + p) ∧ J' 62 0 (50 + 4 * d + p) < J 62 0 7)) (hI : qm_Inv S J K L D R k) : qm_Inv S J' K L D R (k + 1) := by
  exact ⟨hI.sd, hI.rd, ⟨qm_Mkn_set (S := S) (K := J) (R := R) (D := D) hI.mk.set (fun r s i x => e r s i (by omega) (by omega)), qm_Mkn_r0 (S := S) (K := J) (R := R) (D := D) hI.mk.r0 (fun r s i x => e r s i (by omega) (by omega)), qm_Mkn_r1 (S := S) (K := J) (R := R) (D := D) hI.mk.r1 (fun r s i x => e r s i (by omega) (by omega)), qm_Mkn_r2 (S := S) (K := J) (R := R) (D := D) hI.mk.r2 (fun r s i x => e r s i (by omega) (by omega)), qm_Mkn_r3 (S := S) (K := J) (R := R) (D := D) hI.mk.r3 (fun r s i x => e r s i (by omega) (by omega)), qm_Mkn_r4 (S := S) (K := J) (R := R) (D := D) hI.mk.r4 (fun r s i x => e r s i (by omega) (by omega)), qm_Mkn_r5 (S := S) (K := J) (R := R) (D := D) hI.mk.r5 (fun r s i x => e r s i (by omega) (by omega)), qm_Mkn_str (S := S) (K := J) (R := R) (D := D) hI.mk.str (fun r s i x => e r s i (by omega) (by omega)), qm_Mkn_rstr (S := S) (K := J) (R := R) (D := D) hI.mk.rstr (fun r s i x => e r s i (by omega) (by omega)), qm_Mkn_rc (S := S) (K := J) (R := R) (D := D) hI.mk.rc (fun r s i x => e r s i (by omega) (by omega)), qm_Mkn_rrc (S := S) (K := J) (R := R) (D := D) hI.mk.rrc (fun r s i x => e r s i (by omega) (by omega)), qm_Mkn_odb (S := S) (K := J) (R := R) (D := D) hI.mk.odb (fun r s i x => e r s i (by omega) (by omega)), qm_Mkn_oda (S := S) (K := J) (R := R) (D := D) hI.mk.oda (fun r s i x => e r s i (by omega) (by omega)), qm_Mkn_rod (S := S) (K := J) (R := R) (D := D) hI.mk.rod (fun r s i x => e r s i (by omega) (by omega)), qm_Mkn_riv (S := S) (K := J) (R := R) (D := D) hI.mk.riv (fun r s i x => e r s i (by omega) (by omega)), (fun d p hd hp => by rw [e 62 0 7 (by omega) (by omega)]; exact dk d p hd hp)⟩, ⟨qm_Trn_qb (S := S) (K := J) (R := R) (D := D) hI.tr.qb (fun r s i x => e r s i (by omega) (by omega)), qm_Trn_qa (S := S) (K := J) (R := R) (D := D) hI.tr.qa (fun r s i x => e r s i (by omega) (by omega)), qm_Trn_rqb (S := S) (K := J) (R := R) (D := D) hI.tr.rqb (fun r s i x => e r s i (by omega) (by omega)), qm_Trn_rqa (S := S) (K := J) (R := R) (D := D) hI.tr.rqa (fun r s i x => e r s i (by omega) (by omega)), qm_Trn_stk (S := S) (K := J) (R := R) (D := D) hI.tr.stk (fun r s i x => e r s i (by omega) (by omega)), qm_Trn_rstk (S := S) (K := J) (R := R) (D := D) hI.tr.rstk (fun r s i x => e r s i (by omega) (by omega)), qm_Trn_csh (S := S) (K := J) (R := R) (D := D) hI.tr.csh (fun r s i x => e r s i (by omega) (by omega)), qm_Trn_rcsh (S := S) (K := J) (R := R) (D := D) hI.tr.rcsh (fun r s i x => e r s i (by omega) (by omega)), hI.tr.mid, hI.tr.spr⟩, ⟨qm_Ntn_sc (S := S) (K := J) (R := R) (D := D) hI.nt.sc (fun r s i x => e r s i (by omega) (by omega)), qm_Ntn_rsc (S := S) (K := J) (R := R) (D := D) hI.nt.rsc (fun r s i x => e r s i (by omega) (by omega)), qm_Ntn_ec (S := S) (K := J) (R := R) (D := D) hI.nt.ec (fun r s i x => e r s i (by omega) (by omega)), qm_Ntn_rec (S := S) (K := J) (R := R) (D := D) hI.nt.rec (fun r s i x => e r s i (by omega) (by omega)), qm_Ntn_see (S := S) (K := J) (R := R) (D := D) hI.nt.see (fun r s i x => e r s i (by omega) (by omega)), qm_Ntn_rsee (S := S) (K := J) (R := R) (D := D) hI.nt.rsee (fun r s i x => e r s i (by omega) (by omega)), qm_Ntn_evt (S := S) (K := J) (R := R) (D := D) hI.nt.evt (fun r s i x => e r s i (by omega) (by omega)), qm_Ntn_revt (S := S) (K := J) (R := R) (D := D) hI.nt.revt (fun r s i x => e r s i (by omega) (by omega)), qm_Ntn_rule (S := S) (K := J) (R := R) (D := D) hI.nt.rule (fun r s i x => e r s i (by omega) (by omega)), qm_Ntn_rrule (S := S) (K := J) (R := R) (D := D) hI.nt.rrule (fun r s i x => e r s i (by omega) (by omega))⟩, (by rw [e 42 0 1 (by omega) (by omega), e 61 0 12 (by omega) (by omega)]; exact hI.tx), (by rw [e 61 0 12 (by omega) (by omega)]; exact hI.rtx), (fun i x => by rw [e 69 0 i (by omega) (by omega)]; exact hI.sgn i x), (fun t x => by rw [e (49 + 2 * t) 0 1 (by omega) (by omega), e 73 0 t (by omega) (by omega)]; exact hI.srt t x), (fun t x => by rw [e (49 + 2 * t) 0 2 (by omega) (by omega), e 73 0 t (by omega) (by omega), e 74 0 t (by omega) (by omega)]; exact hI.len t x), hI.itm, (by rw [e 0 0 2 (by omega) (by omega), e 61 0 4 (by omega) (by omega)]; exact hI.img), (by rw [e 61 0 4 (by omega) (by omega)]; exact hI.rimg), (fun x => by rw [e 61 0 4 (by omega) (by omega)] at x; have h9 := hI.old x; exact ⟨h9.1.fr (fun r s i x => e r s i (by omega) (by omega)), h9.2.1.fr (fun r s i x => e r s i (by omega) (by omega)), h9.2.2.fr (fun r s i x => e r s i (by omega) (by omega))⟩), hI.slp, (by rw [e 47 0 1 (by omega) (by omega)]; exact hI.sl1), (by rw [e 47 0 3 (by omega) (by omega)]; exact hI.sl2), ⟨by have := hI.room.1; omega, by have := hI.room.2; omega⟩, hI.tall.up (Or.inl (e 61 0 12 (by omega) (by omega))) (e 61 0 4 (by omega) (by omega))⟩
theorem qm_U_copy {S : List qm_Sh} {J J1 J2 K : qm_J} {L : qm_Ct Int64} {D : qm_Ct UInt64} {R : qm_Ct (Option qm_Rf)} {k : Nat} {f g q : Int} (hI : qm_Inv S J K L D R k) (rf : 0 ≤ f ∧ f ≤ 2) (rg : 0 ≤ g ∧ g ≤ 2) (rq : 0 ≤ q ∧ q ≤ 4) (e1 : ∀ r s i : Nat, ¬ (r = 8 ∧ s = Int.toNat g + 1 ∧ 0 ≤ (i : Int) ∧ (i : Int) < q) → J1 r s i = J r s i) (v1 : ∀ i : Nat, 0 ≤ (i : Int) → (i : Int) < q → J1 8 (Int.toNat g + 1) i = J 8 (Int.toNat f + 1) i) (e2 : ∀ r s i : Nat, ¬ (r = 62 ∧ s = 0 ∧ (50 + 4 * g + 0 ≤ (i : Int)) ∧ (i : Int) < 50 + 4 * g + q) → J2 r s i = J1 r s i) (v2 : ∀ i : Nat, 0 ≤ (i : Int) → (i : Int) < q → J2 62 0 (50 + 4 * Int.toNat g + i) = J 62 0 (50 + 4 * Int.toNat f + i)) : qm_Inv S J2 K L D R (k + 1) := by
  refine qm_U_dk (fun r s i h h' => by rw [e2 r s i (by omega), e1 r s i (by omega)]) (fun d p hd hp => ?_) hI
  by_cases c : d = Int.toNat g ∧ (p : Int) < q
  · obtain ⟨c1, c2⟩ := c
    subst c1
    rw [e2 8 _ p (by omega), v1 p (by omega) c2, v2 p (by omega) c2]
    exact hI.mk.dek (Int.toNat f) p (by omega) hp
  · rw [e2 8 _ p (by omega), e1 8 _ p (by omega), e2 62 0 (50 + 4 * d + p) (by omega), e1 62 0 (50 + 4 * d + p) (by omega)]
    exact hI.mk.dek d p hd hp
