/-! VALUE on the model's side, whole -/
theorem qm_inn_gt {f : Int → Int → Int64} {m : Int64} (hf : ∀ b a, m < f b a) {b : Int} : ∀ (n : Nat) (a : Int) (st : qm_S3), 0 < n ∨ m < st.1 → m < (qm_inn f b n a st).1 := by
  intro n
  induction n with
  | zero => intro a st h; exact h.resolve_left (by decide)
  | succ n ih =>
    intro a st h
    refine ih (a + 1) _ (Or.inr ?_)
    split
    · exact hf b a
    · rename_i h1
      have h2 := hf b a
      rw [Int64.lt_iff_toInt_lt] at h1 h2 ⊢
      omega
theorem qm_out_gt {f : Int → Int → Int64} {m : Int64} (hf : ∀ b a, m < f b a) {a0 : Int} {k : Nat} (hk : 0 < k) : ∀ (n : Nat) (b : Int) (st : qm_S3), 0 < n ∨ m < st.1 → m < (qm_out f a0 k n b st).1 := by
  intro n
  induction n with
  | zero => intro b st h; exact h.resolve_left (by decide)
  | succ n ih =>
    intro b st h
    exact ih (b + 1) _ (Or.inr (qm_inn_gt hf k a0 st (Or.inl hk)))
/-- the model's tables, told up to row T and place s -/
def qm_TM (Pb Pa : Int → Int) (lim fine : Int) (J : qm_J) (L : qm_Ct Int64) (T s : Int) : Prop := ∀ t x : Int, 0 ≤ t → (t < T ∨ t = T ∧ x < s) → -lim ≤ x → x ≤ lim → L 64 0 (Int.toNat (17 * t + 8 + x)) = (qm_VB Pb Pa lim fine (Int.toNat t) x).1 ∧ (1 ≤ t → J 65 0 (Int.toNat (17 * t + 8 + x)) = 10 * (qm_VB Pb Pa lim fine (Int.toNat t) x).2.1 + (qm_VB Pb Pa lim fine (Int.toNat t) x).2.2)
theorem qm_TM.step {Pb Pa : Int → Int} {lim fine T s : Int} {J : qm_J} {L : qm_Ct Int64} (h : qm_TM Pb Pa lim fine J L T s) (hT : 1 ≤ T) (hs : -lim ≤ s ∧ s ≤ lim) (hl : lim ≤ 8) {y w : Int} {u : Int64} (e : qm_Ry y u w (qm_out (fun b a => qm_mn (Pb b) (Pa a) b a (qm_hd (fun x => (qm_VB Pb Pa lim fine (Int.toNat (T - 1)) x).1) lim s) (qm_hd (fun x => (qm_VB Pb Pa lim fine (Int.toNat (T - 1)) x).1) lim (s + 1)) (qm_hd (fun x => (qm_VB Pb Pa lim fine (Int.toNat (T - 1)) x).1) lim (s - 1))) (if s = -lim then 6 else 0) (if s = -lim then 1 else 7) (if s = lim then 1 else 7) (if s = lim then 6 else 0) (qm_l (-9223372036854775808), 0, 0))) : qm_TM Pb Pa lim fine (qm_set J 65 0 (Int.toNat (17 * T + 8 + s)) w) (qm_set L 64 0 (Int.toNat (17 * T + 8 + s)) u) T (s + 1) := by
  intro t z h0 h1 h2 h3
  by_cases hx : t = T ∧ z = s
  · obtain ⟨c1, c2⟩ := hx
    subst c1 c2
    have e2 : qm_Ry y u w (qm_VB Pb Pa lim fine (Int.toNat t) z) := by
      rw [show Int.toNat t = Int.toNat (t - 1) + 1 by omega]
      exact e
    have e3 : qm_l (-9223372036854775808) < (qm_VB Pb Pa lim fine (Int.toNat t) z).1 := by
      rw [show Int.toNat t = Int.toNat (t - 1) + 1 by omega]
      exact qm_out_gt (fun b a => qm_mn_gt) (by split <;> decide) _ _ _ (Or.inl (by split <;> decide))
    rcases e2 with ⟨_, e4⟩ | ⟨_, e4, e5⟩
    · exact absurd e3 (qm_lt_irr e4)
    · exact ⟨by rw [qm_st_eq]; exact e4, fun _ => by rw [qm_st_eq]; exact e5⟩
  · rw [qm_st_ne (by omega), qm_st_ne (by omega)]
    exact h t z h0 (by omega) h2 h3
theorem qm_TM.row {Pb Pa : Int → Int} {lim fine T : Int} {J : qm_J} {L : qm_Ct Int64} (h : qm_TM Pb Pa lim fine J L T (lim + 1)) : qm_TM Pb Pa lim fine J L (T + 1) (-lim) := fun t z h0 h1 h2 h3 => h t z h0 (by omega) h2 h3
theorem qm_m_vs {S : List qm_Sh} {K : qm_J} {D : qm_Ct UInt64} {R : qm_Ct (Option qm_Rf)} {X : Nat × (Nat → Int32)} {Q : Option qm_V → qm_Hp → Prop} {lim fine : Int} {Pb Pa : Int → Int} (hS : qm_Sd S) (hR : qm_Rd R) {t : Int} (rt : 1 ≤ t ∧ t ≤ 8) : ∀ (n : Nat) (s : Int) (J : qm_J) (L : qm_Ct Int64), s + n = lim + 1 → -lim ≤ s → qm_Mb J lim fine Pb Pa → qm_TM Pb Pa lim fine J L t s → (∀ (J' : qm_J) (L' : qm_Ct Int64), (∀ r s i, r ≠ 65 → J' r s i = J r s i) → (∀ r s i, r ≠ 64 → L' r s i = L r s i) → qm_TM Pb Pa lim fine J' L' t (lim + 1) → qm_G qm_P qm_P171 231 [(0, qm_R (some (0, 61, 0))), (1, qm_I (qm_i lim)), (2, qm_I (qm_i t))] [] (qm_H S J' K L' D R X) Q) → qm_G qm_P qm_P171 91 [(0, qm_R (some (0, 61, 0))), (1, qm_I (qm_i lim)), (2, qm_I (qm_i t)), (3, qm_I (qm_i s))] [] (qm_H S J K L D R X) Q := by
  intro n
  induction n with
  | zero =>
    intro s J L h1 h2 hB tm k
    have rl := hB.2.1
    refine qm_G.pk (lv1 := [(0, qm_R (some (0, 61, 0))), (1, qm_I (qm_i lim)), (2, qm_I (qm_i t)), (3, qm_I (qm_i s))]) rfl rfl rfl ?_
    refine qm_G.sp (lv1 := [(0, qm_R (some (0, 61, 0))), (1, qm_I (qm_i lim)), (2, qm_I (qm_i t)), (3, qm_I (qm_i s))]) rfl rfl (qm_x_iload rfl) ?_
    refine qm_G.s1 rfl (qm_x_iload rfl) ?_
    refine qm_G.s1 rfl (qm_x_icmp_gt_t ⟨by omega, by omega⟩ ⟨by omega, by omega⟩ (by omega)) ?_
    refine qm_G.pk (lv1 := [(0, qm_R (some (0, 61, 0))), (1, qm_I (qm_i lim)), (2, qm_I (qm_i t))]) rfl rfl rfl ?_
    exact k J L (fun _ _ _ _ => rfl) (fun _ _ _ _ => rfl) (fun a b c d e f => tm a b c (by omega) e f)
  | succ n ih =>
    intro s J L h1 h2 hB tm k
    have rl := hB.2.1
    have h3 : s ≤ lim := by omega
    refine qm_G.pk (lv1 := [(0, qm_R (some (0, 61, 0))), (1, qm_I (qm_i lim)), (2, qm_I (qm_i t)), (3, qm_I (qm_i s))]) rfl rfl rfl ?_
    refine qm_G.sp (lv1 := [(0, qm_R (some (0, 61, 0))), (1, qm_I (qm_i lim)), (2, qm_I (qm_i t)), (3, qm_I (qm_i s))]) rfl rfl (qm_x_iload rfl) ?_
    refine qm_G.s1 rfl (qm_x_iload rfl) ?_
    refine qm_G.s1 rfl (qm_x_icmp_gt_f ⟨by omega, by omega⟩ ⟨by omega, by omega⟩ (by omega)) ?_
    refine qm_G.s1 rfl (qm_x_pushI 0 rfl) ?_
    refine qm_G.s1 rfl (qm_x_istore (lv' := [(4, qm_I (qm_i 0)), (0, qm_R (some (0, 61, 0))), (1, qm_I (qm_i lim)), (2, qm_I (qm_i t)), (3, qm_I (qm_i s))]) rfl) ?_
    refine qm_G.s1 rfl (qm_x_iload rfl) ?_
    refine qm_G.s1 rfl (qm_x_iload rfl) ?_
    refine qm_y_icmp_ne rfl ⟨by omega, by omega⟩ ⟨by omega, by omega⟩ (fun c1 => ?_) (fun c1 => ?_)
    · refine qm_G.sp (lv1 := [(0, qm_R (some (0, 61, 0))), (1, qm_I (qm_i lim)), (2, qm_I (qm_i t)), (3, qm_I (qm_i s)), (4, qm_I (qm_i 0))]) rfl rfl (qm_x_pushI 0 rfl) ?_
      refine qm_G.sp (lv1 := [(0, qm_R (some (0, 61, 0))), (1, qm_I (qm_i lim)), (2, qm_I (qm_i t)), (3, qm_I (qm_i s)), (4, qm_I (qm_i 0))]) rfl rfl (qm_x_istore (lv' := [(5, qm_I (qm_i 0)), (0, qm_R (some (0, 61, 0))), (1, qm_I (qm_i lim)), (2, qm_I (qm_i t)), (3, qm_I (qm_i s)), (4, qm_I (qm_i 0))]) rfl) ?_
      have e0 : qm_set J 65 0 (Int.toNat (17 * t + 8 + s)) (J 65 0 (Int.toNat (17 * t + 8 + s))) = J := qm_set_own
      have e1 : qm_set L 64 0 (Int.toNat (17 * t + 8 + s)) (L 64 0 (Int.toNat (17 * t + 8 + s))) = L := qm_set_own
      rw [← e0, ← e1]
      refine qm_G.pk (lv1 := [(0, qm_R (some (0, 61, 0))), (1, qm_I (qm_i lim)), (2, qm_I (qm_i t)), (3, qm_I (qm_i s)), (4, qm_I (qm_i 0)), (5, qm_I (qm_i 0))]) rfl rfl rfl ?_
      refine qm_m_vb (V := fun x => (qm_VB Pb Pa lim fine (Int.toNat (t - 1)) x).1) hS hR hB (by omega) rt (fun z i a b c => by subst a; exact (tm (t - 1) z (by omega) (Or.inl (by omega)) b c).1) 7 0 0 _ _ (qm_l (-9223372036854775808), 0, 0) (by decide) (by decide) (fun h => by omega) (Or.inl ⟨rfl, rfl⟩) (fun y1 u1 w1 hy1 => ?_)
      refine qm_G.sp (lv1 := [(0, qm_R (some (0, 61, 0))), (1, qm_I (qm_i lim)), (2, qm_I (qm_i t)), (3, qm_I (qm_i s))]) rfl rfl (qm_x_iinc (lv' := [(3, qm_I (qm_i (s + 1))), (0, qm_R (some (0, 61, 0))), (1, qm_I (qm_i lim)), (2, qm_I (qm_i t))]) 1 rfl rfl rfl) ?_
      refine qm_G.s1 rfl (qm_x_goto) ?_
      refine qm_G.pk (lv1 := [(0, qm_R (some (0, 61, 0))), (1, qm_I (qm_i lim)), (2, qm_I (qm_i t)), (3, qm_I (qm_i (s + 1)))]) rfl rfl rfl ?_
      refine ih (s + 1) _ _ (by omega) (by omega) (hB.fr (fun r q i h => qm_st_ne (by omega))) (tm.step (y := y1) rt.1 (by omega) rl.2 (by rw [if_neg (show ¬ s = lim by omega), if_neg (show ¬ s = lim by omega)]; exact hy1)) (fun J' L' eJ eL t2 => k J' L' (fun r q i h => by rw [eJ r q i h, qm_st_ne (by omega)]) (fun r q i h => by rw [eL r q i h, qm_st_ne (by omega)]) t2)
    · refine qm_G.s1 rfl (qm_x_pushI 6 rfl) ?_
      refine qm_G.s1 rfl (qm_x_goto) ?_
      refine qm_G.sp (lv1 := [(0, qm_R (some (0, 61, 0))), (1, qm_I (qm_i lim)), (2, qm_I (qm_i t)), (3, qm_I (qm_i s)), (4, qm_I (qm_i 0))]) rfl rfl (qm_x_istore (lv' := [(5, qm_I (qm_i 6)), (0, qm_R (some (0, 61, 0))), (1, qm_I (qm_i lim)), (2, qm_I (qm_i t)), (3, qm_I (qm_i s)), (4, qm_I (qm_i 0))]) rfl) ?_
      have e0 : qm_set J 65 0 (Int.toNat (17 * t + 8 + s)) (J 65 0 (Int.toNat (17 * t + 8 + s))) = J := qm_set_own
      have e1 : qm_set L 64 0 (Int.toNat (17 * t + 8 + s)) (L 64 0 (Int.toNat (17 * t + 8 + s))) = L := qm_set_own
      rw [← e0, ← e1]
      refine qm_G.pk (lv1 := [(0, qm_R (some (0, 61, 0))), (1, qm_I (qm_i lim)), (2, qm_I (qm_i t)), (3, qm_I (qm_i s)), (4, qm_I (qm_i 0)), (5, qm_I (qm_i 6))]) rfl rfl rfl ?_
      refine qm_m_vb (V := fun x => (qm_VB Pb Pa lim fine (Int.toNat (t - 1)) x).1) hS hR hB (by omega) rt (fun z i a b c => by subst a; exact (tm (t - 1) z (by omega) (Or.inl (by omega)) b c).1) 1 6 0 _ _ (qm_l (-9223372036854775808), 0, 0) (by decide) (by decide) (fun h => by omega) (Or.inl ⟨rfl, rfl⟩) (fun y1 u1 w1 hy1 => ?_)
      refine qm_G.sp (lv1 := [(0, qm_R (some (0, 61, 0))), (1, qm_I (qm_i lim)), (2, qm_I (qm_i t)), (3, qm_I (qm_i s))]) rfl rfl (qm_x_iinc (lv' := [(3, qm_I (qm_i (s + 1))), (0, qm_R (some (0, 61, 0))), (1, qm_I (qm_i lim)), (2, qm_I (qm_i t))]) 1 rfl rfl rfl) ?_
      refine qm_G.s1 rfl (qm_x_goto) ?_
      refine qm_G.pk (lv1 := [(0, qm_R (some (0, 61, 0))), (1, qm_I (qm_i lim)), (2, qm_I (qm_i t)), (3, qm_I (qm_i (s + 1)))]) rfl rfl rfl ?_
      refine ih (s + 1) _ _ (by omega) (by omega) (hB.fr (fun r q i h => qm_st_ne (by omega))) (tm.step (y := y1) rt.1 (by omega) rl.2 (by rw [if_pos (show s = lim by omega), if_pos (show s = lim by omega)]; exact hy1)) (fun J' L' eJ eL t2 => k J' L' (fun r q i h => by rw [eJ r q i h, qm_st_ne (by omega)]) (fun r q i h => by rw [eL r q i h, qm_st_ne (by omega)]) t2)
theorem qm_m_vt {S : List qm_Sh} {K : qm_J} {D : qm_Ct UInt64} {R : qm_Ct (Option qm_Rf)} {X : Nat × (Nat → Int32)} {Q : Option qm_V → qm_Hp → Prop} {lim fine : Int} {Pb Pa : Int → Int} (hS : qm_Sd S) (hR : qm_Rd R) : ∀ (n : Nat) (t : Int) (J : qm_J) (L : qm_Ct Int64), t + n = 9 → 1 ≤ t → qm_Mb J lim fine Pb Pa → qm_TM Pb Pa lim fine J L t (-lim) → (∀ (J' : qm_J) (L' : qm_Ct Int64), (∀ r s i, r ≠ 65 → J' r s i = J r s i) → (∀ r s i, r ≠ 64 → L' r s i = L r s i) → qm_TM Pb Pa lim fine J' L' 9 (-lim) → Q none (qm_H S J' K L' D R X)) → qm_G qm_P qm_P171 82 [(0, qm_R (some (0, 61, 0))), (1, qm_I (qm_i lim)), (2, qm_I (qm_i t))] [] (qm_H S J K L D R X) Q := by
  intro n
  induction n with
  | zero =>
    intro t J L h1 h2 hB tm k
    have rl := hB.2.1
    refine qm_G.pk (lv1 := [(0, qm_R (some (0, 61, 0))), (1, qm_I (qm_i lim)), (2, qm_I (qm_i t))]) rfl rfl rfl ?_
    refine qm_G.sp (lv1 := [(0, qm_R (some (0, 61, 0))), (1, qm_I (qm_i lim)), (2, qm_I (qm_i t))]) rfl rfl (qm_x_iload rfl) ?_
    refine qm_G.s1 rfl (qm_x_pushI 9 rfl) ?_
    refine qm_G.s1 rfl (qm_x_icmp_ge_t ⟨by omega, by omega⟩ ⟨by decide, by decide⟩ (by omega)) ?_
    exact qm_G.retv rfl (k J L (fun _ _ _ _ => rfl) (fun _ _ _ _ => rfl) (fun a b c d e f => tm a b c (by omega) e f))
  | succ n ih =>
    intro t J L h1 h2 hB tm k
    have rl := hB.2.1
    have h3 : t ≤ 8 := by omega
    refine qm_G.pk (lv1 := [(0, qm_R (some (0, 61, 0))), (1, qm_I (qm_i lim)), (2, qm_I (qm_i t))]) rfl rfl rfl ?_
    refine qm_G.sp (lv1 := [(0, qm_R (some (0, 61, 0))), (1, qm_I (qm_i lim)), (2, qm_I (qm_i t))]) rfl rfl (qm_x_iload rfl) ?_
    refine qm_G.s1 rfl (qm_x_pushI 9 rfl) ?_
    refine qm_G.s1 rfl (qm_x_icmp_ge_f ⟨by omega, by omega⟩ ⟨by decide, by decide⟩ (by omega)) ?_
    refine qm_G.s1 rfl (qm_x_iload rfl) ?_
    refine qm_G.s1 rfl (qm_x_ineg) ?_
    refine qm_G.s1 rfl (qm_x_istore (lv' := [(3, qm_I (qm_i (-lim))), (0, qm_R (some (0, 61, 0))), (1, qm_I (qm_i lim)), (2, qm_I (qm_i t))]) rfl) ?_
    refine qm_G.pk (lv1 := [(0, qm_R (some (0, 61, 0))), (1, qm_I (qm_i lim)), (2, qm_I (qm_i t)), (3, qm_I (qm_i (-lim)))]) rfl rfl rfl ?_
    refine qm_m_vs hS hR (by omega) (Int.toNat (2 * lim + 1)) (-lim) J L (by omega) (by omega) hB tm (fun J1 L1 eJ eL t1 => ?_)
    refine qm_G.sp (lv1 := [(0, qm_R (some (0, 61, 0))), (1, qm_I (qm_i lim)), (2, qm_I (qm_i t))]) rfl rfl (qm_x_iinc (lv' := [(2, qm_I (qm_i (t + 1))), (0, qm_R (some (0, 61, 0))), (1, qm_I (qm_i lim))]) 1 rfl rfl rfl) ?_
    refine qm_G.s1 rfl (qm_x_goto) ?_
    refine qm_G.pk (lv1 := [(0, qm_R (some (0, 61, 0))), (1, qm_I (qm_i lim)), (2, qm_I (qm_i (t + 1)))]) rfl rfl rfl ?_
    exact ih (t + 1) J1 L1 (by omega) (by omega) (hB.fr (fun r q i h => eJ r q i (by omega))) t1.row (fun J' L' eJ2 eL2 t2 => k J' L' (fun r q i h => (eJ2 r q i h).trans (eJ r q i h)) (fun r q i h => (eL2 r q i h).trans (eL r q i h)) t2)
theorem qm_m_v0 {S : List qm_Sh} {J K : qm_J} {D : qm_Ct UInt64} {R : qm_Ct (Option qm_Rf)} {X : Nat × (Nat → Int32)} {Q : Option qm_V → qm_Hp → Prop} {lim fine : Int} (hS : qm_Sd S) (hR : qm_Rd R) (hl : J 62 0 1 = lim) (rl : 1 ≤ lim ∧ lim ≤ 8) (hf : J 62 0 3 = fine) (rf : 0 ≤ fine ∧ fine ≤ 99) : ∀ (n : Nat) (s : Int) (L : qm_Ct Int64), s + n = lim + 1 → -lim ≤ s → (∀ x : Int, -lim ≤ x → x < s → L 64 0 (Int.toNat (8 + x)) = qm_v0 fine x) → (∀ L' : qm_Ct Int64, (∀ r s i, r ≠ 64 → L' r s i = L r s i) → (∀ x : Int, -lim ≤ x → x < lim + 1 → L' 64 0 (Int.toNat (8 + x)) = qm_v0 fine x) → qm_G qm_P qm_P171 80 [(0, qm_R (some (0, 61, 0))), (1, qm_I (qm_i lim))] [] (qm_H S J K L' D R X) Q) → qm_G qm_P qm_P171 42 [(0, qm_R (some (0, 61, 0))), (1, qm_I (qm_i lim)), (2, qm_I (qm_i s))] [] (qm_H S J K L D R X) Q := by
  intro n
  induction n with
  | zero =>
    intro s L h1 h2 tv k
    refine qm_G.pk (lv1 := [(0, qm_R (some (0, 61, 0))), (1, qm_I (qm_i lim)), (2, qm_I (qm_i s))]) rfl rfl rfl ?_
    refine qm_G.sp (lv1 := [(0, qm_R (some (0, 61, 0))), (1, qm_I (qm_i lim)), (2, qm_I (qm_i s))]) rfl rfl (qm_x_iload rfl) ?_
    refine qm_G.s1 rfl (qm_x_iload rfl) ?_
    refine qm_G.s1 rfl (qm_x_icmp_gt_t ⟨by omega, by omega⟩ ⟨by omega, by omega⟩ (by omega)) ?_
    refine qm_G.pk (lv1 := [(0, qm_R (some (0, 61, 0))), (1, qm_I (qm_i lim))]) rfl rfl rfl ?_
    exact k L (fun _ _ _ _ => rfl) (fun x h3 h4 => tv x h3 (by omega))
  | succ n ih =>
    intro s L h1 h2 tv k
    have h3 : s ≤ lim := by omega
    refine qm_G.pk (lv1 := [(0, qm_R (some (0, 61, 0))), (1, qm_I (qm_i lim)), (2, qm_I (qm_i s))]) rfl rfl rfl ?_
    refine qm_G.sp (lv1 := [(0, qm_R (some (0, 61, 0))), (1, qm_I (qm_i lim)), (2, qm_I (qm_i s))]) rfl rfl (qm_x_iload rfl) ?_
    refine qm_G.s1 rfl (qm_x_iload rfl) ?_
    refine qm_G.s1 rfl (qm_x_icmp_gt_f ⟨by omega, by omega⟩ ⟨by omega, by omega⟩ (by omega)) ?_
    refine qm_G.s1 rfl (qm_x_aload rfl) ?_
    refine qm_G.s1 rfl (qm_x_getfR (q := (some (0, 64, 0))) (hS 61 rfl) (hR 61 7 64 rfl rfl)) ?_
    refine qm_G.s1 rfl (qm_x_pushI 0 rfl) ?_
    refine qm_G.s1 rfl (qm_x_iload rfl) ?_
    refine qm_G.cs rfl rfl rfl ?_
    refine qm_C.go (cd := qm_P24) (lv := [(0, qm_I (qm_i 0)), (1, qm_I (qm_i s))]) rfl rfl ?_
    refine qm_G.s1 rfl (qm_x_pushI 17 rfl) ?_
    refine qm_G.s1 rfl (qm_x_iload rfl) ?_
    refine qm_G.s1 rfl (qm_x_imul) ?_
    refine qm_G.s1 rfl (qm_x_pushI 8 rfl) ?_
    refine qm_G.s1 rfl (qm_x_iadd) ?_
    refine qm_G.s1 rfl (qm_x_iload rfl) ?_
    refine qm_G.s1 rfl (qm_x_iadd) ?_
    refine qm_G.ret rfl rfl ⟨_, rfl, ?_⟩
    refine qm_G.s1 rfl (qm_x_pushL (-1000000) rfl) ?_
    refine qm_G.s1 rfl (qm_x_aload rfl) ?_
    refine qm_G.s1 rfl (qm_x_getfR (q := (some (0, 62, 0))) (hS 61 rfl) (hR 61 0 62 rfl rfl)) ?_
    refine qm_G.s1 rfl (qm_x_pushI 3 rfl) ?_
    refine qm_G.s1 rfl (qm_x_iald (v := fine) (qm_arS hS rfl rfl) rfl (by decide) (by decide) (by decide) hf) ?_
    refine qm_G.s1 rfl (qm_x_i2l ⟨by omega, by omega⟩) ?_
    refine qm_G.s1 rfl (qm_x_lmul) ?_
    refine qm_G.s1 rfl (qm_x_iload rfl) ?_
    refine qm_G.s1 rfl (qm_x_i2l ⟨by omega, by omega⟩) ?_
    refine qm_G.s1 rfl (qm_x_lmul) ?_
    refine qm_G.s1 rfl (qm_x_iload rfl) ?_
    refine qm_G.s1 rfl (qm_x_i2l ⟨by omega, by omega⟩) ?_
    refine qm_G.s1 rfl (qm_x_lmul) ?_
    refine qm_G.s1 rfl (qm_x_last (qm_arS hS rfl rfl) rfl (by omega) (by omega) (by decide)) ?_
    refine qm_G.s1 rfl (qm_x_iinc (lv' := [(2, qm_I (qm_i (s + 1))), (0, qm_R (some (0, 61, 0))), (1, qm_I (qm_i lim))]) 1 rfl rfl rfl) ?_
    refine qm_G.s1 rfl (qm_x_goto) ?_
    refine qm_G.pk (lv1 := [(0, qm_R (some (0, 61, 0))), (1, qm_I (qm_i lim)), (2, qm_I (qm_i (s + 1)))]) rfl rfl rfl ?_
    refine ih (s + 1) _ (by omega) (by omega) (fun x h3 h4 => ?_) (fun L2 e2 t2 => k L2 (fun r s i h => (e2 r s i h).trans (qm_st_ne (by omega))) t2)
    by_cases hx : x = s
    · subst hx; rw [show Int.toNat (8 + x) = Int.toNat (17 * 0 + 8 + x) by omega]; exact qm_st_eq
    · rw [qm_st_ne (by omega)]; exact tv x h3 (by omega)
theorem qm_m_vc {S : List qm_Sh} {K : qm_J} {L : qm_Ct Int64} {D : qm_Ct UInt64} {R : qm_Ct (Option qm_Rf)} {X : Nat × (Nat → Int32)} {Q : Option qm_V → qm_Hp → Prop} {lim : Int} {N : Nat → Int} (hS : qm_Sd S) (hR : qm_Rd R) (hN : qm_Nk N) : ∀ (n : Nat) (c : Int) (J : qm_J), c + n = 14 → 0 ≤ c → J 62 0 = N → (∀ z : Int, 0 ≤ z → z < c → J 68 0 (Int.toNat z) = qm_ch N 0 (z / 7) (z % 7)) → (∀ J' : qm_J, (∀ r s i, r ≠ 68 → J' r s i = J r s i) → (∀ z : Int, 0 ≤ z → z < 14 → J' 68 0 (Int.toNat z) = qm_ch N 0 (z / 7) (z % 7)) → qm_G qm_P qm_P171 39 [(0, qm_R (some (0, 61, 0))), (1, qm_I (qm_i lim))] [] (qm_H S J' K L D R X) Q) → qm_G qm_P qm_P171 9 [(0, qm_R (some (0, 61, 0))), (1, qm_I (qm_i lim)), (2, qm_I (qm_i c))] [] (qm_H S J K L D R X) Q := by
  intro n
  induction n with
  | zero =>
    intro c J h1 h2 hJ tc k
    refine qm_G.pk (lv1 := [(0, qm_R (some (0, 61, 0))), (1, qm_I (qm_i lim)), (2, qm_I (qm_i c))]) rfl rfl rfl ?_
    refine qm_G.sp (lv1 := [(0, qm_R (some (0, 61, 0))), (1, qm_I (qm_i lim)), (2, qm_I (qm_i c))]) rfl rfl (qm_x_iload rfl) ?_
    refine qm_G.s1 rfl (qm_x_pushI 14 rfl) ?_
    refine qm_G.s1 rfl (qm_x_icmp_ge_t ⟨by omega, by omega⟩ ⟨by decide, by decide⟩ (by omega)) ?_
    refine qm_G.pk (lv1 := [(0, qm_R (some (0, 61, 0))), (1, qm_I (qm_i lim))]) rfl rfl rfl ?_
    exact k J (fun _ _ _ _ => rfl) (fun z h3 h4 => tc z h3 (by omega))
  | succ n ih =>
    intro c J h1 h2 hJ tc k
    have h3 : c ≤ 13 := by omega
    refine qm_G.pk (lv1 := [(0, qm_R (some (0, 61, 0))), (1, qm_I (qm_i lim)), (2, qm_I (qm_i c))]) rfl rfl rfl ?_
    refine qm_G.sp (lv1 := [(0, qm_R (some (0, 61, 0))), (1, qm_I (qm_i lim)), (2, qm_I (qm_i c))]) rfl rfl (qm_x_iload rfl) ?_
    refine qm_G.s1 rfl (qm_x_pushI 14 rfl) ?_
    refine qm_G.s1 rfl (qm_x_icmp_ge_f ⟨by omega, by omega⟩ ⟨by decide, by decide⟩ (by omega)) ?_
    refine qm_G.s1 rfl (qm_x_aload rfl) ?_
    refine qm_G.s1 rfl (qm_x_getfR (q := (some (0, 68, 0))) (hS 61 rfl) (hR 61 11 68 rfl rfl)) ?_
    refine qm_G.s1 rfl (qm_x_iload rfl) ?_
    refine qm_G.s1 rfl (qm_x_aload rfl) ?_
    refine qm_G.s1 rfl (qm_x_iload rfl) ?_
    refine qm_G.s1 rfl (qm_x_pushI 7 rfl) ?_
    refine qm_G.s1 rfl (qm_x_idivp ⟨by omega, by omega⟩ (by omega) ⟨by decide, by decide⟩ (by decide)) ?_
    refine qm_G.s1 rfl (qm_x_iload rfl) ?_
    refine qm_G.s1 rfl (qm_x_pushI 7 rfl) ?_
    refine qm_G.s1 rfl (qm_x_iremp ⟨by omega, by omega⟩ (by omega) ⟨by decide, by decide⟩ (by decide)) ?_
    refine qm_G.cm rfl rfl (hS 61 rfl) rfl ?_
    refine qm_m_cho hS hR (show qm_Nk (J 62 0) from hJ ▸ hN) (by omega) (by omega) (fun w0 y0 => ⟨_, rfl, ?_⟩)
    refine qm_G.s1 rfl (qm_x_iast (qm_arS hS rfl rfl) rfl (by omega) (by omega) (by decide)) ?_
    refine qm_G.s1 rfl (qm_x_iinc (lv' := [(2, qm_I (qm_i (c + 1))), (0, qm_R (some (0, 61, 0))), (1, qm_I (qm_i lim))]) 1 rfl rfl rfl) ?_
    refine qm_G.s1 rfl (qm_x_goto) ?_
    refine qm_G.pk (lv1 := [(0, qm_R (some (0, 61, 0))), (1, qm_I (qm_i lim)), (2, qm_I (qm_i (c + 1)))]) rfl rfl rfl ?_
    refine ih (c + 1) _ (by omega) (by omega) ((funext (fun i => qm_st_ne (by omega))).trans hJ) (fun z h5 h6 => ?_) (fun J2 e2 t2 => k J2 (fun r s i h => (e2 r s i h).trans (qm_st_ne (by omega))) t2)
    by_cases hx : z = c
    · subst hx; rw [qm_st_eq, y0, hJ]
    · rw [qm_st_ne (by omega)]; exact tc z h5 (by omega)
theorem qm_m_values {S : List qm_Sh} {J K : qm_J} {L : qm_Ct Int64} {D : qm_Ct UInt64} {R : qm_Ct (Option qm_Rf)} {X : Nat × (Nat → Int32)} {Q : Option qm_V → qm_Hp → Prop} (hS : qm_Sd S) (hR : qm_Rd R) (hN : qm_Nk (J 62 0)) (k : ∀ (J' : qm_J) (L' : qm_Ct Int64), (∀ r s i, ¬ (r = 65 ∨ r = 68) → J' r s i = J r s i) → (∀ r s i, r ≠ 64 → L' r s i = L r s i) → qm_Mb J' (J 62 0 1) (J 62 0 3) (qm_ch (J 62 0) 0 0) (qm_ch (J 62 0) 0 1) → qm_TM (qm_ch (J 62 0) 0 0) (qm_ch (J 62 0) 0 1) (J 62 0 1) (J 62 0 3) J' L' 9 (-(J 62 0 1)) → Q none (qm_H S J' K L' D R X)) : qm_C qm_P 171 [qm_R (some (0, 61, 0))] (qm_H S J K L D R X) Q := by
  have rl := hN.lim
  refine qm_C.go (cd := qm_P171) (lv := [(0, qm_R (some (0, 61, 0)))]) rfl rfl ?_
  refine qm_G.s1 rfl (qm_x_aload rfl) ?_
  refine qm_G.s1 rfl (qm_x_getfR (q := (some (0, 62, 0))) (hS 61 rfl) (hR 61 0 62 rfl rfl)) ?_
  refine qm_G.s1 rfl (qm_x_pushI 1 rfl) ?_
  refine qm_G.s1 rfl (qm_x_iald (v := (J 62 0 1)) (qm_arS hS rfl rfl) rfl (by decide) (by decide) (by decide) rfl) ?_
  refine qm_G.s1 rfl (qm_x_istore (lv' := [(1, qm_I (qm_i (J 62 0 1))), (0, qm_R (some (0, 61, 0)))]) rfl) ?_
  refine qm_G.s1 rfl (qm_x_pushI 0 rfl) ?_
  refine qm_G.s1 rfl (qm_x_istore (lv' := [(2, qm_I (qm_i 0)), (1, qm_I (qm_i (J 62 0 1))), (0, qm_R (some (0, 61, 0)))]) rfl) ?_
  refine qm_G.pk (lv1 := [(0, qm_R (some (0, 61, 0))), (1, qm_I (qm_i (J 62 0 1))), (2, qm_I (qm_i 0))]) rfl rfl rfl ?_
  refine qm_m_vc (N := J 62 0) hS hR hN 14 0 J (by decide) (by decide) rfl (fun z a b => absurd b (by omega)) (fun J1 e1 tc => ?_)
  have q1 : J1 62 0 1 = J 62 0 1 := e1 62 0 1 (by decide)
  have q3 : J1 62 0 3 = J 62 0 3 := e1 62 0 3 (by decide)
  have hB : qm_Mb J1 (J 62 0 1) (J 62 0 3) (qm_ch (J 62 0) 0 0) (qm_ch (J 62 0) 0 1) := ⟨q1, hN.lim, q3, hN.fin, fun z i a b c => by subst a; rw [tc z b (by omega), show z / 7 = 0 by omega, show z % 7 = z by omega], fun z i a b c => by subst a; rw [tc (z + 7) (by omega) (by omega), show (z + 7) / 7 = 1 by omega, show (z + 7) % 7 = z by omega], fun z a b => qm_ch_rng hN (by decide) ⟨a, b⟩, fun z a b => qm_ch_rng hN (by decide) ⟨a, b⟩, qm_ch6, qm_ch6⟩
  refine qm_G.sp (lv1 := [(0, qm_R (some (0, 61, 0))), (1, qm_I (qm_i (J 62 0 1)))]) rfl rfl (qm_x_iload rfl) ?_
  refine qm_G.s1 rfl (qm_x_ineg) ?_
  refine qm_G.s1 rfl (qm_x_istore (lv' := [(2, qm_I (qm_i (-(J 62 0 1)))), (0, qm_R (some (0, 61, 0))), (1, qm_I (qm_i (J 62 0 1)))]) rfl) ?_
  refine qm_G.pk (lv1 := [(0, qm_R (some (0, 61, 0))), (1, qm_I (qm_i (J 62 0 1))), (2, qm_I (qm_i (-(J 62 0 1))))]) rfl rfl rfl ?_
  refine qm_m_v0 hS hR q1 hN.lim q3 hN.fin (Int.toNat (2 * J 62 0 1 + 1)) (-(J 62 0 1)) L (by omega) (by omega) (fun x a b => absurd b (by omega)) (fun L1 eL1 tv => ?_)
  refine qm_G.sp (lv1 := [(0, qm_R (some (0, 61, 0))), (1, qm_I (qm_i (J 62 0 1)))]) rfl rfl (qm_x_pushI 1 rfl) ?_
  refine qm_G.s1 rfl (qm_x_istore (lv' := [(2, qm_I (qm_i 1)), (0, qm_R (some (0, 61, 0))), (1, qm_I (qm_i (J 62 0 1)))]) rfl) ?_
  refine qm_G.pk (lv1 := [(0, qm_R (some (0, 61, 0))), (1, qm_I (qm_i (J 62 0 1))), (2, qm_I (qm_i 1))]) rfl rfl rfl ?_
  exact qm_m_vt hS hR 8 1 J1 L1 (by decide) (by decide) hB (fun t x a b c d => ⟨by rw [show t = 0 by omega, show 17 * (0 : Int) + 8 + x = 8 + x by omega]; exact tv x c (by omega), fun h => absurd h (by omega)⟩) (fun J' L' eJ eL t2 => k J' L' (fun r q i h => (eJ r q i (by omega)).trans (e1 r q i (by omega))) (fun r q i h => (eL r q i h).trans (eL1 r q i h)) (hB.fr (fun r q i h => eJ r q i (by omega))) t2)
