/-! VALUE on the class's side, whole -/
theorem qm_d_finl {S : List qm_Sh} {J K : qm_J} {D : qm_Ct UInt64} {R : qm_Ct (Option qm_Rf)} {X : Nat × (Nat → Int32)} {Q : Option qm_V → qm_Hp → Prop} {lim fine : Int} {Pb Pa : Int → Int} (hS : qm_Sd S) (hR : qm_Rd R) (hl : J 35 0 6 = lim) (rl : 1 ≤ lim ∧ lim ≤ 8) (rf : 0 ≤ fine ∧ fine ≤ 99) : ∀ (n : Nat) (s : Int) (L : qm_Ct Int64), s + n = lim + 1 → -lim ≤ s → (∀ x : Int, -lim ≤ x → x < s → L 37 1 (Int.toNat (x + 8)) = qm_v0 fine x) → (∀ L' : qm_Ct Int64, (∀ r s i, r ≠ 37 → L' r s i = L r s i) → (∀ x : Int, -lim ≤ x → x < lim + 1 → L' 37 1 (Int.toNat (x + 8)) = qm_v0 fine x) → Q none (qm_H S J K L' D R X)) → qm_G qm_P qm_P33 6 [(0, qm_R (some (0, 35, 0))), (1, qm_R (some (0, 37, 1))), (2, qm_I (qm_i fine)), (3, qm_I (qm_i s))] [] (qm_H S J K L D R X) Q := by
  intro n
  induction n with
  | zero =>
    intro s L h1 h2 tv k
    refine qm_G.pk (lv1 := [(0, qm_R (some (0, 35, 0))), (1, qm_R (some (0, 37, 1))), (2, qm_I (qm_i fine)), (3, qm_I (qm_i s))]) rfl rfl rfl ?_
    refine qm_G.sp (lv1 := [(0, qm_R (some (0, 35, 0))), (1, qm_R (some (0, 37, 1))), (2, qm_I (qm_i fine)), (3, qm_I (qm_i s))]) rfl rfl (qm_x_iload rfl) ?_
    refine qm_G.s1 rfl (qm_x_aload rfl) ?_
    refine qm_G.s1 rfl (qm_x_getfI (v := lim) (hS 35 rfl) hl) ?_
    refine qm_G.s1 rfl (qm_x_icmp_gt_t ⟨by omega, by omega⟩ ⟨by omega, by omega⟩ (by omega)) ?_
    exact qm_G.retv rfl (k L (fun _ _ _ _ => rfl) (fun x h3 h4 => tv x h3 (by omega)))
  | succ n ih =>
    intro s L h1 h2 tv k
    have h3 : s ≤ lim := by omega
    refine qm_G.pk (lv1 := [(0, qm_R (some (0, 35, 0))), (1, qm_R (some (0, 37, 1))), (2, qm_I (qm_i fine)), (3, qm_I (qm_i s))]) rfl rfl rfl ?_
    refine qm_G.sp (lv1 := [(0, qm_R (some (0, 35, 0))), (1, qm_R (some (0, 37, 1))), (2, qm_I (qm_i fine)), (3, qm_I (qm_i s))]) rfl rfl (qm_x_iload rfl) ?_
    refine qm_G.s1 rfl (qm_x_aload rfl) ?_
    refine qm_G.s1 rfl (qm_x_getfI (v := lim) (hS 35 rfl) hl) ?_
    refine qm_G.s1 rfl (qm_x_icmp_gt_f ⟨by omega, by omega⟩ ⟨by omega, by omega⟩ (by omega)) ?_
    refine qm_G.s1 rfl (qm_x_aload rfl) ?_
    refine qm_G.s1 rfl (qm_x_iload rfl) ?_
    refine qm_G.s1 rfl (qm_x_pushI 8 rfl) ?_
    refine qm_G.s1 rfl (qm_x_iadd) ?_
    refine qm_G.s1 rfl (qm_x_pushL (-1000000) rfl) ?_
    refine qm_G.s1 rfl (qm_x_iload rfl) ?_
    refine qm_G.s1 rfl (qm_x_i2l ⟨by omega, by omega⟩) ?_
    refine qm_G.s1 rfl (qm_x_lmul) ?_
    refine qm_G.s1 rfl (qm_x_iload rfl) ?_
    refine qm_G.s1 rfl (qm_x_i2l ⟨by omega, by omega⟩) ?_
    refine qm_G.s1 rfl (qm_x_lmul) ?_
    refine qm_G.s1 rfl (qm_x_iload rfl) ?_
    refine qm_G.s1 rfl (qm_x_i2l ⟨by omega, by omega⟩) ?_
    refine qm_G.s1 rfl (qm_x_lmul) ?_
    refine qm_G.s1 rfl (qm_x_last (qm_arS hS rfl rfl) rfl (by omega) (by omega) (by decide)) ?_
    refine qm_G.s1 rfl (qm_x_iinc (lv' := [(3, qm_I (qm_i (s + 1))), (0, qm_R (some (0, 35, 0))), (1, qm_R (some (0, 37, 1))), (2, qm_I (qm_i fine))]) 1 rfl rfl rfl) ?_
    refine qm_G.s1 rfl (qm_x_goto) ?_
    refine qm_G.pk (lv1 := [(0, qm_R (some (0, 35, 0))), (1, qm_R (some (0, 37, 1))), (2, qm_I (qm_i fine)), (3, qm_I (qm_i (s + 1)))]) rfl rfl rfl ?_
    refine ih (s + 1) _ (by omega) (by omega) (fun x h3 h4 => ?_) (fun L2 e2 t2 => k L2 (fun r s i h => (e2 r s i h).trans (qm_st_ne (by omega))) t2)
    by_cases hx : x = s
    · subst hx; exact qm_st_eq
    · rw [qm_st_ne (by omega)]; exact tv x h3 (by omega)
theorem qm_d_fin {S : List qm_Sh} {J K : qm_J} {L : qm_Ct Int64} {D : qm_Ct UInt64} {R : qm_Ct (Option qm_Rf)} {X : Nat × (Nat → Int32)} {Q : Option qm_V → qm_Hp → Prop} {lim fine : Int} (hS : qm_Sd S) (hR : qm_Rd R) (hl : J 35 0 6 = lim) (rl : 1 ≤ lim ∧ lim ≤ 8) (rf : 0 ≤ fine ∧ fine ≤ 99) (k : ∀ L' : qm_Ct Int64, (∀ r s i, r ≠ 37 → L' r s i = L r s i) → (∀ x : Int, -lim ≤ x → x < lim + 1 → L' 37 1 (Int.toNat (x + 8)) = qm_v0 fine x) → Q none (qm_H S J K L' D R X)) : qm_C qm_P 33 [qm_R (some (0, 35, 0)), qm_R (some (0, 37, 1)), qm_I (qm_i fine)] (qm_H S J K L D R X) Q := by
  refine qm_C.go (cd := qm_P33) (lv := [(0, qm_R (some (0, 35, 0))), (1, qm_R (some (0, 37, 1))), (2, qm_I (qm_i fine))]) rfl rfl ?_
  refine qm_G.s1 rfl (qm_x_aload rfl) ?_
  refine qm_G.s1 rfl (qm_x_getfI (v := lim) (hS 35 rfl) hl) ?_
  refine qm_G.s1 rfl (qm_x_ineg) ?_
  refine qm_G.s1 rfl (qm_x_istore (lv' := [(3, qm_I (qm_i (-lim))), (0, qm_R (some (0, 35, 0))), (1, qm_R (some (0, 37, 1))), (2, qm_I (qm_i fine))]) rfl) ?_
  refine qm_G.pk (lv1 := [(0, qm_R (some (0, 35, 0))), (1, qm_R (some (0, 37, 1))), (2, qm_I (qm_i fine)), (3, qm_I (qm_i (-lim)))]) rfl rfl rfl ?_
  exact qm_d_finl (Pb := fun _ => 0) (Pa := fun _ => 0) hS hR hl rl rf (Int.toNat (2 * lim + 1)) (-lim) L (by omega) (by omega) (fun x h3 h4 => absurd h4 (by omega)) k
theorem qm_d_fiwl {S : List qm_Sh} {J K : qm_J} {D : qm_Ct UInt64} {R : qm_Ct (Option qm_Rf)} {X : Nat × (Nat → Int32)} {Q : Option qm_V → qm_Hp → Prop} {lim fine : Int} {Pb Pa : Int → Int} (hS : qm_Sd S) (hR : qm_Rd R) (hl : J 35 0 6 = lim) (rl : 1 ≤ lim ∧ lim ≤ 8) (rf : 0 ≤ fine ∧ fine ≤ 99) : ∀ (n : Nat) (s : Int) (L : qm_Ct Int64), s + n = lim + 1 → -lim ≤ s → (∀ x : Int, -lim ≤ x → x < s → L 40 1 (Int.toNat (x + 8)) = qm_v0 fine x) → (∀ L' : qm_Ct Int64, (∀ r s i, r ≠ 40 → L' r s i = L r s i) → (∀ x : Int, -lim ≤ x → x < lim + 1 → L' 40 1 (Int.toNat (x + 8)) = qm_v0 fine x) → Q none (qm_H S J K L' D R X)) → qm_G qm_P qm_P33 6 [(0, qm_R (some (0, 35, 0))), (1, qm_R (some (0, 40, 1))), (2, qm_I (qm_i fine)), (3, qm_I (qm_i s))] [] (qm_H S J K L D R X) Q := by
  intro n
  induction n with
  | zero =>
    intro s L h1 h2 tv k
    refine qm_G.pk (lv1 := [(0, qm_R (some (0, 35, 0))), (1, qm_R (some (0, 40, 1))), (2, qm_I (qm_i fine)), (3, qm_I (qm_i s))]) rfl rfl rfl ?_
    refine qm_G.sp (lv1 := [(0, qm_R (some (0, 35, 0))), (1, qm_R (some (0, 40, 1))), (2, qm_I (qm_i fine)), (3, qm_I (qm_i s))]) rfl rfl (qm_x_iload rfl) ?_
    refine qm_G.s1 rfl (qm_x_aload rfl) ?_
    refine qm_G.s1 rfl (qm_x_getfI (v := lim) (hS 35 rfl) hl) ?_
    refine qm_G.s1 rfl (qm_x_icmp_gt_t ⟨by omega, by omega⟩ ⟨by omega, by omega⟩ (by omega)) ?_
    exact qm_G.retv rfl (k L (fun _ _ _ _ => rfl) (fun x h3 h4 => tv x h3 (by omega)))
  | succ n ih =>
    intro s L h1 h2 tv k
    have h3 : s ≤ lim := by omega
    refine qm_G.pk (lv1 := [(0, qm_R (some (0, 35, 0))), (1, qm_R (some (0, 40, 1))), (2, qm_I (qm_i fine)), (3, qm_I (qm_i s))]) rfl rfl rfl ?_
    refine qm_G.sp (lv1 := [(0, qm_R (some (0, 35, 0))), (1, qm_R (some (0, 40, 1))), (2, qm_I (qm_i fine)), (3, qm_I (qm_i s))]) rfl rfl (qm_x_iload rfl) ?_
    refine qm_G.s1 rfl (qm_x_aload rfl) ?_
    refine qm_G.s1 rfl (qm_x_getfI (v := lim) (hS 35 rfl) hl) ?_
    refine qm_G.s1 rfl (qm_x_icmp_gt_f ⟨by omega, by omega⟩ ⟨by omega, by omega⟩ (by omega)) ?_
    refine qm_G.s1 rfl (qm_x_aload rfl) ?_
    refine qm_G.s1 rfl (qm_x_iload rfl) ?_
    refine qm_G.s1 rfl (qm_x_pushI 8 rfl) ?_
    refine qm_G.s1 rfl (qm_x_iadd) ?_
    refine qm_G.s1 rfl (qm_x_pushL (-1000000) rfl) ?_
    refine qm_G.s1 rfl (qm_x_iload rfl) ?_
    refine qm_G.s1 rfl (qm_x_i2l ⟨by omega, by omega⟩) ?_
    refine qm_G.s1 rfl (qm_x_lmul) ?_
    refine qm_G.s1 rfl (qm_x_iload rfl) ?_
    refine qm_G.s1 rfl (qm_x_i2l ⟨by omega, by omega⟩) ?_
    refine qm_G.s1 rfl (qm_x_lmul) ?_
    refine qm_G.s1 rfl (qm_x_iload rfl) ?_
    refine qm_G.s1 rfl (qm_x_i2l ⟨by omega, by omega⟩) ?_
    refine qm_G.s1 rfl (qm_x_lmul) ?_
    refine qm_G.s1 rfl (qm_x_last (qm_arS hS rfl rfl) rfl (by omega) (by omega) (by decide)) ?_
    refine qm_G.s1 rfl (qm_x_iinc (lv' := [(3, qm_I (qm_i (s + 1))), (0, qm_R (some (0, 35, 0))), (1, qm_R (some (0, 40, 1))), (2, qm_I (qm_i fine))]) 1 rfl rfl rfl) ?_
    refine qm_G.s1 rfl (qm_x_goto) ?_
    refine qm_G.pk (lv1 := [(0, qm_R (some (0, 35, 0))), (1, qm_R (some (0, 40, 1))), (2, qm_I (qm_i fine)), (3, qm_I (qm_i (s + 1)))]) rfl rfl rfl ?_
    refine ih (s + 1) _ (by omega) (by omega) (fun x h3 h4 => ?_) (fun L2 e2 t2 => k L2 (fun r s i h => (e2 r s i h).trans (qm_st_ne (by omega))) t2)
    by_cases hx : x = s
    · subst hx; exact qm_st_eq
    · rw [qm_st_ne (by omega)]; exact tv x h3 (by omega)
theorem qm_d_fiw {S : List qm_Sh} {J K : qm_J} {L : qm_Ct Int64} {D : qm_Ct UInt64} {R : qm_Ct (Option qm_Rf)} {X : Nat × (Nat → Int32)} {Q : Option qm_V → qm_Hp → Prop} {lim fine : Int} (hS : qm_Sd S) (hR : qm_Rd R) (hl : J 35 0 6 = lim) (rl : 1 ≤ lim ∧ lim ≤ 8) (rf : 0 ≤ fine ∧ fine ≤ 99) (k : ∀ L' : qm_Ct Int64, (∀ r s i, r ≠ 40 → L' r s i = L r s i) → (∀ x : Int, -lim ≤ x → x < lim + 1 → L' 40 1 (Int.toNat (x + 8)) = qm_v0 fine x) → Q none (qm_H S J K L' D R X)) : qm_C qm_P 33 [qm_R (some (0, 35, 0)), qm_R (some (0, 40, 1)), qm_I (qm_i fine)] (qm_H S J K L D R X) Q := by
  refine qm_C.go (cd := qm_P33) (lv := [(0, qm_R (some (0, 35, 0))), (1, qm_R (some (0, 40, 1))), (2, qm_I (qm_i fine))]) rfl rfl ?_
  refine qm_G.s1 rfl (qm_x_aload rfl) ?_
  refine qm_G.s1 rfl (qm_x_getfI (v := lim) (hS 35 rfl) hl) ?_
  refine qm_G.s1 rfl (qm_x_ineg) ?_
  refine qm_G.s1 rfl (qm_x_istore (lv' := [(3, qm_I (qm_i (-lim))), (0, qm_R (some (0, 35, 0))), (1, qm_R (some (0, 40, 1))), (2, qm_I (qm_i fine))]) rfl) ?_
  refine qm_G.pk (lv1 := [(0, qm_R (some (0, 35, 0))), (1, qm_R (some (0, 40, 1))), (2, qm_I (qm_i fine)), (3, qm_I (qm_i (-lim)))]) rfl rfl rfl ?_
  exact qm_d_fiwl (Pb := fun _ => 0) (Pa := fun _ => 0) hS hR hl rl rf (Int.toNat (2 * lim + 1)) (-lim) L (by omega) (by omega) (fun x h3 h4 => absurd h4 (by omega)) k
/-- the tables, told up to row T and place s -/
def qm_TV (Pb Pa : Int → Int) (lim fine : Int) (J : qm_J) (L : qm_Ct Int64) (T s : Int) : Prop := ∀ t x : Int, 0 ≤ t → (t < T ∨ t = T ∧ x < s) → -lim ≤ x → x ≤ lim → L 37 (Int.toNat t + 1) (Int.toNat (x + 8)) = (qm_VB Pb Pa lim fine (Int.toNat t) x).1 ∧ (1 ≤ t → J 38 (Int.toNat t + 1) (Int.toNat (x + 8)) = (qm_VB Pb Pa lim fine (Int.toNat t) x).2.1 ∧ J 39 (Int.toNat t + 1) (Int.toNat (x + 8)) = (qm_VB Pb Pa lim fine (Int.toNat t) x).2.2)
theorem qm_TV.step {Pb Pa : Int → Int} {lim fine T s : Int} {J : qm_J} {L : qm_Ct Int64} (h : qm_TV Pb Pa lim fine J L T s) (hT : 1 ≤ T) (hs : -lim ≤ s ∧ s ≤ lim) (hl : lim ≤ 8) {v : Int64} {x0 y0 x y : Int} (e : qm_out (fun b a => qm_mn (Pb b) (Pa a) b a (qm_hd (fun x => (qm_VB Pb Pa lim fine (Int.toNat (T - 1)) x).1) lim s) (qm_hd (fun x => (qm_VB Pb Pa lim fine (Int.toNat (T - 1)) x).1) lim (s + 1)) (qm_hd (fun x => (qm_VB Pb Pa lim fine (Int.toNat (T - 1)) x).1) lim (s - 1))) (if s = -lim then 6 else 0) (if s = -lim then 1 else 7) (if s = lim then 1 else 7) (if s = lim then 6 else 0) (qm_l (-9223372036854775808), x0, y0) = (v, x, y)) : qm_TV Pb Pa lim fine (qm_set (qm_set J 38 (Int.toNat T + 1) (Int.toNat (s + 8)) x) 39 (Int.toNat T + 1) (Int.toNat (s + 8)) y) (qm_set L 37 (Int.toNat T + 1) (Int.toNat (s + 8)) v) T (s + 1) := by
  intro t z h0 h1 h2 h3
  by_cases hx : t = T ∧ z = s
  · obtain ⟨c1, c2⟩ := hx
    subst c1 c2
    have e2 : qm_VB Pb Pa lim fine (Int.toNat t) z = (v, x, y) := by
      rw [show Int.toNat t = Int.toNat (t - 1) + 1 by omega, ← e]
      exact qm_out_any (by split <;> decide) (by split <;> decide) qm_mn_gt
    rw [e2]
    exact ⟨qm_st_eq, fun _ => ⟨by rw [qm_st_ne (by omega)]; exact qm_st_eq, qm_st_eq⟩⟩
  · rw [qm_st_ne (by omega), qm_st_ne (by omega), qm_st_ne (by omega), qm_st_ne (by omega)]
    exact h t z h0 (by omega) h2 h3
theorem qm_TV.row {Pb Pa : Int → Int} {lim fine T : Int} {J : qm_J} {L : qm_Ct Int64} (h : qm_TV Pb Pa lim fine J L T (lim + 1)) : qm_TV Pb Pa lim fine J L (T + 1) (-lim) := fun t z h0 h1 h2 h3 => h t z h0 (by omega) h2 h3
theorem qm_d_sla {S : List qm_Sh} {K : qm_J} {D : qm_Ct UInt64} {R : qm_Ct (Option qm_Rf)} {X : Nat × (Nat → Int32)} {Q : Option qm_V → qm_Hp → Prop} {lim fine T : Int} {Pb Pa : Int → Int} (hS : qm_Sd S) (hR : qm_Rd R) (rl : 1 ≤ lim ∧ lim ≤ 8) {t : Int} (rt : 1 ≤ t ∧ t ≤ 8) : ∀ (n : Nat) (s : Int) (J : qm_J) (L : qm_Ct Int64), s + n = lim + 1 → -lim ≤ s → qm_Bk J lim Pb Pa → qm_TV Pb Pa lim fine J L t s → (∀ (J' : qm_J) (L' : qm_Ct Int64), (∀ r s i, ¬ (r = 38 ∨ r = 39) → J' r s i = J r s i) → (∀ r s i, r ≠ 37 → L' r s i = L r s i) → qm_TV Pb Pa lim fine J' L' t (lim + 1) → qm_G qm_P qm_P186 62 [(0, qm_R (some (0, 35, 0))), (3, qm_I (qm_i T)), (4, qm_I (qm_i t))] [] (qm_H S J' K L' D R X) Q) → qm_G qm_P qm_P186 39 [(0, qm_R (some (0, 35, 0))), (3, qm_I (qm_i T)), (4, qm_I (qm_i t)), (5, qm_I (qm_i s))] [] (qm_H S J K L D R X) Q := by
  intro n
  induction n with
  | zero =>
    intro s J L h1 h2 hB tv k
    refine qm_G.pk (lv1 := [(0, qm_R (some (0, 35, 0))), (3, qm_I (qm_i T)), (4, qm_I (qm_i t)), (5, qm_I (qm_i s))]) rfl rfl rfl ?_
    refine qm_G.sp (lv1 := [(0, qm_R (some (0, 35, 0))), (3, qm_I (qm_i T)), (4, qm_I (qm_i t)), (5, qm_I (qm_i s))]) rfl rfl (qm_x_iload rfl) ?_
    refine qm_G.s1 rfl (qm_x_aload rfl) ?_
    refine qm_G.s1 rfl (qm_x_getfI (v := lim) (hS 35 rfl) hB.1) ?_
    refine qm_G.s1 rfl (qm_x_icmp_gt_t ⟨by omega, by omega⟩ ⟨by omega, by omega⟩ (by omega)) ?_
    refine qm_G.pk (lv1 := [(0, qm_R (some (0, 35, 0))), (3, qm_I (qm_i T)), (4, qm_I (qm_i t))]) rfl rfl rfl ?_
    exact k J L (fun _ _ _ _ => rfl) (fun _ _ _ _ => rfl) (fun a b c d e f => tv a b c (by omega) e f)
  | succ n ih =>
    intro s J L h1 h2 hB tv k
    have h3 : s ≤ lim := by omega
    refine qm_G.pk (lv1 := [(0, qm_R (some (0, 35, 0))), (3, qm_I (qm_i T)), (4, qm_I (qm_i t)), (5, qm_I (qm_i s))]) rfl rfl rfl ?_
    refine qm_G.sp (lv1 := [(0, qm_R (some (0, 35, 0))), (3, qm_I (qm_i T)), (4, qm_I (qm_i t)), (5, qm_I (qm_i s))]) rfl rfl (qm_x_iload rfl) ?_
    refine qm_G.s1 rfl (qm_x_aload rfl) ?_
    refine qm_G.s1 rfl (qm_x_getfI (v := lim) (hS 35 rfl) hB.1) ?_
    refine qm_G.s1 rfl (qm_x_icmp_gt_f ⟨by omega, by omega⟩ ⟨by omega, by omega⟩ (by omega)) ?_
    refine qm_G.s1 rfl (qm_x_aload rfl) ?_
    refine qm_G.s1 rfl (qm_x_iload rfl) ?_
    refine qm_G.s1 rfl (qm_x_iload rfl) ?_
    refine qm_G.cmv rfl rfl (hS 35 rfl) rfl ?_
    refine qm_d_choose hS hR hB (by omega) rt (fun z i hi z1 z2 => by subst hi; exact (tv (t - 1) z (by omega) (Or.inl (by omega)) z1 z2).1) (fun v1 x1 y1 e1 => ⟨rfl, ?_⟩)
    refine qm_G.s1 rfl (qm_x_iinc (lv' := [(5, qm_I (qm_i (s + 1))), (0, qm_R (some (0, 35, 0))), (3, qm_I (qm_i T)), (4, qm_I (qm_i t))]) 1 rfl rfl rfl) ?_
    refine qm_G.s1 rfl (qm_x_goto) ?_
    refine qm_G.pk (lv1 := [(0, qm_R (some (0, 35, 0))), (3, qm_I (qm_i T)), (4, qm_I (qm_i t)), (5, qm_I (qm_i (s + 1)))]) rfl rfl rfl ?_
    refine ih (s + 1) _ _ (by omega) (by omega) (hB.fr (fun r q i h => by rw [qm_st_ne (by omega), qm_st_ne (by omega)])) (tv.step rt.1 (by omega) rl.2 e1) (fun J' L' eJ eL t2 => k J' L' (fun r q i h => by rw [eJ r q i h, qm_st_ne (by omega), qm_st_ne (by omega)]) (fun r q i h => by rw [eL r q i h, qm_st_ne (by omega)]) t2)
theorem qm_d_slb {S : List qm_Sh} {K : qm_J} {D : qm_Ct UInt64} {R : qm_Ct (Option qm_Rf)} {X : Nat × (Nat → Int32)} {Q : Option qm_V → qm_Hp → Prop} {lim fine T : Int} {Pb Pa : Int → Int} (hS : qm_Sd S) (hR : qm_Rd R) (rl : 1 ≤ lim ∧ lim ≤ 8) (rT : 0 ≤ T ∧ T ≤ 8) : ∀ (n : Nat) (t : Int) (J : qm_J) (L : qm_Ct Int64), t + n = T + 1 → 1 ≤ t → qm_Bk J lim Pb Pa → qm_TV Pb Pa lim fine J L t (-lim) → (∀ (J' : qm_J) (L' : qm_Ct Int64), (∀ r s i, ¬ (r = 38 ∨ r = 39) → J' r s i = J r s i) → (∀ r s i, r ≠ 37 → L' r s i = L r s i) → qm_TV Pb Pa lim fine J' L' (T + 1) (-lim) → Q none (qm_H S J' K L' D R X)) → qm_G qm_P qm_P186 19 [(0, qm_R (some (0, 35, 0))), (3, qm_I (qm_i T)), (4, qm_I (qm_i t))] [] (qm_H S J K L D R X) Q := by
  intro n
  induction n with
  | zero =>
    intro t J L h1 h2 hB tv k
    refine qm_G.pk (lv1 := [(0, qm_R (some (0, 35, 0))), (3, qm_I (qm_i T)), (4, qm_I (qm_i t))]) rfl rfl rfl ?_
    refine qm_G.sp (lv1 := [(0, qm_R (some (0, 35, 0))), (3, qm_I (qm_i T)), (4, qm_I (qm_i t))]) rfl rfl (qm_x_iload rfl) ?_
    refine qm_G.s1 rfl (qm_x_iload rfl) ?_
    refine qm_G.s1 rfl (qm_x_icmp_gt_t ⟨by omega, by omega⟩ ⟨by omega, by omega⟩ (by omega)) ?_
    exact qm_G.retv rfl (k J L (fun _ _ _ _ => rfl) (fun _ _ _ _ => rfl) (fun a b c d e f => tv a b c (by omega) e f))
  | succ n ih =>
    intro t J L h1 h2 hB tv k
    have h3 : t ≤ T := by omega
    have rl2 := hB.2.1
    refine qm_G.pk (lv1 := [(0, qm_R (some (0, 35, 0))), (3, qm_I (qm_i T)), (4, qm_I (qm_i t))]) rfl rfl rfl ?_
    refine qm_G.sp (lv1 := [(0, qm_R (some (0, 35, 0))), (3, qm_I (qm_i T)), (4, qm_I (qm_i t))]) rfl rfl (qm_x_iload rfl) ?_
    refine qm_G.s1 rfl (qm_x_iload rfl) ?_
    refine qm_G.s1 rfl (qm_x_icmp_gt_f ⟨by omega, by omega⟩ ⟨by omega, by omega⟩ (by omega)) ?_
    refine qm_G.s1 rfl (qm_x_iload rfl) ?_
    refine qm_G.s1 rfl (qm_x_pushI 8 rfl) ?_
    refine qm_G.s1 rfl (qm_x_icmp_gt_f ⟨by omega, by omega⟩ ⟨by decide, by decide⟩ (by omega)) ?_
    refine qm_G.s1 rfl (qm_x_aload rfl) ?_
    refine qm_G.s1 rfl (qm_x_getfI (v := lim) (hS 35 rfl) hB.1) ?_
    refine qm_G.s1 rfl (qm_x_ineg) ?_
    refine qm_G.s1 rfl (qm_x_istore (lv' := [(5, qm_I (qm_i (-lim))), (0, qm_R (some (0, 35, 0))), (3, qm_I (qm_i T)), (4, qm_I (qm_i t))]) rfl) ?_
    refine qm_G.pk (lv1 := [(0, qm_R (some (0, 35, 0))), (3, qm_I (qm_i T)), (4, qm_I (qm_i t)), (5, qm_I (qm_i (-lim)))]) rfl rfl rfl ?_
    refine qm_d_sla hS hR rl (by omega) (Int.toNat (2 * lim + 1)) (-lim) J L (by omega) (by omega) hB tv (fun J1 L1 eJ eL t1 => ?_)
    refine qm_G.sp (lv1 := [(0, qm_R (some (0, 35, 0))), (3, qm_I (qm_i T)), (4, qm_I (qm_i t))]) rfl rfl (qm_x_iinc (lv' := [(4, qm_I (qm_i (t + 1))), (0, qm_R (some (0, 35, 0))), (3, qm_I (qm_i T))]) 1 rfl rfl rfl) ?_
    refine qm_G.s1 rfl (qm_x_goto) ?_
    refine qm_G.pk (lv1 := [(0, qm_R (some (0, 35, 0))), (3, qm_I (qm_i T)), (4, qm_I (qm_i (t + 1)))]) rfl rfl rfl ?_
    exact ih (t + 1) J1 L1 (by omega) (by omega) (hB.fr (fun r q i h => eJ r q i (by omega))) t1.row (fun J' L' eJ2 eL2 t2 => k J' L' (fun r q i h => (eJ2 r q i h).trans (eJ r q i h)) (fun r q i h => (eL2 r q i h).trans (eL r q i h)) t2)
theorem qm_d_solve {S : List qm_Sh} {J K : qm_J} {L : qm_Ct Int64} {D : qm_Ct UInt64} {R : qm_Ct (Option qm_Rf)} {X : Nat × (Nat → Int32)} {Q : Option qm_V → qm_Hp → Prop} {lim fine T : Int} {Pb Pa : Int → Int} (hS : qm_Sd S) (hR : qm_Rd R) (rl : 1 ≤ lim ∧ lim ≤ 8) (rf : 0 ≤ fine ∧ fine ≤ 99) (rT : 0 ≤ T ∧ T ≤ 8) (hPb : ∀ (z : Int) (i : Nat), i = Int.toNat z → 0 ≤ z → z ≤ 6 → J 36 1 i = Pb z) (hPa : ∀ (z : Int) (i : Nat), i = Int.toNat z → 0 ≤ z → z ≤ 6 → J 36 2 i = Pa z) (rPb : ∀ z : Int, 0 ≤ z → z ≤ 6 → 0 ≤ Pb z ∧ Pb z ≤ 1000) (rPa : ∀ z : Int, 0 ≤ z → z ≤ 6 → 0 ≤ Pa z ∧ Pa z ≤ 1000) (k : ∀ (J' : qm_J) (L' : qm_Ct Int64), (∀ r s i, ¬ (r = 38 ∨ r = 39 ∨ r = 35 ∧ i = 6) → J' r s i = J r s i) → J' 35 0 6 = lim → (∀ r s i, r ≠ 37 → L' r s i = L r s i) → qm_TV Pb Pa lim fine J' L' (T + 1) (-lim) → Q none (qm_H S J' K L' D R X)) : qm_C qm_P 186 [qm_R (some (0, 35, 0)), qm_I (qm_i lim), qm_I (qm_i fine), qm_I (qm_i T)] (qm_H S J K L D R X) Q := by
  refine qm_C.go (cd := qm_P186) (lv := [(0, qm_R (some (0, 35, 0))), (1, qm_I (qm_i lim)), (2, qm_I (qm_i fine)), (3, qm_I (qm_i T))]) rfl rfl ?_
  refine qm_G.s1 rfl (qm_x_aload rfl) ?_
  refine qm_G.s1 rfl (qm_x_iload rfl) ?_
  refine qm_G.s1 rfl (qm_x_putfI (hS 35 rfl)) ?_
  refine qm_G.s1 rfl (qm_x_aload rfl) ?_
  refine qm_G.s1 rfl (qm_x_aload rfl) ?_
  refine qm_G.s1 rfl (qm_x_getfR (q := (some (0, 37, 0))) (hS 35 rfl) (hR 35 1 37 rfl rfl)) ?_
  refine qm_G.s1 rfl (qm_x_pushI 0 rfl) ?_
  refine qm_G.s1 rfl (qm_x_aaldg (hS 37 rfl) rfl rfl (by decide) (by decide)) ?_
  refine qm_G.s1 rfl (qm_x_iload rfl) ?_
  refine qm_G.cmv rfl rfl (hS 35 rfl) rfl ?_
  refine qm_d_fin hS hR (lim := lim) (fine := fine) qm_st_eq rl rf (fun L1 eL1 tv1 => ⟨rfl, ?_⟩)
  refine qm_G.s1 rfl (qm_x_pushI 1 rfl) ?_
  refine qm_G.s1 rfl (qm_x_istore (lv' := [(4, qm_I (qm_i 1)), (0, qm_R (some (0, 35, 0))), (1, qm_I (qm_i lim)), (2, qm_I (qm_i fine)), (3, qm_I (qm_i T))]) rfl) ?_
  refine qm_G.pk (lv1 := [(0, qm_R (some (0, 35, 0))), (3, qm_I (qm_i T)), (4, qm_I (qm_i 1))]) rfl rfl rfl ?_
  exact qm_d_slb (fine := fine) (Pb := Pb) (Pa := Pa) hS hR rl rT (Int.toNat T) 1 _ L1 (by omega) (by omega) ⟨qm_st_eq, rl, fun z i a b c => by rw [qm_st_ne (by omega)]; exact hPb z i a b c, fun z i a b c => by rw [qm_st_ne (by omega)]; exact hPa z i a b c, rPb, rPa⟩ (fun a b c d e f => ⟨by rw [show a = 0 by omega]; exact tv1 b e (by omega), fun g => absurd g (by omega)⟩) (fun J' L' eJ eL t2 => k J' L' (fun r q i h => by rw [eJ r q i (by omega), qm_st_ne (by omega)]) (by rw [eJ 35 0 6 (by omega)]; exact qm_st_eq) (fun r q i h => (eL r q i h).trans (eL1 r q i h)) t2)
theorem qm_d_lka {S : List qm_Sh} {K : qm_J} {L : qm_Ct Int64} {D : qm_Ct UInt64} {R : qm_Ct (Option qm_Rf)} {X : Nat × (Nat → Int32)} {Q : Option qm_V → qm_Hp → Prop} {N : Nat → Int} {g : Int} (hS : qm_Sd S) (hR : qm_Rd R) (rg : 0 ≤ g ∧ g ≤ 15) : ∀ (n : Nat) (d : Int) (J : qm_J), d + n = 7 → 0 ≤ d → qm_Mkn S J R → J 62 0 = N → (∀ (z : Int) (i : Nat), i = Int.toNat z → 0 ≤ z → z < d → J 36 1 i = qm_ch N g 0 z) → (∀ (z : Int) (i : Nat), i = Int.toNat z → 0 ≤ z → z < d → J 36 2 i = qm_ch N g 1 z) → (∀ J' : qm_J, (∀ r s i, r ≠ 36 → J' r s i = J r s i) → (∀ (z : Int) (i : Nat), i = Int.toNat z → 0 ≤ z → z ≤ 6 → J' 36 1 i = qm_ch N g 0 z) → (∀ (z : Int) (i : Nat), i = Int.toNat z → 0 ≤ z → z ≤ 6 → J' 36 2 i = qm_ch N g 1 z) → Q none (qm_H S J' K L D R X)) → qm_G qm_P qm_P181 2 [(0, qm_R (some (0, 35, 0))), (1, qm_R (some (0, 2, 0))), (2, qm_I (qm_i g)), (3, qm_I (qm_i d))] [] (qm_H S J K L D R X) Q := by
  intro n
  induction n with
  | zero =>
    intro d J h1 h2 hM hN t1 t2 k
    refine qm_G.pk (lv1 := [(0, qm_R (some (0, 35, 0))), (1, qm_R (some (0, 2, 0))), (2, qm_I (qm_i g)), (3, qm_I (qm_i d))]) rfl rfl rfl ?_
    refine qm_G.sp (lv1 := [(0, qm_R (some (0, 35, 0))), (1, qm_R (some (0, 2, 0))), (2, qm_I (qm_i g)), (3, qm_I (qm_i d))]) rfl rfl (qm_x_iload rfl) ?_
    refine qm_G.s1 rfl (qm_x_pushI 7 rfl) ?_
    refine qm_G.s1 rfl (qm_x_icmp_ge_t ⟨by omega, by omega⟩ ⟨by decide, by decide⟩ (by omega)) ?_
    exact qm_G.retv rfl (k J (fun _ _ _ _ => rfl) (fun z i a b c => t1 z i a b (by omega)) (fun z i a b c => t2 z i a b (by omega)))
  | succ n ih =>
    intro d J h1 h2 hM hN t1 t2 k
    have h3 : d ≤ 6 := by omega
    refine qm_G.pk (lv1 := [(0, qm_R (some (0, 35, 0))), (1, qm_R (some (0, 2, 0))), (2, qm_I (qm_i g)), (3, qm_I (qm_i d))]) rfl rfl rfl ?_
    refine qm_G.sp (lv1 := [(0, qm_R (some (0, 35, 0))), (1, qm_R (some (0, 2, 0))), (2, qm_I (qm_i g)), (3, qm_I (qm_i d))]) rfl rfl (qm_x_iload rfl) ?_
    refine qm_G.s1 rfl (qm_x_pushI 7 rfl) ?_
    refine qm_G.s1 rfl (qm_x_icmp_ge_f ⟨by omega, by omega⟩ ⟨by decide, by decide⟩ (by omega)) ?_
    refine qm_G.s1 rfl (qm_x_aload rfl) ?_
    refine qm_G.s1 rfl (qm_x_getfR (q := (some (0, 36, 0))) (hS 35 rfl) (hR 35 0 36 rfl rfl)) ?_
    refine qm_G.s1 rfl (qm_x_pushI 0 rfl) ?_
    refine qm_G.s1 rfl (qm_x_aaldg (hS 36 rfl) rfl rfl (by decide) (by decide)) ?_
    refine qm_G.s1 rfl (qm_x_iload rfl) ?_
    refine qm_G.s1 rfl (qm_x_aload rfl) ?_
    refine qm_G.s1 rfl (qm_x_pushI 0 rfl) ?_
    refine qm_G.s1 rfl (qm_x_iload rfl) ?_
    refine qm_G.s1 rfl (qm_x_iload rfl) ?_
    refine qm_G.cm rfl rfl (hS 2 rfl) rfl ?_
    refine qm_d_lik hS hR hM (by decide) (by omega) rg (fun w0 y0 => ⟨_, rfl, ?_⟩)
    have hM2 : qm_Mkn S (qm_set J 36 1 (Int.toNat d) w0) R := hM.fr (fun r q i h => qm_st_ne (by omega))
    refine qm_G.s1 rfl (qm_x_iast (qm_arS hS rfl rfl) rfl (by omega) (by omega) (by decide)) ?_
    refine qm_G.s1 rfl (qm_x_aload rfl) ?_
    refine qm_G.s1 rfl (qm_x_getfR (q := (some (0, 36, 0))) (hS 35 rfl) (hR 35 0 36 rfl rfl)) ?_
    refine qm_G.s1 rfl (qm_x_pushI 1 rfl) ?_
    refine qm_G.s1 rfl (qm_x_aaldg (hS 36 rfl) rfl rfl (by decide) (by decide)) ?_
    refine qm_G.s1 rfl (qm_x_iload rfl) ?_
    refine qm_G.s1 rfl (qm_x_aload rfl) ?_
    refine qm_G.s1 rfl (qm_x_pushI 1 rfl) ?_
    refine qm_G.s1 rfl (qm_x_iload rfl) ?_
    refine qm_G.s1 rfl (qm_x_iload rfl) ?_
    refine qm_G.cm rfl rfl (hS 2 rfl) rfl ?_
    refine qm_d_lik hS hR hM2 (by decide) (by omega) rg (fun w1 y1 => ⟨_, rfl, ?_⟩)
    refine qm_G.s1 rfl (qm_x_iast (qm_arS hS rfl rfl) rfl (by omega) (by omega) (by decide)) ?_
    refine qm_G.s1 rfl (qm_x_iinc (lv' := [(3, qm_I (qm_i (d + 1))), (0, qm_R (some (0, 35, 0))), (1, qm_R (some (0, 2, 0))), (2, qm_I (qm_i g))]) 1 rfl rfl rfl) ?_
    refine qm_G.s1 rfl (qm_x_goto) ?_
    refine qm_G.pk (lv1 := [(0, qm_R (some (0, 35, 0))), (1, qm_R (some (0, 2, 0))), (2, qm_I (qm_i g)), (3, qm_I (qm_i (d + 1)))]) rfl rfl rfl ?_
    have e62 : (qm_set J 36 1 (Int.toNat d) w0) 62 0 = J 62 0 := funext (fun i => qm_st_ne (by omega))
    change w1 = qm_ch (qm_set J 36 1 (Int.toNat d) w0 62 0) g 1 d at y1
    rw [e62] at y1
    show qm_G qm_P qm_P181 2 [(0, qm_R (some (0, 35, 0))), (1, qm_R (some (0, 2, 0))), (2, qm_I (qm_i g)), (3, qm_I (qm_i (d + 1)))] [] (qm_H S (qm_set (qm_set J 36 1 (Int.toNat d) w0) 36 2 (Int.toNat d) w1) K L D R X) Q
    refine ih (d + 1) _ (by omega) (by omega) (hM2.fr (fun r q i h => qm_st_ne (by omega))) ((funext (fun i => (qm_st_ne (by omega)).trans (qm_st_ne (by omega)))).trans hN) (fun z i a b c => ?_) (fun z i a b c => ?_) (fun J' eJ u1 u2 => k J' (fun r q i h => by rw [eJ r q i h, qm_st_ne (by omega), qm_st_ne (by omega)]) u1 u2)
    · subst a
      by_cases hz : z = d
      · subst hz; rw [qm_st_ne (by omega), qm_st_eq, y0, hN]
      · rw [qm_st_ne (by omega), qm_st_ne (by omega)]; exact t1 z _ rfl b (by omega)
    · subst a
      by_cases hz : z = d
      · subst hz; rw [qm_st_eq, y1, hN]
      · rw [qm_st_ne (by omega), qm_st_ne (by omega)]; exact t2 z _ rfl b (by omega)
theorem qm_d_look {S : List qm_Sh} {J K : qm_J} {L : qm_Ct Int64} {D : qm_Ct UInt64} {R : qm_Ct (Option qm_Rf)} {X : Nat × (Nat → Int32)} {Q : Option qm_V → qm_Hp → Prop} {g : Int} (hS : qm_Sd S) (hR : qm_Rd R) (hM : qm_Mkn S J R) (rg : 0 ≤ g ∧ g ≤ 15) (k : ∀ J' : qm_J, (∀ r s i, r ≠ 36 → J' r s i = J r s i) → (∀ (z : Int) (i : Nat), i = Int.toNat z → 0 ≤ z → z ≤ 6 → J' 36 1 i = qm_ch (J 62 0) g 0 z) → (∀ (z : Int) (i : Nat), i = Int.toNat z → 0 ≤ z → z ≤ 6 → J' 36 2 i = qm_ch (J 62 0) g 1 z) → Q none (qm_H S J' K L D R X)) : qm_C qm_P 181 [qm_R (some (0, 35, 0)), qm_R (some (0, 2, 0)), qm_I (qm_i g)] (qm_H S J K L D R X) Q := by
  refine qm_C.go (cd := qm_P181) (lv := [(0, qm_R (some (0, 35, 0))), (1, qm_R (some (0, 2, 0))), (2, qm_I (qm_i g))]) rfl rfl ?_
  refine qm_G.s1 rfl (qm_x_pushI 0 rfl) ?_
  refine qm_G.s1 rfl (qm_x_istore (lv' := [(3, qm_I (qm_i 0)), (0, qm_R (some (0, 35, 0))), (1, qm_R (some (0, 2, 0))), (2, qm_I (qm_i g))]) rfl) ?_
  refine qm_G.pk (lv1 := [(0, qm_R (some (0, 35, 0))), (1, qm_R (some (0, 2, 0))), (2, qm_I (qm_i g)), (3, qm_I (qm_i 0))]) rfl rfl rfl ?_
  exact qm_d_lka hS hR rg 7 0 J (by decide) (by decide) hM rfl (fun z i a b c => absurd c (by omega)) (fun z i a b c => absurd c (by omega)) k
theorem qm_d_now {S : List qm_Sh} {J K : qm_J} {L : qm_Ct Int64} {D : qm_Ct UInt64} {R : qm_Ct (Option qm_Rf)} {X : Nat × (Nat → Int32)} {Q : Option qm_V → qm_Hp → Prop} {T : Int} (hS : qm_Sd S) (hR : qm_Rd R) (hM : qm_Mkn S J R) (rT : 0 ≤ T ∧ T ≤ 8) (k : ∀ (J' : qm_J) (L' : qm_Ct Int64), (∀ r s i, ¬ (r = 36 ∨ r = 38 ∨ r = 39 ∨ r = 35 ∧ i = 6) → J' r s i = J r s i) → (∀ r s i, r ≠ 37 → L' r s i = L r s i) → qm_Bk J' (J 62 0 1) (qm_ch (J 62 0) 0 0) (qm_ch (J 62 0) 0 1) → qm_TV (qm_ch (J 62 0) 0 0) (qm_ch (J 62 0) 0 1) (J 62 0 1) (J 62 0 3) J' L' (T + 1) (-(J 62 0 1)) → Q none (qm_H S J' K L' D R X)) : qm_C qm_P 205 [qm_R (some (0, 0, 0)), qm_I (qm_i T)] (qm_H S J K L D R X) Q := by
  refine qm_C.go (cd := qm_P205) (lv := [(0, qm_R (some (0, 0, 0))), (1, qm_I (qm_i T))]) rfl rfl ?_
  refine qm_G.s1 rfl (qm_x_aload rfl) ?_
  refine qm_G.s1 rfl (qm_x_getfR (q := (some (0, 35, 0))) (hS 0 rfl) (hR 0 3 35 rfl rfl)) ?_
  refine qm_G.s1 rfl (qm_x_aload rfl) ?_
  refine qm_G.s1 rfl (qm_x_getfR (q := (some (0, 1, 0))) (hS 0 rfl) (hR 0 0 1 rfl rfl)) ?_
  refine qm_G.s1 rfl (qm_x_getfR (q := (some (0, 2, 0))) (hS 1 rfl) (hR 1 0 2 rfl rfl)) ?_
  refine qm_G.s1 rfl (qm_x_pushI 0 rfl) ?_
  refine qm_G.cmv rfl rfl (hS 35 rfl) rfl ?_
  refine qm_d_look hS hR hM (by decide) (fun J1 e1 c1 c2 => ⟨rfl, ?_⟩)
  have q1 : J1 3 0 1 = J 62 0 1 := (e1 3 0 1 (by decide)).trans (hM.set 1 (by decide))
  have q3 : J1 3 0 3 = J 62 0 3 := (e1 3 0 3 (by decide)).trans (hM.set 3 (by decide))
  refine qm_G.s1 rfl (qm_x_aload rfl) ?_
  refine qm_G.s1 rfl (qm_x_getfR (q := (some (0, 35, 0))) (hS 0 rfl) (hR 0 3 35 rfl rfl)) ?_
  refine qm_G.s1 rfl (qm_x_aload rfl) ?_
  refine qm_G.cm rfl rfl (hS 0 rfl) rfl ?_
  refine qm_C.go (cd := qm_P19) (lv := [(0, qm_R (some (0, 0, 0)))]) rfl rfl ?_
  refine qm_G.s1 rfl (qm_x_aload rfl) ?_
  refine qm_G.s1 rfl (qm_x_getfR (q := (some (0, 1, 0))) (hS 0 rfl) (hR 0 0 1 rfl rfl)) ?_
  refine qm_G.s1 rfl (qm_x_getfR (q := (some (0, 2, 0))) (hS 1 rfl) (hR 1 0 2 rfl rfl)) ?_
  refine qm_G.s1 rfl (qm_x_getfR (q := (some (0, 3, 0))) (hS 2 rfl) (hR 2 0 3 rfl rfl)) ?_
  refine qm_G.s1 rfl (qm_x_pushI 1 rfl) ?_
  refine qm_G.s1 rfl (qm_x_iald (v := (J 62 0 1)) (qm_arS hS rfl rfl) rfl (by decide) (by decide) (by decide) q1) ?_
  refine qm_G.ret rfl rfl ⟨_, rfl, ?_⟩
  refine qm_G.s1 rfl (qm_x_aload rfl) ?_
  refine qm_G.s1 rfl (qm_x_getfR (q := (some (0, 1, 0))) (hS 0 rfl) (hR 0 0 1 rfl rfl)) ?_
  refine qm_G.s1 rfl (qm_x_getfR (q := (some (0, 2, 0))) (hS 1 rfl) (hR 1 0 2 rfl rfl)) ?_
  refine qm_G.s1 rfl (qm_x_getfR (q := (some (0, 3, 0))) (hS 2 rfl) (hR 2 0 3 rfl rfl)) ?_
  refine qm_G.s1 rfl (qm_x_pushI 3 rfl) ?_
  refine qm_G.s1 rfl (qm_x_iald (v := (J 62 0 3)) (qm_arS hS rfl rfl) rfl (by decide) (by decide) (by decide) q3) ?_
  refine qm_G.s1 rfl (qm_x_iload rfl) ?_
  refine qm_G.cmv rfl rfl (hS 35 rfl) rfl ?_
  refine qm_d_solve (lim := J 62 0 1) (fine := J 62 0 3) hS hR hM.r1 hM.r3 rT c1 c2 (fun z a b => qm_ch_rng hM.nk (by decide) ⟨a, b⟩) (fun z a b => qm_ch_rng hM.nk (by decide) ⟨a, b⟩) (fun J2 L2 e2 l2 eL t2 => ⟨rfl, ?_⟩)
  exact qm_G.retv rfl (k J2 L2 (fun r q i h => (e2 r q i (by omega)).trans (e1 r q i (by omega))) eL ⟨l2, hM.r1, fun z i a b c => by rw [e2 36 1 i (by omega)]; exact c1 z i a b c, fun z i a b c => by rw [e2 36 2 i (by omega)]; exact c2 z i a b c, fun z a b => qm_ch_rng hM.nk (by decide) ⟨a, b⟩, fun z a b => qm_ch_rng hM.nk (by decide) ⟨a, b⟩⟩ t2)
