/-! FITS: the loops -/
def qm_sn (W : Nat → Int → qm_S3) (lim rn : Int) (sk bk ak : Nat → Int) : Nat → Nat → Bool
  | 0, _ => true
  | n + 1, k => decide ((-lim ≤ sk k ∧ sk k ≤ lim) ∧ rn ≠ 0 ∧ (W (Int.toNat rn) (sk k)).2.1 = bk k ∧ (W (Int.toNat rn) (sk k)).2.2 = ak k) && qm_sn W lim rn sk bk ak n (k + 1)
theorem qm_sn_y {W : Nat → Int → qm_S3} {lim rn : Int} {sk bk ak : Nat → Int} {n k : Nat} (h : (-lim ≤ sk k ∧ sk k ≤ lim) ∧ rn ≠ 0 ∧ (W (Int.toNat rn) (sk k)).2.1 = bk k ∧ (W (Int.toNat rn) (sk k)).2.2 = ak k) : qm_sn W lim rn sk bk ak (n + 1) k = qm_sn W lim rn sk bk ak n (k + 1) := by
  show (decide _ && qm_sn W lim rn sk bk ak n (k + 1)) = _
  rw [decide_eq_true h, Bool.true_and]
theorem qm_sn_n {W : Nat → Int → qm_S3} {lim rn : Int} {sk bk ak : Nat → Int} {n k : Nat} (h : ¬ ((-lim ≤ sk k ∧ sk k ≤ lim) ∧ rn ≠ 0 ∧ (W (Int.toNat rn) (sk k)).2.1 = bk k ∧ (W (Int.toNat rn) (sk k)).2.2 = ak k)) : qm_sn W lim rn sk bk ak (n + 1) k = false := by
  show (decide _ && qm_sn W lim rn sk bk ak n (k + 1)) = _
  rw [decide_eq_false h, Bool.false_and]
theorem qm_sn_f {W : Nat → Int → qm_S3} {lim rn : Int} {sk bk ak : Nat → Int} {j : Nat} (h : ¬ ((-lim ≤ sk j ∧ sk j ≤ lim) ∧ rn ≠ 0 ∧ (W (Int.toNat rn) (sk j)).2.1 = bk j ∧ (W (Int.toNat rn) (sk j)).2.2 = ak j)) : ∀ (n k : Nat), k ≤ j → j < k + n → qm_sn W lim rn sk bk ak n k = false := by
  intro n
  induction n with
  | zero => intro k h1 h2; omega
  | succ n ih =>
    intro k h1 h2
    by_cases e : k = j
    · subst e; exact qm_sn_n h
    · show (decide _ && qm_sn W lim rn sk bk ak n (k + 1)) = _
      rw [ih (k + 1) (by omega) (by omega), Bool.and_false]
theorem qm_bif0 (b : Bool) : (bif b then (0 : Int) else 0) = 0 := by cases b <;> rfl
theorem qm_bifr (b : Bool) : 0 ≤ (bif b then (1 : Int) else 0) ∧ (bif b then (1 : Int) else 0) ≤ 1 := by cases b <;> decide
def qm_Mk (so : Int → Bool) : Nat → Int → Int × Int
  | 0, _ => (0, -5)
  | k + 1, f => bif so f then ((qm_Mk so k (f + 1)).1 + 1, f) else qm_Mk so k (f + 1)
def qm_Rk (so : Int → Bool) : Nat → Int → Int → Int → Int × Int
  | 0, _, m, l => (m, l)
  | k + 1, f, m, l => bif so f then qm_Rk so k (f + 1) (m + 1) (if m = 0 then f else l) else qm_Rk so k (f + 1) m l
theorem qm_Mk_y {so : Int → Bool} {k : Nat} {f : Int} (h : so f = true) : qm_Mk so (k + 1) f = ((qm_Mk so k (f + 1)).1 + 1, f) := by
  show (bif so f then ((qm_Mk so k (f + 1)).1 + 1, f) else qm_Mk so k (f + 1)) = _
  rw [h, cond_true]
theorem qm_Mk_n {so : Int → Bool} {k : Nat} {f : Int} (h : so f = false) : qm_Mk so (k + 1) f = qm_Mk so k (f + 1) := by
  show (bif so f then ((qm_Mk so k (f + 1)).1 + 1, f) else qm_Mk so k (f + 1)) = _
  rw [h, cond_false]
theorem qm_Rk_y {so : Int → Bool} {k : Nat} {f m l : Int} (h : so f = true) : qm_Rk so (k + 1) f m l = qm_Rk so k (f + 1) (m + 1) (if m = 0 then f else l) := by
  show (bif so f then qm_Rk so k (f + 1) (m + 1) (if m = 0 then f else l) else qm_Rk so k (f + 1) m l) = _
  rw [h, cond_true]
theorem qm_Rk_n {so : Int → Bool} {k : Nat} {f m l : Int} (h : so f = false) : qm_Rk so (k + 1) f m l = qm_Rk so k (f + 1) m l := by
  show (bif so f then qm_Rk so k (f + 1) (m + 1) (if m = 0 then f else l) else qm_Rk so k (f + 1) m l) = _
  rw [h, cond_false]
theorem qm_Mk_ok {so : Int → Bool} : ∀ (k : Nat) (f : Int), 0 ≤ (qm_Mk so k f).1 ∧ (qm_Mk so k f).1 ≤ k ∧ ((qm_Mk so k f).1 = 0 → qm_Mk so k f = (0, -5)) ∧ (0 ≤ f → -5 ≤ (qm_Mk so k f).2 ∧ (qm_Mk so k f).2 ≤ f + k) := by
  intro k
  induction k with
  | zero => intro f; exact ⟨Int.le_refl 0, Int.le_refl 0, fun _ => rfl, fun h => ⟨Int.le_refl (-5), by show (-5 : Int) ≤ f + ((0 : Nat) : Int); omega⟩⟩
  | succ k ih =>
    intro f
    have h := ih (f + 1)
    obtain ⟨h1, h2, h3, h4⟩ := h
    unfold qm_Mk
    cases so f with
    | false => exact ⟨h1, by dsimp only [cond_false]; omega, h3, fun h => by have := h4 (by omega); dsimp only [cond_false]; omega⟩
    | true => exact ⟨by dsimp only [cond_true]; omega, by dsimp only [cond_true]; omega, fun e => absurd e (by dsimp only [cond_true]; omega), fun h => by dsimp only [cond_true]; omega⟩
theorem qm_Rk_eq {so : Int → Bool} : ∀ (k : Nat) (f m l : Int), 0 ≤ m → qm_Rk so k f m l = (m + (qm_Mk so k f).1, if m = 0 then (if (qm_Mk so k f).1 = 0 then l else (qm_Mk so k f).2) else l) := by
  intro k
  induction k with
  | zero =>
    intro f m l h
    show (m, l) = (m + 0, if m = 0 then (if (0 : Int) = 0 then l else -5) else l)
    rw [if_pos rfl, Int.add_zero]
    split <;> rfl
  | succ k ih =>
    intro f m l h
    have h9 := (qm_Mk_ok (so := so) k (f + 1)).1
    unfold qm_Rk qm_Mk
    cases so f with
    | false => exact ih (f + 1) m l h
    | true =>
      dsimp only [cond_true]
      rw [ih (f + 1) (m + 1) _ (by omega), if_neg (by omega), if_neg (show ¬ (qm_Mk so k (f + 1)).1 + 1 = 0 by omega), show m + 1 + (qm_Mk so k (f + 1)).1 = m + ((qm_Mk so k (f + 1)).1 + 1) by omega]
theorem qm_Rk_all {so : Int → Bool} : qm_Rk so 21 0 0 (-5) = qm_Mk so 21 0 := by
  rw [qm_Rk_eq 21 0 0 (-5) (by decide), if_pos rfl, Int.zero_add]
  have h := qm_Mk_ok (so := so) 21 0
  split
  · rename_i e; rw [h.2.2.1 e]
  · rfl
theorem qm_d_swl {S : List qm_Sh} {J K : qm_J} {L : qm_Ct Int64} {D : qm_Ct UInt64} {R : qm_Ct (Option qm_Rf)} {X : Nat × (Nat → Int32)} {Q : Option qm_V → qm_Hp → Prop} {cnt lim : Int} {sk bk ak : Nat → Int} (hS : qm_Sd S) (hR : qm_Rd R) (hl3 : J 3 0 1 = lim) (rl : 1 ≤ lim ∧ lim ≤ 8) (hc : J 11 0 3 = cnt) (rc : 0 ≤ cnt ∧ cnt ≤ 5) (h12 : ∀ j, j < 5 → J 12 0 j = sk j ∧ J 13 0 j = bk j ∧ J 14 0 j = ak j) (rs : ∀ j, j < 5 → (-8 ≤ sk j ∧ sk j ≤ 8) ∧ (0 ≤ bk j ∧ bk j ≤ 6) ∧ (0 ≤ ak j ∧ ak j ≤ 6)) (k1 : (∀ j : Nat, (j : Int) < cnt → -lim ≤ sk j ∧ sk j ≤ lim) → Q (some (qm_I (qm_i 1))) (qm_H S J K L D R X)) (k0 : (∃ j : Nat, (j : Int) < cnt ∧ ¬ (-lim ≤ sk j ∧ sk j ≤ lim)) → Q (some (qm_I (qm_i 0))) (qm_H S J K L D R X)) : ∀ (n : Nat) (k : Int), k + n = cnt → 0 ≤ k → (∀ j : Nat, (j : Int) < k → -lim ≤ sk j ∧ sk j ≤ lim) → qm_G qm_P qm_P137 2 [(0, qm_R (some (0, 0, 0))), (1, qm_I (qm_i k))] [] (qm_H S J K L D R X) Q := by
  intro n
  induction n with
  | zero =>
    intro k h1 h2 h3
    refine qm_G.pk (lv1 := [(0, qm_R (some (0, 0, 0))), (1, qm_I (qm_i k))]) rfl rfl rfl ?_
    refine qm_G.sp (lv1 := [(0, qm_R (some (0, 0, 0))), (1, qm_I (qm_i k))]) rfl rfl (qm_x_iload rfl) ?_
    refine qm_G.s1 rfl (qm_x_aload rfl) ?_
    refine qm_G.s1 rfl (qm_x_getfR (q := (some (0, 1, 0))) (hS 0 rfl) (hR 0 0 1 rfl rfl)) ?_
    refine qm_G.s1 rfl (qm_x_getfR (q := (some (0, 11, 0))) (hS 1 rfl) (hR 1 2 11 rfl rfl)) ?_
    refine qm_G.s1 rfl (qm_x_getfI (v := cnt) (hS 11 rfl) hc) ?_
    refine qm_G.s1 rfl (qm_x_icmp_ge_t ⟨by omega, by omega⟩ ⟨by omega, by omega⟩ (by omega)) ?_
    refine qm_G.sp (lv1 := []) rfl rfl (qm_x_pushI 1 rfl) ?_
    exact qm_G.ret rfl rfl (k1 (fun j hj => h3 j (by omega)))
  | succ n ih =>
    intro k h1 h2 h3
    have h4 : k < cnt := by omega
    refine qm_G.pk (lv1 := [(0, qm_R (some (0, 0, 0))), (1, qm_I (qm_i k))]) rfl rfl rfl ?_
    refine qm_G.sp (lv1 := [(0, qm_R (some (0, 0, 0))), (1, qm_I (qm_i k))]) rfl rfl (qm_x_iload rfl) ?_
    refine qm_G.s1 rfl (qm_x_aload rfl) ?_
    refine qm_G.s1 rfl (qm_x_getfR (q := (some (0, 1, 0))) (hS 0 rfl) (hR 0 0 1 rfl rfl)) ?_
    refine qm_G.s1 rfl (qm_x_getfR (q := (some (0, 11, 0))) (hS 1 rfl) (hR 1 2 11 rfl rfl)) ?_
    refine qm_G.s1 rfl (qm_x_getfI (v := cnt) (hS 11 rfl) hc) ?_
    refine qm_G.s1 rfl (qm_x_icmp_ge_f ⟨by omega, by omega⟩ ⟨by omega, by omega⟩ (by omega)) ?_
    refine qm_G.s1 rfl (qm_x_iload rfl) ?_
    refine qm_G.s1 rfl (qm_x_pushI 5 rfl) ?_
    refine qm_G.s1 rfl (qm_x_icmp_ge_f ⟨by omega, by omega⟩ ⟨by decide, by decide⟩ (by omega)) ?_
    refine qm_G.s1 rfl (qm_x_aload rfl) ?_
    refine qm_G.s1 rfl (qm_x_aload rfl) ?_
    refine qm_G.s1 rfl (qm_x_getfR (q := (some (0, 1, 0))) (hS 0 rfl) (hR 0 0 1 rfl rfl)) ?_
    refine qm_G.s1 rfl (qm_x_getfR (q := (some (0, 11, 0))) (hS 1 rfl) (hR 1 2 11 rfl rfl)) ?_
    refine qm_G.s1 rfl (qm_x_getfR (q := (some (0, 12, 0))) (hS 11 rfl) (hR 11 0 12 rfl rfl)) ?_
    refine qm_G.s1 rfl (qm_x_iload rfl) ?_
    have rs9 := rs (Int.toNat k) (by omega)
    refine qm_G.s1 rfl (qm_x_iald (v := (sk (Int.toNat k))) (qm_arS hS rfl rfl) rfl (by omega) (by omega) (by decide) (h12 (Int.toNat k) (by omega)).1) ?_
    refine qm_G.cm rfl rfl (hS 0 rfl) rfl ?_
    refine qm_C.go (cd := qm_P77) (lv := [(0, qm_R (some (0, 0, 0))), (1, qm_I (qm_i (sk (Int.toNat k))))]) rfl rfl ?_
    refine qm_G.s1 rfl (qm_x_iload rfl) ?_
    refine qm_G.s1 rfl (qm_x_aload rfl) ?_
    refine qm_G.cm rfl rfl (hS 0 rfl) rfl ?_
    refine qm_C.go (cd := qm_P19) (lv := [(0, qm_R (some (0, 0, 0)))]) rfl rfl ?_
    refine qm_G.s1 rfl (qm_x_aload rfl) ?_
    refine qm_G.s1 rfl (qm_x_getfR (q := (some (0, 1, 0))) (hS 0 rfl) (hR 0 0 1 rfl rfl)) ?_
    refine qm_G.s1 rfl (qm_x_getfR (q := (some (0, 2, 0))) (hS 1 rfl) (hR 1 0 2 rfl rfl)) ?_
    refine qm_G.s1 rfl (qm_x_getfR (q := (some (0, 3, 0))) (hS 2 rfl) (hR 2 0 3 rfl rfl)) ?_
    refine qm_G.s1 rfl (qm_x_pushI 1 rfl) ?_
    refine qm_G.s1 rfl (qm_x_iald (v := lim) (qm_arS hS rfl rfl) rfl (by decide) (by decide) (by decide) hl3) ?_
    refine qm_G.ret rfl rfl ⟨_, rfl, ?_⟩
    refine qm_G.s1 rfl (qm_x_ineg) ?_
    refine qm_G.s1 rfl (qm_x_aload rfl) ?_
    refine qm_G.cm rfl rfl (hS 0 rfl) rfl ?_
    refine qm_C.go (cd := qm_P19) (lv := [(0, qm_R (some (0, 0, 0)))]) rfl rfl ?_
    refine qm_G.s1 rfl (qm_x_aload rfl) ?_
    refine qm_G.s1 rfl (qm_x_getfR (q := (some (0, 1, 0))) (hS 0 rfl) (hR 0 0 1 rfl rfl)) ?_
    refine qm_G.s1 rfl (qm_x_getfR (q := (some (0, 2, 0))) (hS 1 rfl) (hR 1 0 2 rfl rfl)) ?_
    refine qm_G.s1 rfl (qm_x_getfR (q := (some (0, 3, 0))) (hS 2 rfl) (hR 2 0 3 rfl rfl)) ?_
    refine qm_G.s1 rfl (qm_x_pushI 1 rfl) ?_
    refine qm_G.s1 rfl (qm_x_iald (v := lim) (qm_arS hS rfl rfl) rfl (by decide) (by decide) (by decide) hl3) ?_
    refine qm_G.ret rfl rfl ⟨_, rfl, ?_⟩
    refine qm_G.cs rfl rfl rfl ?_
    refine qm_v_within10 ⟨by omega, by omega⟩ ⟨by omega, by omega⟩ ⟨by omega, by omega⟩ (fun c1 => ⟨_, rfl, ?_⟩) (fun c1 => ⟨_, rfl, ?_⟩)
    · refine qm_G.ret rfl rfl ⟨_, rfl, ?_⟩
      refine qm_G.s1 rfl (qm_x_if_ne_t ⟨by decide, by decide⟩ (by decide)) ?_
      refine qm_G.sp (lv1 := [(0, qm_R (some (0, 0, 0))), (1, qm_I (qm_i k))]) rfl rfl (qm_x_iinc (lv' := [(1, qm_I (qm_i (k + 1))), (0, qm_R (some (0, 0, 0)))]) 1 rfl rfl rfl) ?_
      refine qm_G.s1 rfl (qm_x_goto) ?_
      refine qm_G.pk (lv1 := [(0, qm_R (some (0, 0, 0))), (1, qm_I (qm_i (k + 1)))]) rfl rfl rfl ?_
      exact ih (k + 1) (by omega) (by omega) (fun j hj => if c9 : (j : Int) < k then h3 j c9 else (by rw [show j = Int.toNat k by omega]; omega))
    · refine qm_G.ret rfl rfl ⟨_, rfl, ?_⟩
      refine qm_G.s1 rfl (qm_x_if_ne_f ⟨by decide, by decide⟩ (by decide)) ?_
      refine qm_G.s1 rfl (qm_x_pushI 0 rfl) ?_
      exact qm_G.ret rfl rfl (k0 ⟨Int.toNat k, by omega, by omega⟩)
theorem qm_d_sby {S : List qm_Sh} {J K : qm_J} {L : qm_Ct Int64} {D : qm_Ct UInt64} {R : qm_Ct (Option qm_Rf)} {X : Nat × (Nat → Int32)} {Q : Option qm_V → qm_Hp → Prop} {cnt lim rn : Int} {sk bk ak : Nat → Int} {W : Nat → Int → qm_S3} (hS : qm_Sd S) (hR : qm_Rd R) (rl : 1 ≤ lim ∧ lim ≤ 8) (rr : 1 ≤ rn ∧ rn ≤ 8) (hc : J 11 0 3 = cnt) (rc : 0 ≤ cnt ∧ cnt ≤ 5) (h12 : ∀ j, j < 5 → J 12 0 j = sk j ∧ J 13 0 j = bk j ∧ J 14 0 j = ak j) (rs : ∀ j, j < 5 → (-8 ≤ sk j ∧ sk j ≤ 8) ∧ (0 ≤ bk j ∧ bk j ≤ 6) ∧ (0 ≤ ak j ∧ ak j ≤ 6)) (hin : ∀ j : Nat, (j : Int) < cnt → -lim ≤ sk j ∧ sk j ≤ lim) (rW : ∀ t s, (0 ≤ (W t s).2.1 ∧ (W t s).2.1 ≤ 6) ∧ (0 ≤ (W t s).2.2 ∧ (W t s).2.2 ≤ 6)) (hw : ∀ x : Int, -lim ≤ x → x ≤ lim → J 38 (Int.toNat rn + 1) (Int.toNat (x + 8)) = (W (Int.toNat rn) x).2.1 ∧ J 39 (Int.toNat rn + 1) (Int.toNat (x + 8)) = (W (Int.toNat rn) x).2.2) : ∀ (n : Nat) (k : Int), k + n = cnt → 0 ≤ k → Q (some (qm_I (qm_i (bif qm_sn W lim rn sk bk ak n (Int.toNat k) then 1 else 0)))) (qm_H S J K L D R X) → qm_G qm_P qm_P204 59 [(0, qm_R (some (0, 0, 0))), (2, qm_R (some (0, 11, 0))), (3, qm_I (qm_i rn)), (4, qm_I (qm_i k))] [] (qm_H S J K L D R X) Q := by
  intro n
  induction n with
  | zero =>
    intro k h1 h2 k9
    refine qm_G.pk (lv1 := [(0, qm_R (some (0, 0, 0))), (2, qm_R (some (0, 11, 0))), (3, qm_I (qm_i rn)), (4, qm_I (qm_i k))]) rfl rfl rfl ?_
    refine qm_G.sp (lv1 := [(0, qm_R (some (0, 0, 0))), (2, qm_R (some (0, 11, 0))), (3, qm_I (qm_i rn)), (4, qm_I (qm_i k))]) rfl rfl (qm_x_iload rfl) ?_
    refine qm_G.s1 rfl (qm_x_aload rfl) ?_
    refine qm_G.s1 rfl (qm_x_getfI (v := cnt) (hS 11 rfl) hc) ?_
    refine qm_G.s1 rfl (qm_x_icmp_ge_t ⟨by omega, by omega⟩ ⟨by omega, by omega⟩ (by omega)) ?_
    refine qm_G.sp (lv1 := []) rfl rfl (qm_x_pushI 1 rfl) ?_
    exact qm_G.ret rfl rfl k9
  | succ n ih =>
    intro k h1 h2 k9
    have h4 : k < cnt := by omega
    have hin9 := hin (Int.toNat k) (by omega)
    refine qm_G.pk (lv1 := [(0, qm_R (some (0, 0, 0))), (2, qm_R (some (0, 11, 0))), (3, qm_I (qm_i rn)), (4, qm_I (qm_i k))]) rfl rfl rfl ?_
    refine qm_G.sp (lv1 := [(0, qm_R (some (0, 0, 0))), (2, qm_R (some (0, 11, 0))), (3, qm_I (qm_i rn)), (4, qm_I (qm_i k))]) rfl rfl (qm_x_iload rfl) ?_
    refine qm_G.s1 rfl (qm_x_aload rfl) ?_
    refine qm_G.s1 rfl (qm_x_getfI (v := cnt) (hS 11 rfl) hc) ?_
    refine qm_G.s1 rfl (qm_x_icmp_ge_f ⟨by omega, by omega⟩ ⟨by omega, by omega⟩ (by omega)) ?_
    refine qm_G.s1 rfl (qm_x_iload rfl) ?_
    refine qm_G.s1 rfl (qm_x_pushI 5 rfl) ?_
    refine qm_G.s1 rfl (qm_x_icmp_ge_f ⟨by omega, by omega⟩ ⟨by decide, by decide⟩ (by omega)) ?_
    refine qm_G.s1 rfl (qm_x_aload rfl) ?_
    refine qm_G.s1 rfl (qm_x_getfR (q := (some (0, 12, 0))) (hS 11 rfl) (hR 11 0 12 rfl rfl)) ?_
    refine qm_G.s1 rfl (qm_x_iload rfl) ?_
    have rs9 := rs (Int.toNat k) (by omega)
    refine qm_G.s1 rfl (qm_x_iald (v := (sk (Int.toNat k))) (qm_arS hS rfl rfl) rfl (by omega) (by omega) (by decide) (h12 (Int.toNat k) (by omega)).1) ?_
    refine qm_G.s1 rfl (qm_x_istore (lv' := [(5, qm_I (qm_i (sk (Int.toNat k)))), (0, qm_R (some (0, 0, 0))), (2, qm_R (some (0, 11, 0))), (3, qm_I (qm_i rn)), (4, qm_I (qm_i k))]) rfl) ?_
    refine qm_G.s1 rfl (qm_x_aload rfl) ?_
    refine qm_G.s1 rfl (qm_x_getfR (q := (some (0, 35, 0))) (hS 0 rfl) (hR 0 3 35 rfl rfl)) ?_
    refine qm_G.s1 rfl (qm_x_iload rfl) ?_
    refine qm_G.s1 rfl (qm_x_iload rfl) ?_
    refine qm_G.s1 rfl (qm_x_pushI 0 rfl) ?_
    refine qm_G.cm rfl rfl (hS 35 rfl) rfl ?_
    refine qm_C.go (cd := qm_P31) (lv := [(0, qm_R (some (0, 35, 0))), (1, qm_I (qm_i (sk (Int.toNat k)))), (2, qm_I (qm_i rn)), (3, qm_I (qm_i 0))]) rfl rfl ?_
    refine qm_G.s1 rfl (qm_x_iload rfl) ?_
    refine qm_G.s1 rfl (qm_x_if_ne_f ⟨by decide, by decide⟩ (by decide)) ?_
    refine qm_G.s1 rfl (qm_x_aload rfl) ?_
    refine qm_G.s1 rfl (qm_x_getfR (q := (some (0, 38, 0))) (hS 35 rfl) (hR 35 2 38 rfl rfl)) ?_
    refine qm_G.s1 rfl (qm_x_iload rfl) ?_
    refine qm_G.s1 rfl (qm_x_aaldg (hS 38 rfl) rfl rfl (by omega) (by omega)) ?_
    refine qm_G.s1 rfl (qm_x_iload rfl) ?_
    refine qm_G.s1 rfl (qm_x_pushI 8 rfl) ?_
    refine qm_G.s1 rfl (qm_x_iadd) ?_
    have rw9 := rW (Int.toNat rn) (sk (Int.toNat k))
    refine qm_G.s1 rfl (qm_x_iald (v := ((W (Int.toNat rn) (sk (Int.toNat k))).2.1)) (qm_arS hS rfl rfl) rfl (by omega) (by omega) (by omega) (hw (sk (Int.toNat k)) (by omega) (by omega)).1) ?_
    refine qm_G.s1 rfl (qm_x_goto) ?_
    refine qm_G.ret rfl rfl ⟨_, rfl, ?_⟩
    refine qm_G.s1 rfl (qm_x_aload rfl) ?_
    refine qm_G.s1 rfl (qm_x_getfR (q := (some (0, 13, 0))) (hS 11 rfl) (hR 11 1 13 rfl rfl)) ?_
    refine qm_G.s1 rfl (qm_x_iload rfl) ?_
    refine qm_G.s1 rfl (qm_x_iald (v := (bk (Int.toNat k))) (qm_arS hS rfl rfl) rfl (by omega) (by omega) (by decide) (h12 (Int.toNat k) (by omega)).2.1) ?_
    refine qm_y_icmp_ne rfl ⟨by omega, by omega⟩ ⟨by omega, by omega⟩ (fun c1 => ?_) (fun c1 => ?_)
    · refine qm_G.sp (lv1 := []) rfl rfl (qm_x_pushI 0 rfl) ?_
      exact qm_G.ret rfl rfl (by rw [qm_sn_n (by omega)] at k9; exact k9)
    · refine qm_G.s1 rfl (qm_x_aload rfl) ?_
      refine qm_G.s1 rfl (qm_x_getfR (q := (some (0, 35, 0))) (hS 0 rfl) (hR 0 3 35 rfl rfl)) ?_
      refine qm_G.s1 rfl (qm_x_iload rfl) ?_
      refine qm_G.s1 rfl (qm_x_iload rfl) ?_
      refine qm_G.s1 rfl (qm_x_pushI 1 rfl) ?_
      refine qm_G.cm rfl rfl (hS 35 rfl) rfl ?_
      refine qm_C.go (cd := qm_P31) (lv := [(0, qm_R (some (0, 35, 0))), (1, qm_I (qm_i (sk (Int.toNat k)))), (2, qm_I (qm_i rn)), (3, qm_I (qm_i 1))]) rfl rfl ?_
      refine qm_G.s1 rfl (qm_x_iload rfl) ?_
      refine qm_G.s1 rfl (qm_x_if_ne_t ⟨by decide, by decide⟩ (by decide)) ?_
      refine qm_G.sp (lv1 := [(0, qm_R (some (0, 35, 0))), (1, qm_I (qm_i (sk (Int.toNat k)))), (2, qm_I (qm_i rn))]) rfl rfl (qm_x_aload rfl) ?_
      refine qm_G.s1 rfl (qm_x_getfR (q := (some (0, 39, 0))) (hS 35 rfl) (hR 35 3 39 rfl rfl)) ?_
      refine qm_G.s1 rfl (qm_x_iload rfl) ?_
      refine qm_G.s1 rfl (qm_x_aaldg (hS 39 rfl) rfl rfl (by omega) (by omega)) ?_
      refine qm_G.s1 rfl (qm_x_iload rfl) ?_
      refine qm_G.s1 rfl (qm_x_pushI 8 rfl) ?_
      refine qm_G.s1 rfl (qm_x_iadd) ?_
      refine qm_G.s1 rfl (qm_x_iald (v := ((W (Int.toNat rn) (sk (Int.toNat k))).2.2)) (qm_arS hS rfl rfl) rfl (by omega) (by omega) (by omega) (hw (sk (Int.toNat k)) (by omega) (by omega)).2) ?_
      refine qm_G.ret rfl rfl ⟨_, rfl, ?_⟩
      refine qm_G.s1 rfl (qm_x_aload rfl) ?_
      refine qm_G.s1 rfl (qm_x_getfR (q := (some (0, 14, 0))) (hS 11 rfl) (hR 11 2 14 rfl rfl)) ?_
      refine qm_G.s1 rfl (qm_x_iload rfl) ?_
      refine qm_G.s1 rfl (qm_x_iald (v := (ak (Int.toNat k))) (qm_arS hS rfl rfl) rfl (by omega) (by omega) (by decide) (h12 (Int.toNat k) (by omega)).2.2) ?_
      refine qm_y_icmp_eq rfl ⟨by omega, by omega⟩ ⟨by omega, by omega⟩ (fun c2 => ?_) (fun c2 => ?_)
      · refine qm_G.sp (lv1 := [(0, qm_R (some (0, 0, 0))), (2, qm_R (some (0, 11, 0))), (3, qm_I (qm_i rn)), (4, qm_I (qm_i k))]) rfl rfl (qm_x_iinc (lv' := [(4, qm_I (qm_i (k + 1))), (0, qm_R (some (0, 0, 0))), (2, qm_R (some (0, 11, 0))), (3, qm_I (qm_i rn))]) 1 rfl rfl rfl) ?_
        refine qm_G.s1 rfl (qm_x_goto) ?_
        refine qm_G.pk (lv1 := [(0, qm_R (some (0, 0, 0))), (2, qm_R (some (0, 11, 0))), (3, qm_I (qm_i rn)), (4, qm_I (qm_i (k + 1)))]) rfl rfl rfl ?_
        refine ih (k + 1) (by omega) (by omega) ?_
        rw [qm_sn_y (by omega)] at k9
        rw [show Int.toNat (k + 1) = Int.toNat k + 1 by omega]
        exact k9
      · refine qm_G.sp (lv1 := []) rfl rfl (qm_x_pushI 0 rfl) ?_
        exact qm_G.ret rfl rfl (by rw [qm_sn_n (by omega)] at k9; exact k9)
theorem qm_d_isb {S : List qm_Sh} {J K : qm_J} {L : qm_Ct Int64} {D : qm_Ct UInt64} {R : qm_Ct (Option qm_Rf)} {X : Nat × (Nat → Int32)} {Q : Option qm_V → qm_Hp → Prop} {f : Int} {cnt lim rn : Int} {sk bk ak : Nat → Int} {Pb Pa : Int → Int} (hS : qm_Sd S) (hR : qm_Rd R) (hl3 : J 3 0 1 = lim) (rl : 1 ≤ lim ∧ lim ≤ 8) (hr3 : J 3 0 2 = rn) (rr : 0 ≤ rn ∧ rn ≤ 8) (hc : J 11 0 3 = cnt) (rc : 0 ≤ cnt ∧ cnt ≤ 5) (h12 : ∀ j, j < 5 → J 12 0 j = sk j ∧ J 13 0 j = bk j ∧ J 14 0 j = ak j) (rs : ∀ j, j < 5 → (-8 ≤ sk j ∧ sk j ≤ 8) ∧ (0 ≤ bk j ∧ bk j ≤ 6) ∧ (0 ≤ ak j ∧ ak j ≤ 6)) (hPb : ∀ (z : Int) (i : Nat), i = Int.toNat z → 0 ≤ z → z ≤ 6 → J 36 1 i = Pb z) (hPa : ∀ (z : Int) (i : Nat), i = Int.toNat z → 0 ≤ z → z ≤ 6 → J 36 2 i = Pa z) (rPb : ∀ z : Int, 0 ≤ z → z ≤ 6 → 0 ≤ Pb z ∧ Pb z ≤ 1000) (rPa : ∀ z : Int, 0 ≤ z → z ≤ 6 → 0 ≤ Pa z ∧ Pa z ≤ 1000) (rf : 0 ≤ f ∧ f ≤ 99) (k : ∀ (J' : qm_J) (L' : qm_Ct Int64), (∀ r s i, ¬ (r = 38 ∨ r = 39 ∨ r = 35 ∧ i = 6) → J' r s i = J r s i) → (∀ r s i, r ≠ 37 → L' r s i = L r s i) → Q (some (qm_I (qm_i (bif (qm_sn (qm_VB Pb Pa lim f) lim rn sk bk ak (Int.toNat cnt) 0) then 1 else 0)))) (qm_H S J' K L' D R X)) : qm_C qm_P 204 [qm_R (some (0, 0, 0)), qm_I (qm_i f)] (qm_H S J K L D R X) Q := by
  refine qm_C.go (cd := qm_P204) (lv := [(0, qm_R (some (0, 0, 0))), (1, qm_I (qm_i f))]) rfl rfl ?_
  refine qm_G.s1 rfl (qm_x_aload rfl) ?_
  refine qm_G.s1 rfl (qm_x_getfR (q := (some (0, 1, 0))) (hS 0 rfl) (hR 0 0 1 rfl rfl)) ?_
  refine qm_G.s1 rfl (qm_x_getfR (q := (some (0, 11, 0))) (hS 1 rfl) (hR 1 2 11 rfl rfl)) ?_
  refine qm_G.s1 rfl (qm_x_astore (lv' := [(2, qm_R (some (0, 11, 0))), (0, qm_R (some (0, 0, 0))), (1, qm_I (qm_i f))]) rfl) ?_
  refine qm_G.s1 rfl (qm_x_aload rfl) ?_
  refine qm_G.s1 rfl (qm_x_getfI (v := cnt) (hS 11 rfl) hc) ?_
  refine qm_y_if_ne rfl ⟨by omega, by omega⟩ (fun c1 => ?_) (fun c1 => ?_)
  · refine qm_G.sp (lv1 := [(0, qm_R (some (0, 0, 0))), (1, qm_I (qm_i f)), (2, qm_R (some (0, 11, 0)))]) rfl rfl (qm_x_aload rfl) ?_
    refine qm_G.s1 rfl (qm_x_getfR (q := (some (0, 1, 0))) (hS 0 rfl) (hR 0 0 1 rfl rfl)) ?_
    refine qm_G.s1 rfl (qm_x_getfR (q := (some (0, 2, 0))) (hS 1 rfl) (hR 1 0 2 rfl rfl)) ?_
    refine qm_G.s1 rfl (qm_x_getfR (q := (some (0, 3, 0))) (hS 2 rfl) (hR 2 0 3 rfl rfl)) ?_
    refine qm_G.s1 rfl (qm_x_pushI 2 rfl) ?_
    refine qm_G.s1 rfl (qm_x_iald (v := rn) (qm_arS hS rfl rfl) rfl (by decide) (by decide) (by decide) hr3) ?_
    refine qm_G.s1 rfl (qm_x_istore (lv' := [(3, qm_I (qm_i rn)), (0, qm_R (some (0, 0, 0))), (1, qm_I (qm_i f)), (2, qm_R (some (0, 11, 0)))]) rfl) ?_
    refine qm_G.s1 rfl (qm_x_iload rfl) ?_
    refine qm_y_if_eq rfl ⟨by omega, by omega⟩ (fun c2 => ?_) (fun c2 => ?_)
    · refine qm_G.sp (lv1 := []) rfl rfl (qm_x_pushI 0 rfl) ?_
      exact qm_G.ret rfl rfl (by have k9 := k J L (fun _ _ _ _ => rfl) (fun _ _ _ _ => rfl); rw [qm_sn_f (j := 0) (fun h => h.2.1 (by omega)) (Int.toNat cnt) 0 (Nat.le_refl 0) (by omega)] at k9; exact k9)
    · refine qm_G.s1 rfl (qm_x_aload rfl) ?_
      refine qm_G.cm rfl rfl (hS 0 rfl) rfl ?_
      refine qm_C.go (cd := qm_P137) (lv := [(0, qm_R (some (0, 0, 0)))]) rfl rfl ?_
      refine qm_G.s1 rfl (qm_x_pushI 0 rfl) ?_
      refine qm_G.s1 rfl (qm_x_istore (lv' := [(1, qm_I (qm_i 0)), (0, qm_R (some (0, 0, 0)))]) rfl) ?_
      refine qm_G.pk (lv1 := [(0, qm_R (some (0, 0, 0))), (1, qm_I (qm_i 0))]) rfl rfl rfl ?_
      refine qm_d_swl hS hR hl3 rl hc rc h12 rs (fun hin => ⟨_, rfl, ?_⟩) (fun hout => ⟨_, rfl, ?_⟩) (Int.toNat cnt) 0 (by omega) (by decide) (fun j hj => absurd hj (by omega))
      · refine qm_G.s1 rfl (qm_x_if_ne_t ⟨by decide, by decide⟩ (by decide)) ?_
        refine qm_G.sp (lv1 := [(0, qm_R (some (0, 0, 0))), (1, qm_I (qm_i f)), (2, qm_R (some (0, 11, 0))), (3, qm_I (qm_i rn))]) rfl rfl (qm_x_aload rfl) ?_
        refine qm_G.s1 rfl (qm_x_getfR (q := (some (0, 35, 0))) (hS 0 rfl) (hR 0 3 35 rfl rfl)) ?_
        refine qm_G.s1 rfl (qm_x_aload rfl) ?_
        refine qm_G.cm rfl rfl (hS 0 rfl) rfl ?_
        refine qm_C.go (cd := qm_P19) (lv := [(0, qm_R (some (0, 0, 0)))]) rfl rfl ?_
        refine qm_G.s1 rfl (qm_x_aload rfl) ?_
        refine qm_G.s1 rfl (qm_x_getfR (q := (some (0, 1, 0))) (hS 0 rfl) (hR 0 0 1 rfl rfl)) ?_
        refine qm_G.s1 rfl (qm_x_getfR (q := (some (0, 2, 0))) (hS 1 rfl) (hR 1 0 2 rfl rfl)) ?_
        refine qm_G.s1 rfl (qm_x_getfR (q := (some (0, 3, 0))) (hS 2 rfl) (hR 2 0 3 rfl rfl)) ?_
        refine qm_G.s1 rfl (qm_x_pushI 1 rfl) ?_
        refine qm_G.s1 rfl (qm_x_iald (v := lim) (qm_arS hS rfl rfl) rfl (by decide) (by decide) (by decide) hl3) ?_
        refine qm_G.ret rfl rfl ⟨_, rfl, ?_⟩
        refine qm_G.s1 rfl (qm_x_iload rfl) ?_
        refine qm_G.s1 rfl (qm_x_iload rfl) ?_
        refine qm_G.cmv rfl rfl (hS 35 rfl) rfl ?_
        refine qm_d_solve (lim := lim) (fine := f) (T := rn) hS hR rl rf rr hPb hPa rPb rPa (fun J2 L2 ej2 l2 fl2 t2 => ⟨rfl, ?_⟩)
        refine qm_G.s1 rfl (qm_x_pushI 0 rfl) ?_
        refine qm_G.s1 rfl (qm_x_istore (lv' := [(4, qm_I (qm_i 0)), (0, qm_R (some (0, 0, 0))), (1, qm_I (qm_i f)), (2, qm_R (some (0, 11, 0))), (3, qm_I (qm_i rn))]) rfl) ?_
        refine qm_G.pk (lv1 := [(0, qm_R (some (0, 0, 0))), (2, qm_R (some (0, 11, 0))), (3, qm_I (qm_i rn)), (4, qm_I (qm_i 0))]) rfl rfl rfl ?_
        exact qm_d_sby (cnt := cnt) (sk := sk) (bk := bk) (ak := ak) (W := qm_VB Pb Pa lim f) hS hR rl (by omega) ((ej2 11 0 3 (by omega)).trans hc) rc (fun j hj => ⟨(ej2 12 0 j (by omega)).trans (h12 j hj).1, (ej2 13 0 j (by omega)).trans (h12 j hj).2.1, (ej2 14 0 j (by omega)).trans (h12 j hj).2.2⟩) rs hin (fun t s => qm_VB_rng) (fun x h1 h2 => (t2 rn x (by omega) (Or.inl (by omega)) h1 h2).2 (by omega)) (Int.toNat cnt) 0 (by omega) (by decide) (k J2 L2 ej2 fl2)
      · refine qm_G.s1 rfl (qm_x_if_ne_f ⟨by decide, by decide⟩ (by decide)) ?_
        refine qm_G.sp (lv1 := []) rfl rfl (qm_x_pushI 0 rfl) ?_
        obtain ⟨j, j1, j2⟩ := hout
        exact qm_G.ret rfl rfl (by have k9 := k J L (fun _ _ _ _ => rfl) (fun _ _ _ _ => rfl); rw [qm_sn_f (j := j) (fun h => j2 h.1) (Int.toNat cnt) 0 (Nat.zero_le j) (by omega)] at k9; exact k9)
  · refine qm_G.s1 rfl (qm_x_pushI 1 rfl) ?_
    exact qm_G.ret rfl rfl (by have k9 := k J L (fun _ _ _ _ => rfl) (fun _ _ _ _ => rfl); rw [show Int.toNat cnt = 0 by omega] at k9; exact k9)
theorem qm_d_fit {S : List qm_Sh} {K : qm_J} {D : qm_Ct UInt64} {R : qm_Ct (Option qm_Rf)} {X : Nat × (Nat → Int32)} {Q : Option qm_V → qm_Hp → Prop} {cnt lim rn a : Int} {sk bk ak : Nat → Int} {Pb Pa : Int → Int} (hS : qm_Sd S) (hR : qm_Rd R) (rl : 1 ≤ lim ∧ lim ≤ 8) (rr : 0 ≤ rn ∧ rn ≤ 8) (rc : 0 ≤ cnt ∧ cnt ≤ 5) (rs : ∀ j, j < 5 → (-8 ≤ sk j ∧ sk j ≤ 8) ∧ (0 ≤ bk j ∧ bk j ≤ 6) ∧ (0 ≤ ak j ∧ ak j ≤ 6)) (rPb : ∀ z : Int, 0 ≤ z → z ≤ 6 → 0 ≤ Pb z ∧ Pb z ≤ 1000) (rPa : ∀ z : Int, 0 ≤ z → z ≤ 6 → 0 ≤ Pa z ∧ Pa z ≤ 1000) : ∀ (n : Nat) (f m l : Int) (J : qm_J) (L : qm_Ct Int64), f + n = 21 → 0 ≤ f → (0 ≤ m ∧ m ≤ f) → J 3 0 1 = lim → J 3 0 2 = rn → J 11 0 3 = cnt → (∀ j, j < 5 → J 12 0 j = sk j ∧ J 13 0 j = bk j ∧ J 14 0 j = ak j) → (∀ (z : Int) (i : Nat), i = Int.toNat z → 0 ≤ z → z ≤ 6 → J 36 1 i = Pb z) → (∀ (z : Int) (i : Nat), i = Int.toNat z → 0 ≤ z → z ≤ 6 → J 36 2 i = Pa z) → (∀ (J' : qm_J) (L' : qm_Ct Int64), (∀ r s i, ¬ (r = 38 ∨ r = 39 ∨ r = 35 ∧ i = 6) → J' r s i = J r s i) → (∀ r s i, r ≠ 37 → L' r s i = L r s i) → qm_G qm_P qm_P216 70 [(1, qm_I (qm_i a)), (2, qm_I (qm_i ((qm_Rk (fun f => (qm_sn (qm_VB Pb Pa lim f) lim rn sk bk ak (Int.toNat cnt) 0)) n f m l).1))), (3, qm_I (qm_i ((qm_Rk (fun f => (qm_sn (qm_VB Pb Pa lim f) lim rn sk bk ak (Int.toNat cnt) 0)) n f m l).2)))] [] (qm_H S J' K L' D R X) Q) → qm_G qm_P qm_P216 34 [(0, qm_R (some (0, 0, 0))), (1, qm_I (qm_i a)), (2, qm_I (qm_i m)), (3, qm_I (qm_i l)), (4, qm_I (qm_i f))] [] (qm_H S J K L D R X) Q := by
  intro n
  induction n with
  | zero =>
    intro f m l J L h1 h2 hm hl3 hr3 hc h12 hPb hPa k
    refine qm_G.pk (lv1 := [(0, qm_R (some (0, 0, 0))), (1, qm_I (qm_i a)), (2, qm_I (qm_i m)), (3, qm_I (qm_i l)), (4, qm_I (qm_i f))]) rfl rfl rfl ?_
    refine qm_G.sp (lv1 := [(0, qm_R (some (0, 0, 0))), (1, qm_I (qm_i a)), (2, qm_I (qm_i m)), (3, qm_I (qm_i l)), (4, qm_I (qm_i f))]) rfl rfl (qm_x_iload rfl) ?_
    refine qm_G.s1 rfl (qm_x_pushI 21 rfl) ?_
    refine qm_G.s1 rfl (qm_x_icmp_ge_t ⟨by omega, by omega⟩ ⟨by decide, by decide⟩ (by omega)) ?_
    refine qm_G.pk (lv1 := [(1, qm_I (qm_i a)), (2, qm_I (qm_i m)), (3, qm_I (qm_i l))]) rfl rfl rfl ?_
    exact k J L (fun _ _ _ _ => rfl) (fun _ _ _ _ => rfl)
  | succ n ih =>
    intro f m l J L h1 h2 hm hl3 hr3 hc h12 hPb hPa k
    have h3 : f ≤ 20 := by omega
    refine qm_G.pk (lv1 := [(0, qm_R (some (0, 0, 0))), (1, qm_I (qm_i a)), (2, qm_I (qm_i m)), (3, qm_I (qm_i l)), (4, qm_I (qm_i f))]) rfl rfl rfl ?_
    refine qm_G.sp (lv1 := [(0, qm_R (some (0, 0, 0))), (1, qm_I (qm_i a)), (2, qm_I (qm_i m)), (3, qm_I (qm_i l)), (4, qm_I (qm_i f))]) rfl rfl (qm_x_iload rfl) ?_
    refine qm_G.s1 rfl (qm_x_pushI 21 rfl) ?_
    refine qm_G.s1 rfl (qm_x_icmp_ge_f ⟨by omega, by omega⟩ ⟨by decide, by decide⟩ (by omega)) ?_
    refine qm_G.s1 rfl (qm_x_aload rfl) ?_
    refine qm_G.s1 rfl (qm_x_iload rfl) ?_
    refine qm_G.cm rfl rfl (hS 0 rfl) rfl ?_
    refine qm_d_isb (f := f) hS hR hl3 rl hr3 rr hc rc h12 rs hPb hPa rPb rPa (by omega) (fun J2 L2 ej2 fl2 => ⟨_, rfl, ?_⟩)
    obtain ⟨y, hy⟩ : ∃ y, y = (qm_sn (qm_VB Pb Pa lim f) lim rn sk bk ak (Int.toNat cnt) 0) := ⟨_, rfl⟩
    rw [← hy]
    have ry := qm_bifr y
    refine qm_y_if_eq rfl ⟨by omega, by omega⟩ (fun c1 => ?_) (fun c1 => ?_)
    · refine qm_G.sp (lv1 := [(0, qm_R (some (0, 0, 0))), (1, qm_I (qm_i a)), (2, qm_I (qm_i m)), (3, qm_I (qm_i l)), (4, qm_I (qm_i f))]) rfl rfl (qm_x_iinc (lv' := [(4, qm_I (qm_i (f + 1))), (0, qm_R (some (0, 0, 0))), (1, qm_I (qm_i a)), (2, qm_I (qm_i m)), (3, qm_I (qm_i l))]) 1 rfl rfl rfl) ?_
      refine qm_G.s1 rfl (qm_x_goto) ?_
      refine qm_G.pk (lv1 := [(0, qm_R (some (0, 0, 0))), (1, qm_I (qm_i a)), (2, qm_I (qm_i m)), (3, qm_I (qm_i l)), (4, qm_I (qm_i (f + 1)))]) rfl rfl rfl ?_
      have hy9 : y = false := by cases y with | false => rfl | true => exact absurd (show (bif true then (1 : Int) else 0) = 1 from rfl) (by omega)
      refine ih (f + 1) _ _ J2 L2 (by omega) (by omega) (by omega) ((ej2 3 0 1 (by omega)).trans hl3) ((ej2 3 0 2 (by omega)).trans hr3) ((ej2 11 0 3 (by omega)).trans hc) (fun j hj => ⟨(ej2 12 0 j (by omega)).trans (h12 j hj).1, (ej2 13 0 j (by omega)).trans (h12 j hj).2.1, (ej2 14 0 j (by omega)).trans (h12 j hj).2.2⟩) (fun z i e1 e2 e3 => (ej2 36 1 i (by omega)).trans (hPb z i e1 e2 e3)) (fun z i e1 e2 e3 => (ej2 36 2 i (by omega)).trans (hPa z i e1 e2 e3)) (fun J9 L9 ej9 fl9 => ?_)
      have k8 := k J9 L9 (fun r s i h => (ej9 r s i h).trans (ej2 r s i h)) (fun r s i h => (fl9 r s i h).trans (fl2 r s i h))
      have hR9 : qm_Rk (fun f => (qm_sn (qm_VB Pb Pa lim f) lim rn sk bk ak (Int.toNat cnt) 0)) (n + 1) f m l = qm_Rk (fun f => (qm_sn (qm_VB Pb Pa lim f) lim rn sk bk ak (Int.toNat cnt) 0)) n (f + 1) m l := by
        rw [qm_Rk_n (so := (fun f => (qm_sn (qm_VB Pb Pa lim f) lim rn sk bk ak (Int.toNat cnt) 0))) (hy.symm.trans hy9)]
      rw [hR9] at k8
      exact k8
    · refine qm_G.s1 rfl (qm_x_iload rfl) ?_
      refine qm_y_if_ne rfl ⟨by omega, by omega⟩ (fun c2 => ?_) (fun c2 => ?_)
      · refine qm_G.sp (lv1 := [(0, qm_R (some (0, 0, 0))), (1, qm_I (qm_i a)), (2, qm_I (qm_i m)), (3, qm_I (qm_i l)), (4, qm_I (qm_i f))]) rfl rfl (qm_x_iload rfl) ?_
        refine qm_G.sp (lv1 := [(0, qm_R (some (0, 0, 0))), (1, qm_I (qm_i a)), (2, qm_I (qm_i m)), (4, qm_I (qm_i f))]) rfl rfl (qm_x_istore (lv' := [(3, qm_I (qm_i l)), (0, qm_R (some (0, 0, 0))), (1, qm_I (qm_i a)), (2, qm_I (qm_i m)), (4, qm_I (qm_i f))]) rfl) ?_
        refine qm_G.s1 rfl (qm_x_iinc (lv' := [(2, qm_I (qm_i (m + 1))), (3, qm_I (qm_i l)), (0, qm_R (some (0, 0, 0))), (1, qm_I (qm_i a)), (4, qm_I (qm_i f))]) 1 rfl rfl rfl) ?_
        refine qm_G.sp (lv1 := [(0, qm_R (some (0, 0, 0))), (1, qm_I (qm_i a)), (2, qm_I (qm_i (m + 1))), (3, qm_I (qm_i l)), (4, qm_I (qm_i f))]) rfl rfl (qm_x_iinc (lv' := [(4, qm_I (qm_i (f + 1))), (0, qm_R (some (0, 0, 0))), (1, qm_I (qm_i a)), (2, qm_I (qm_i (m + 1))), (3, qm_I (qm_i l))]) 1 rfl rfl rfl) ?_
        refine qm_G.s1 rfl (qm_x_goto) ?_
        refine qm_G.pk (lv1 := [(0, qm_R (some (0, 0, 0))), (1, qm_I (qm_i a)), (2, qm_I (qm_i (m + 1))), (3, qm_I (qm_i l)), (4, qm_I (qm_i (f + 1)))]) rfl rfl rfl ?_
        have hy9 : y = true := by cases y with | true => rfl | false => exact absurd (show (bif false then (1 : Int) else 0) = 0 from rfl) (by omega)
        refine ih (f + 1) _ _ J2 L2 (by omega) (by omega) (by omega) ((ej2 3 0 1 (by omega)).trans hl3) ((ej2 3 0 2 (by omega)).trans hr3) ((ej2 11 0 3 (by omega)).trans hc) (fun j hj => ⟨(ej2 12 0 j (by omega)).trans (h12 j hj).1, (ej2 13 0 j (by omega)).trans (h12 j hj).2.1, (ej2 14 0 j (by omega)).trans (h12 j hj).2.2⟩) (fun z i e1 e2 e3 => (ej2 36 1 i (by omega)).trans (hPb z i e1 e2 e3)) (fun z i e1 e2 e3 => (ej2 36 2 i (by omega)).trans (hPa z i e1 e2 e3)) (fun J9 L9 ej9 fl9 => ?_)
        have k8 := k J9 L9 (fun r s i h => (ej9 r s i h).trans (ej2 r s i h)) (fun r s i h => (fl9 r s i h).trans (fl2 r s i h))
        have hR9 : qm_Rk (fun f => (qm_sn (qm_VB Pb Pa lim f) lim rn sk bk ak (Int.toNat cnt) 0)) (n + 1) f m l = qm_Rk (fun f => (qm_sn (qm_VB Pb Pa lim f) lim rn sk bk ak (Int.toNat cnt) 0)) n (f + 1) (m + 1) l := by
          rw [qm_Rk_y (so := (fun f => (qm_sn (qm_VB Pb Pa lim f) lim rn sk bk ak (Int.toNat cnt) 0))) (hy.symm.trans hy9), if_neg (by omega)]
        rw [hR9] at k8
        exact k8
      · refine qm_G.s1 rfl (qm_x_iload rfl) ?_
        refine qm_G.s1 rfl (qm_x_goto) ?_
        refine qm_G.sp (lv1 := [(0, qm_R (some (0, 0, 0))), (1, qm_I (qm_i a)), (2, qm_I (qm_i m)), (4, qm_I (qm_i f))]) rfl rfl (qm_x_istore (lv' := [(3, qm_I (qm_i f)), (0, qm_R (some (0, 0, 0))), (1, qm_I (qm_i a)), (2, qm_I (qm_i m)), (4, qm_I (qm_i f))]) rfl) ?_
        refine qm_G.s1 rfl (qm_x_iinc (lv' := [(2, qm_I (qm_i (m + 1))), (3, qm_I (qm_i f)), (0, qm_R (some (0, 0, 0))), (1, qm_I (qm_i a)), (4, qm_I (qm_i f))]) 1 rfl rfl rfl) ?_
        refine qm_G.sp (lv1 := [(0, qm_R (some (0, 0, 0))), (1, qm_I (qm_i a)), (2, qm_I (qm_i (m + 1))), (3, qm_I (qm_i f)), (4, qm_I (qm_i f))]) rfl rfl (qm_x_iinc (lv' := [(4, qm_I (qm_i (f + 1))), (0, qm_R (some (0, 0, 0))), (1, qm_I (qm_i a)), (2, qm_I (qm_i (m + 1))), (3, qm_I (qm_i f))]) 1 rfl rfl rfl) ?_
        refine qm_G.s1 rfl (qm_x_goto) ?_
        refine qm_G.pk (lv1 := [(0, qm_R (some (0, 0, 0))), (1, qm_I (qm_i a)), (2, qm_I (qm_i (m + 1))), (3, qm_I (qm_i f)), (4, qm_I (qm_i (f + 1)))]) rfl rfl rfl ?_
        have hy9 : y = true := by cases y with | true => rfl | false => exact absurd (show (bif false then (1 : Int) else 0) = 0 from rfl) (by omega)
        refine ih (f + 1) _ _ J2 L2 (by omega) (by omega) (by omega) ((ej2 3 0 1 (by omega)).trans hl3) ((ej2 3 0 2 (by omega)).trans hr3) ((ej2 11 0 3 (by omega)).trans hc) (fun j hj => ⟨(ej2 12 0 j (by omega)).trans (h12 j hj).1, (ej2 13 0 j (by omega)).trans (h12 j hj).2.1, (ej2 14 0 j (by omega)).trans (h12 j hj).2.2⟩) (fun z i e1 e2 e3 => (ej2 36 1 i (by omega)).trans (hPb z i e1 e2 e3)) (fun z i e1 e2 e3 => (ej2 36 2 i (by omega)).trans (hPa z i e1 e2 e3)) (fun J9 L9 ej9 fl9 => ?_)
        have k8 := k J9 L9 (fun r s i h => (ej9 r s i h).trans (ej2 r s i h)) (fun r s i h => (fl9 r s i h).trans (fl2 r s i h))
        have hR9 : qm_Rk (fun f => (qm_sn (qm_VB Pb Pa lim f) lim rn sk bk ak (Int.toNat cnt) 0)) (n + 1) f m l = qm_Rk (fun f => (qm_sn (qm_VB Pb Pa lim f) lim rn sk bk ak (Int.toNat cnt) 0)) n (f + 1) (m + 1) f := by
          rw [qm_Rk_y (so := (fun f => (qm_sn (qm_VB Pb Pa lim f) lim rn sk bk ak (Int.toNat cnt) 0))) (hy.symm.trans hy9), if_pos (by omega)]
        rw [hR9] at k8
        exact k8
theorem qm_m_sby {S : List qm_Sh} {J K : qm_J} {L : qm_Ct Int64} {D : qm_Ct UInt64} {R : qm_Ct (Option qm_Rf)} {X : Nat × (Nat → Int32)} {Q : Option qm_V → qm_Hp → Prop} {cnt lim rn a b m l f : Int} {sk bk ak : Nat → Int} {W : Nat → Int → qm_S3} (hS : qm_Sd S) (hR : qm_Rd R) (rl : 1 ≤ lim ∧ lim ≤ 8) (rr : 0 ≤ rn ∧ rn ≤ 8) (hl : J 62 0 1 = lim) (hr : J 62 0 2 = rn) (hc : J 62 0 12 = cnt) (rc : 0 ≤ cnt ∧ cnt ≤ 5) (h96 : ∀ j, j < 5 → J 62 0 (96 + 3 * j) = sk j ∧ J 62 0 (97 + 3 * j) = bk j ∧ J 62 0 (98 + 3 * j) = ak j) (rs : ∀ j, j < 5 → (-8 ≤ sk j ∧ sk j ≤ 8) ∧ (0 ≤ bk j ∧ bk j ≤ 6) ∧ (0 ≤ ak j ∧ ak j ≤ 6)) (rW : ∀ t s, (0 ≤ (W t s).2.1 ∧ (W t s).2.1 ≤ 6) ∧ (0 ≤ (W t s).2.2 ∧ (W t s).2.2 ≤ 6)) (hw : ∀ x : Int, -lim ≤ x → x ≤ lim → 1 ≤ rn → J 65 0 (Int.toNat (17 * rn + 8 + x)) = 10 * (W (Int.toNat rn) x).2.1 + (W (Int.toNat rn) x).2.2) : ∀ (n : Nat) (k y : Int), k + n = cnt → 0 ≤ k → qm_G qm_P qm_P190 150 [(0, qm_R (some (0, 61, 0))), (1, qm_I (qm_i a)), (2, qm_I (qm_i b)), (3, qm_I (qm_i m)), (4, qm_I (qm_i l)), (5, qm_I (qm_i f)), (6, qm_I (qm_i (bif qm_sn W lim rn sk bk ak n (Int.toNat k) then y else 0)))] [] (qm_H S J K L D R X) Q → qm_G qm_P qm_P190 51 [(0, qm_R (some (0, 61, 0))), (1, qm_I (qm_i a)), (2, qm_I (qm_i b)), (3, qm_I (qm_i m)), (4, qm_I (qm_i l)), (5, qm_I (qm_i f)), (6, qm_I (qm_i y)), (7, qm_I (qm_i k))] [] (qm_H S J K L D R X) Q := by
  intro n
  induction n with
  | zero =>
    intro k y h1 h2 k9
    refine qm_G.pk (lv1 := [(0, qm_R (some (0, 61, 0))), (1, qm_I (qm_i a)), (2, qm_I (qm_i b)), (3, qm_I (qm_i m)), (4, qm_I (qm_i l)), (5, qm_I (qm_i f)), (6, qm_I (qm_i y)), (7, qm_I (qm_i k))]) rfl rfl rfl ?_
    refine qm_G.sp (lv1 := [(0, qm_R (some (0, 61, 0))), (1, qm_I (qm_i a)), (2, qm_I (qm_i b)), (3, qm_I (qm_i m)), (4, qm_I (qm_i l)), (5, qm_I (qm_i f)), (6, qm_I (qm_i y)), (7, qm_I (qm_i k))]) rfl rfl (qm_x_iload rfl) ?_
    refine qm_G.s1 rfl (qm_x_aload rfl) ?_
    refine qm_G.s1 rfl (qm_x_getfR (q := (some (0, 62, 0))) (hS 61 rfl) (hR 61 0 62 rfl rfl)) ?_
    refine qm_G.s1 rfl (qm_x_pushI 12 rfl) ?_
    refine qm_G.s1 rfl (qm_x_iald (v := cnt) (qm_arS hS rfl rfl) rfl (by decide) (by decide) (by decide) hc) ?_
    refine qm_G.s1 rfl (qm_x_icmp_ge_t ⟨by omega, by omega⟩ ⟨by omega, by omega⟩ (by omega)) ?_
    refine qm_G.pk (lv1 := [(0, qm_R (some (0, 61, 0))), (1, qm_I (qm_i a)), (2, qm_I (qm_i b)), (3, qm_I (qm_i m)), (4, qm_I (qm_i l)), (5, qm_I (qm_i f)), (6, qm_I (qm_i y))]) rfl rfl rfl ?_
    exact k9
  | succ n ih =>
    intro k y h1 h2 k9
    have h4 : k < cnt := by omega
    refine qm_G.pk (lv1 := [(0, qm_R (some (0, 61, 0))), (1, qm_I (qm_i a)), (2, qm_I (qm_i b)), (3, qm_I (qm_i m)), (4, qm_I (qm_i l)), (5, qm_I (qm_i f)), (6, qm_I (qm_i y)), (7, qm_I (qm_i k))]) rfl rfl rfl ?_
    refine qm_G.sp (lv1 := [(0, qm_R (some (0, 61, 0))), (1, qm_I (qm_i a)), (2, qm_I (qm_i b)), (3, qm_I (qm_i m)), (4, qm_I (qm_i l)), (5, qm_I (qm_i f)), (6, qm_I (qm_i y)), (7, qm_I (qm_i k))]) rfl rfl (qm_x_iload rfl) ?_
    refine qm_G.s1 rfl (qm_x_aload rfl) ?_
    refine qm_G.s1 rfl (qm_x_getfR (q := (some (0, 62, 0))) (hS 61 rfl) (hR 61 0 62 rfl rfl)) ?_
    refine qm_G.s1 rfl (qm_x_pushI 12 rfl) ?_
    refine qm_G.s1 rfl (qm_x_iald (v := cnt) (qm_arS hS rfl rfl) rfl (by decide) (by decide) (by decide) hc) ?_
    refine qm_G.s1 rfl (qm_x_icmp_ge_f ⟨by omega, by omega⟩ ⟨by omega, by omega⟩ (by omega)) ?_
    refine qm_G.s1 rfl (qm_x_pushI 96 rfl) ?_
    refine qm_G.s1 rfl (qm_x_pushI 3 rfl) ?_
    refine qm_G.s1 rfl (qm_x_iload rfl) ?_
    refine qm_G.s1 rfl (qm_x_imul) ?_
    refine qm_G.s1 rfl (qm_x_iadd) ?_
    refine qm_G.s1 rfl (qm_x_istore (lv' := [(8, qm_I (qm_i (96 + (3 * k)))), (0, qm_R (some (0, 61, 0))), (1, qm_I (qm_i a)), (2, qm_I (qm_i b)), (3, qm_I (qm_i m)), (4, qm_I (qm_i l)), (5, qm_I (qm_i f)), (6, qm_I (qm_i y)), (7, qm_I (qm_i k))]) rfl) ?_
    refine qm_G.s1 rfl (qm_x_aload rfl) ?_
    refine qm_G.s1 rfl (qm_x_aload rfl) ?_
    refine qm_G.s1 rfl (qm_x_getfR (q := (some (0, 62, 0))) (hS 61 rfl) (hR 61 0 62 rfl rfl)) ?_
    refine qm_G.s1 rfl (qm_x_iload rfl) ?_
    have rs9 := rs (Int.toNat k) (by omega)
    refine qm_G.s1 rfl (qm_x_iald (v := (sk (Int.toNat k))) (qm_arS hS rfl rfl) rfl (by omega) (by omega) (by decide) (Eq.trans (congrArg (J 62 0) (by omega)) (h96 (Int.toNat k) (by omega)).1)) ?_
    refine qm_G.cm rfl rfl (hS 61 rfl) rfl ?_
    refine qm_C.go (cd := qm_P85) (lv := [(0, qm_R (some (0, 61, 0))), (1, qm_I (qm_i (sk (Int.toNat k))))]) rfl rfl ?_
    refine qm_G.s1 rfl (qm_x_iload rfl) ?_
    refine qm_G.s1 rfl (qm_x_aload rfl) ?_
    refine qm_G.s1 rfl (qm_x_getfR (q := (some (0, 62, 0))) (hS 61 rfl) (hR 61 0 62 rfl rfl)) ?_
    refine qm_G.s1 rfl (qm_x_pushI 1 rfl) ?_
    refine qm_G.s1 rfl (qm_x_iald (v := lim) (qm_arS hS rfl rfl) rfl (by decide) (by decide) (by decide) hl) ?_
    refine qm_G.s1 rfl (qm_x_ineg) ?_
    refine qm_G.s1 rfl (qm_x_aload rfl) ?_
    refine qm_G.s1 rfl (qm_x_getfR (q := (some (0, 62, 0))) (hS 61 rfl) (hR 61 0 62 rfl rfl)) ?_
    refine qm_G.s1 rfl (qm_x_pushI 1 rfl) ?_
    refine qm_G.s1 rfl (qm_x_iald (v := lim) (qm_arS hS rfl rfl) rfl (by decide) (by decide) (by decide) hl) ?_
    refine qm_G.cs rfl rfl rfl ?_
    refine qm_v_within11 ⟨by omega, by omega⟩ ⟨by omega, by omega⟩ ⟨by omega, by omega⟩ (fun c1 => ⟨_, rfl, ?_⟩) (fun c1 => ⟨_, rfl, ?_⟩)
    · refine qm_G.ret rfl rfl ⟨_, rfl, ?_⟩
      refine qm_G.s1 rfl (qm_x_if_eq_f ⟨by decide, by decide⟩ (by decide)) ?_
      refine qm_G.s1 rfl (qm_x_aload rfl) ?_
      refine qm_G.s1 rfl (qm_x_getfR (q := (some (0, 62, 0))) (hS 61 rfl) (hR 61 0 62 rfl rfl)) ?_
      refine qm_G.s1 rfl (qm_x_pushI 2 rfl) ?_
      refine qm_G.s1 rfl (qm_x_iald (v := rn) (qm_arS hS rfl rfl) rfl (by decide) (by decide) (by decide) hr) ?_
      refine qm_y_if_eq rfl ⟨by omega, by omega⟩ (fun c2 => ?_) (fun c2 => ?_)
      · refine qm_G.sp (lv1 := [(0, qm_R (some (0, 61, 0))), (1, qm_I (qm_i a)), (2, qm_I (qm_i b)), (3, qm_I (qm_i m)), (4, qm_I (qm_i l)), (5, qm_I (qm_i f)), (7, qm_I (qm_i k))]) rfl rfl (qm_x_pushI 0 rfl) ?_
        refine qm_G.s1 rfl (qm_x_istore (lv' := [(6, qm_I (qm_i 0)), (0, qm_R (some (0, 61, 0))), (1, qm_I (qm_i a)), (2, qm_I (qm_i b)), (3, qm_I (qm_i m)), (4, qm_I (qm_i l)), (5, qm_I (qm_i f)), (7, qm_I (qm_i k))]) rfl) ?_
        refine qm_G.sp (lv1 := [(0, qm_R (some (0, 61, 0))), (1, qm_I (qm_i a)), (2, qm_I (qm_i b)), (3, qm_I (qm_i m)), (4, qm_I (qm_i l)), (5, qm_I (qm_i f)), (6, qm_I (qm_i 0)), (7, qm_I (qm_i k))]) rfl rfl (qm_x_iinc (lv' := [(7, qm_I (qm_i (k + 1))), (0, qm_R (some (0, 61, 0))), (1, qm_I (qm_i a)), (2, qm_I (qm_i b)), (3, qm_I (qm_i m)), (4, qm_I (qm_i l)), (5, qm_I (qm_i f)), (6, qm_I (qm_i 0))]) 1 rfl rfl rfl) ?_
        refine qm_G.s1 rfl (qm_x_goto) ?_
        refine qm_G.pk (lv1 := [(0, qm_R (some (0, 61, 0))), (1, qm_I (qm_i a)), (2, qm_I (qm_i b)), (3, qm_I (qm_i m)), (4, qm_I (qm_i l)), (5, qm_I (qm_i f)), (6, qm_I (qm_i 0)), (7, qm_I (qm_i (k + 1)))]) rfl rfl rfl ?_
        refine ih (k + 1) 0 (by omega) (by omega) ?_
        rw [qm_sn_n (by omega), cond_false] at k9
        rw [qm_bif0]
        exact k9
      · refine qm_G.s1 rfl (qm_x_aload rfl) ?_
        refine qm_G.s1 rfl (qm_x_getfR (q := (some (0, 65, 0))) (hS 61 rfl) (hR 61 8 65 rfl rfl)) ?_
        refine qm_G.s1 rfl (qm_x_aload rfl) ?_
        refine qm_G.s1 rfl (qm_x_getfR (q := (some (0, 62, 0))) (hS 61 rfl) (hR 61 0 62 rfl rfl)) ?_
        refine qm_G.s1 rfl (qm_x_pushI 2 rfl) ?_
        refine qm_G.s1 rfl (qm_x_iald (v := rn) (qm_arS hS rfl rfl) rfl (by decide) (by decide) (by decide) hr) ?_
        refine qm_G.s1 rfl (qm_x_aload rfl) ?_
        refine qm_G.s1 rfl (qm_x_getfR (q := (some (0, 62, 0))) (hS 61 rfl) (hR 61 0 62 rfl rfl)) ?_
        refine qm_G.s1 rfl (qm_x_iload rfl) ?_
        refine qm_G.s1 rfl (qm_x_iald (v := (sk (Int.toNat k))) (qm_arS hS rfl rfl) rfl (by omega) (by omega) (by decide) (Eq.trans (congrArg (J 62 0) (by omega)) (h96 (Int.toNat k) (by omega)).1)) ?_
        refine qm_G.cs rfl rfl rfl ?_
        refine qm_C.go (cd := qm_P24) (lv := [(0, qm_I (qm_i rn)), (1, qm_I (qm_i (sk (Int.toNat k))))]) rfl rfl ?_
        refine qm_G.s1 rfl (qm_x_pushI 17 rfl) ?_
        refine qm_G.s1 rfl (qm_x_iload rfl) ?_
        refine qm_G.s1 rfl (qm_x_imul) ?_
        refine qm_G.s1 rfl (qm_x_pushI 8 rfl) ?_
        refine qm_G.s1 rfl (qm_x_iadd) ?_
        refine qm_G.s1 rfl (qm_x_iload rfl) ?_
        refine qm_G.s1 rfl (qm_x_iadd) ?_
        refine qm_G.ret rfl rfl ⟨_, rfl, ?_⟩
        have rw9 := rW (Int.toNat rn) (sk (Int.toNat k))
        refine qm_G.s1 rfl (qm_x_iald (v := (10 * (W (Int.toNat rn) (sk (Int.toNat k))).2.1 + (W (Int.toNat rn) (sk (Int.toNat k))).2.2)) (qm_arS hS rfl rfl) rfl (by omega) (by omega) (by decide) (Eq.trans (congrArg (J 65 0) (by omega)) (hw (sk (Int.toNat k)) (by omega) (by omega) (by omega)))) ?_
        refine qm_G.s1 rfl (qm_x_pushI 10 rfl) ?_
        refine qm_G.s1 rfl (qm_x_aload rfl) ?_
        refine qm_G.s1 rfl (qm_x_getfR (q := (some (0, 62, 0))) (hS 61 rfl) (hR 61 0 62 rfl rfl)) ?_
        refine qm_G.s1 rfl (qm_x_iload rfl) ?_
        refine qm_G.s1 rfl (qm_x_pushI 1 rfl) ?_
        refine qm_G.s1 rfl (qm_x_iadd) ?_
        refine qm_G.s1 rfl (qm_x_iald (v := (bk (Int.toNat k))) (qm_arS hS rfl rfl) rfl (by omega) (by omega) (by decide) (Eq.trans (congrArg (J 62 0) (by omega)) (h96 (Int.toNat k) (by omega)).2.1)) ?_
        refine qm_G.s1 rfl (qm_x_imul) ?_
        refine qm_G.s1 rfl (qm_x_aload rfl) ?_
        refine qm_G.s1 rfl (qm_x_getfR (q := (some (0, 62, 0))) (hS 61 rfl) (hR 61 0 62 rfl rfl)) ?_
        refine qm_G.s1 rfl (qm_x_iload rfl) ?_
        refine qm_G.s1 rfl (qm_x_pushI 2 rfl) ?_
        refine qm_G.s1 rfl (qm_x_iadd) ?_
        refine qm_G.s1 rfl (qm_x_iald (v := (ak (Int.toNat k))) (qm_arS hS rfl rfl) rfl (by omega) (by omega) (by decide) (Eq.trans (congrArg (J 62 0) (by omega)) (h96 (Int.toNat k) (by omega)).2.2)) ?_
        refine qm_G.s1 rfl (qm_x_iadd) ?_
        refine qm_y_icmp_eq rfl ⟨by omega, by omega⟩ ⟨by omega, by omega⟩ (fun c3 => ?_) (fun c3 => ?_)
        · refine qm_G.sp (lv1 := [(0, qm_R (some (0, 61, 0))), (1, qm_I (qm_i a)), (2, qm_I (qm_i b)), (3, qm_I (qm_i m)), (4, qm_I (qm_i l)), (5, qm_I (qm_i f)), (6, qm_I (qm_i y)), (7, qm_I (qm_i k))]) rfl rfl (qm_x_iinc (lv' := [(7, qm_I (qm_i (k + 1))), (0, qm_R (some (0, 61, 0))), (1, qm_I (qm_i a)), (2, qm_I (qm_i b)), (3, qm_I (qm_i m)), (4, qm_I (qm_i l)), (5, qm_I (qm_i f)), (6, qm_I (qm_i y))]) 1 rfl rfl rfl) ?_
          refine qm_G.s1 rfl (qm_x_goto) ?_
          refine qm_G.pk (lv1 := [(0, qm_R (some (0, 61, 0))), (1, qm_I (qm_i a)), (2, qm_I (qm_i b)), (3, qm_I (qm_i m)), (4, qm_I (qm_i l)), (5, qm_I (qm_i f)), (6, qm_I (qm_i y)), (7, qm_I (qm_i (k + 1)))]) rfl rfl rfl ?_
          refine ih (k + 1) y (by omega) (by omega) ?_
          rw [qm_sn_y (by omega)] at k9
          rw [show Int.toNat (k + 1) = Int.toNat k + 1 by omega]
          exact k9
        · refine qm_G.sp (lv1 := [(0, qm_R (some (0, 61, 0))), (1, qm_I (qm_i a)), (2, qm_I (qm_i b)), (3, qm_I (qm_i m)), (4, qm_I (qm_i l)), (5, qm_I (qm_i f)), (7, qm_I (qm_i k))]) rfl rfl (qm_x_pushI 0 rfl) ?_
          refine qm_G.s1 rfl (qm_x_istore (lv' := [(6, qm_I (qm_i 0)), (0, qm_R (some (0, 61, 0))), (1, qm_I (qm_i a)), (2, qm_I (qm_i b)), (3, qm_I (qm_i m)), (4, qm_I (qm_i l)), (5, qm_I (qm_i f)), (7, qm_I (qm_i k))]) rfl) ?_
          refine qm_G.sp (lv1 := [(0, qm_R (some (0, 61, 0))), (1, qm_I (qm_i a)), (2, qm_I (qm_i b)), (3, qm_I (qm_i m)), (4, qm_I (qm_i l)), (5, qm_I (qm_i f)), (6, qm_I (qm_i 0)), (7, qm_I (qm_i k))]) rfl rfl (qm_x_iinc (lv' := [(7, qm_I (qm_i (k + 1))), (0, qm_R (some (0, 61, 0))), (1, qm_I (qm_i a)), (2, qm_I (qm_i b)), (3, qm_I (qm_i m)), (4, qm_I (qm_i l)), (5, qm_I (qm_i f)), (6, qm_I (qm_i 0))]) 1 rfl rfl rfl) ?_
          refine qm_G.s1 rfl (qm_x_goto) ?_
          refine qm_G.pk (lv1 := [(0, qm_R (some (0, 61, 0))), (1, qm_I (qm_i a)), (2, qm_I (qm_i b)), (3, qm_I (qm_i m)), (4, qm_I (qm_i l)), (5, qm_I (qm_i f)), (6, qm_I (qm_i 0)), (7, qm_I (qm_i (k + 1)))]) rfl rfl rfl ?_
          refine ih (k + 1) 0 (by omega) (by omega) ?_
          rw [qm_sn_n (by omega), cond_false] at k9
          rw [qm_bif0]
          exact k9
    · refine qm_G.ret rfl rfl ⟨_, rfl, ?_⟩
      refine qm_G.s1 rfl (qm_x_if_eq_t ⟨by decide, by decide⟩ (by decide)) ?_
      refine qm_G.sp (lv1 := [(0, qm_R (some (0, 61, 0))), (1, qm_I (qm_i a)), (2, qm_I (qm_i b)), (3, qm_I (qm_i m)), (4, qm_I (qm_i l)), (5, qm_I (qm_i f)), (7, qm_I (qm_i k))]) rfl rfl (qm_x_pushI 0 rfl) ?_
      refine qm_G.s1 rfl (qm_x_istore (lv' := [(6, qm_I (qm_i 0)), (0, qm_R (some (0, 61, 0))), (1, qm_I (qm_i a)), (2, qm_I (qm_i b)), (3, qm_I (qm_i m)), (4, qm_I (qm_i l)), (5, qm_I (qm_i f)), (7, qm_I (qm_i k))]) rfl) ?_
      refine qm_G.sp (lv1 := [(0, qm_R (some (0, 61, 0))), (1, qm_I (qm_i a)), (2, qm_I (qm_i b)), (3, qm_I (qm_i m)), (4, qm_I (qm_i l)), (5, qm_I (qm_i f)), (6, qm_I (qm_i 0)), (7, qm_I (qm_i k))]) rfl rfl (qm_x_iinc (lv' := [(7, qm_I (qm_i (k + 1))), (0, qm_R (some (0, 61, 0))), (1, qm_I (qm_i a)), (2, qm_I (qm_i b)), (3, qm_I (qm_i m)), (4, qm_I (qm_i l)), (5, qm_I (qm_i f)), (6, qm_I (qm_i 0))]) 1 rfl rfl rfl) ?_
      refine qm_G.s1 rfl (qm_x_goto) ?_
      refine qm_G.pk (lv1 := [(0, qm_R (some (0, 61, 0))), (1, qm_I (qm_i a)), (2, qm_I (qm_i b)), (3, qm_I (qm_i m)), (4, qm_I (qm_i l)), (5, qm_I (qm_i f)), (6, qm_I (qm_i 0)), (7, qm_I (qm_i (k + 1)))]) rfl rfl rfl ?_
      refine ih (k + 1) 0 (by omega) (by omega) ?_
      rw [qm_sn_n (by omega), cond_false] at k9
      rw [qm_bif0]
      exact k9
theorem qm_m_fit {S : List qm_Sh} {K : qm_J} {D : qm_Ct UInt64} {R : qm_Ct (Option qm_Rf)} {X : Nat × (Nat → Int32)} {Q : Option qm_V → qm_Hp → Prop} {a b : Int} {N sk bk ak : Nat → Int} (hS : qm_Sd S) (hR : qm_Rd R) (hN : qm_Nk N) (rc : 0 ≤ N 12 ∧ N 12 ≤ 5) (h96 : ∀ j, j < 5 → N (96 + 3 * j) = sk j ∧ N (97 + 3 * j) = bk j ∧ N (98 + 3 * j) = ak j) (rs : ∀ j, j < 5 → (-8 ≤ sk j ∧ sk j ≤ 8) ∧ (0 ≤ bk j ∧ bk j ≤ 6) ∧ (0 ≤ ak j ∧ ak j ≤ 6)) : ∀ (n : Nat) (f m l : Int) (J : qm_J) (L : qm_Ct Int64), f + 1 = n → f ≤ 20 → (m, l) = qm_Mk (fun f => qm_sn (qm_VB (qm_ch N 0 0) (qm_ch N 0 1) (N 1) f) (N 1) (N 2) sk bk ak (Int.toNat (N 12)) 0) (Int.toNat (20 - f)) (f + 1) → (∀ i, i ≠ 3 → J 62 0 i = N i) → (∀ (J' : qm_J) (L' : qm_Ct Int64), (∀ r s i, ¬ (r = 65 ∨ r = 68 ∨ r = 62 ∧ s = 0 ∧ i = 3) → J' r s i = J r s i) → (∀ r s i, r ≠ 64 → L' r s i = L r s i) → qm_G qm_P qm_P190 171 [(0, qm_R (some (0, 61, 0))), (1, qm_I (qm_i a)), (2, qm_I (qm_i b)), (3, qm_I (qm_i ((qm_Mk (fun f => qm_sn (qm_VB (qm_ch N 0 0) (qm_ch N 0 1) (N 1) f) (N 1) (N 2) sk bk ak (Int.toNat (N 12)) 0) 21 0).1))), (4, qm_I (qm_i ((qm_Mk (fun f => qm_sn (qm_VB (qm_ch N 0 0) (qm_ch N 0 1) (N 1) f) (N 1) (N 2) sk bk ak (Int.toNat (N 12)) 0) 21 0).2)))] [] (qm_H S J' K L' D R X) Q) → qm_G qm_P qm_P190 28 [(0, qm_R (some (0, 61, 0))), (1, qm_I (qm_i a)), (2, qm_I (qm_i b)), (3, qm_I (qm_i m)), (4, qm_I (qm_i l)), (5, qm_I (qm_i f))] [] (qm_H S J K L D R X) Q := by
  intro n
  induction n with
  | zero =>
    intro f m l J L h1 h2 hm hj k
    refine qm_G.pk (lv1 := [(0, qm_R (some (0, 61, 0))), (1, qm_I (qm_i a)), (2, qm_I (qm_i b)), (3, qm_I (qm_i m)), (4, qm_I (qm_i l)), (5, qm_I (qm_i f))]) rfl rfl rfl ?_
    refine qm_G.sp (lv1 := [(0, qm_R (some (0, 61, 0))), (1, qm_I (qm_i a)), (2, qm_I (qm_i b)), (3, qm_I (qm_i m)), (4, qm_I (qm_i l)), (5, qm_I (qm_i f))]) rfl rfl (qm_x_iload rfl) ?_
    refine qm_G.s1 rfl (qm_x_if_lt_t ⟨by omega, by omega⟩ (by omega)) ?_
    refine qm_G.pk (lv1 := [(0, qm_R (some (0, 61, 0))), (1, qm_I (qm_i a)), (2, qm_I (qm_i b)), (3, qm_I (qm_i m)), (4, qm_I (qm_i l))]) rfl rfl rfl ?_
    have k9 := k J L (fun _ _ _ _ => rfl) (fun _ _ _ _ => rfl)
    rw [show f + 1 = 0 by omega, show Int.toNat (20 - f) = 21 by omega] at hm
    rw [show qm_Mk (fun f => qm_sn (qm_VB (qm_ch N 0 0) (qm_ch N 0 1) (N 1) f) (N 1) (N 2) sk bk ak (Int.toNat (N 12)) 0) 21 0 = (m, l) from hm.symm] at k9
    exact k9
  | succ n ih =>
    intro f m l J L h1 h2 hm hj k
    have rm : 0 ≤ m ∧ m ≤ 21 := by have h9 := qm_Mk_ok (so := (fun f => qm_sn (qm_VB (qm_ch N 0 0) (qm_ch N 0 1) (N 1) f) (N 1) (N 2) sk bk ak (Int.toNat (N 12)) 0)) (Int.toNat (20 - f)) (f + 1); rw [← hm] at h9; have h8 := h9.1; have h7 := h9.2.1; dsimp only at h8 h7; omega
    refine qm_G.pk (lv1 := [(0, qm_R (some (0, 61, 0))), (1, qm_I (qm_i a)), (2, qm_I (qm_i b)), (3, qm_I (qm_i m)), (4, qm_I (qm_i l)), (5, qm_I (qm_i f))]) rfl rfl rfl ?_
    refine qm_G.sp (lv1 := [(0, qm_R (some (0, 61, 0))), (1, qm_I (qm_i a)), (2, qm_I (qm_i b)), (3, qm_I (qm_i m)), (4, qm_I (qm_i l)), (5, qm_I (qm_i f))]) rfl rfl (qm_x_iload rfl) ?_
    refine qm_G.s1 rfl (qm_x_if_lt_f ⟨by omega, by omega⟩ (by omega)) ?_
    refine qm_G.s1 rfl (qm_x_aload rfl) ?_
    refine qm_G.s1 rfl (qm_x_getfR (q := (some (0, 62, 0))) (hS 61 rfl) (hR 61 0 62 rfl rfl)) ?_
    refine qm_G.s1 rfl (qm_x_pushI 3 rfl) ?_
    refine qm_G.s1 rfl (qm_x_iload rfl) ?_
    refine qm_G.s1 rfl (qm_x_iast (qm_arS hS rfl rfl) rfl (by decide) (by decide) (by decide)) ?_
    refine qm_G.s1 rfl (qm_x_aload rfl) ?_
    refine qm_G.cmv rfl rfl (hS 61 rfl) rfl ?_
    have j3 : (qm_set J 62 0 (Int.toNat 3) f) 62 0 3 = f := qm_st_eq
    have jn : ∀ i, i ≠ 3 → (qm_set J 62 0 (Int.toNat 3) f) 62 0 i = N i := fun i hi => (qm_st_ne (by omega)).trans (hj i hi)
    generalize hJ9 : qm_set J 62 0 (Int.toNat 3) f = J9 at j3 jn ⊢
    have e9 : ∀ r s i, ¬ (r = 62 ∧ s = 0 ∧ i = 3) → J9 r s i = J r s i := fun r s i h => by rw [← hJ9]; exact qm_st_ne h
    have hN9 : qm_Nk (J9 62 0) := ⟨by rw [jn 1 (by decide)]; exact hN.lim, by rw [jn 2 (by decide)]; exact hN.rnd, by rw [j3]; omega, by rw [jn 6 (by decide)]; exact hN.str, by rw [jn 7 (by decide)]; exact hN.cnt, fun d hd => by rw [jn (14 + d) (by omega)]; exact hN.odd d hd, fun q hq => by rw [jn (50 + q) (by omega), jn 7 (by decide)]; exact hN.dek q hq, fun r x1 x2 => by rw [jn 7 (by decide)] at x2; rw [jn (26 + 3 * r) (by omega), jn (27 + 3 * r) (by omega), jn (28 + 3 * r) (by omega)]; exact hN.riv r x1 x2⟩
    have cg : ∀ sd z : Int, 0 ≤ sd ∧ sd ≤ 1 → 0 ≤ z → z ≤ 6 → qm_ch (J9 62 0) 0 sd z = qm_ch N 0 sd z := fun sd z x1 x2 x3 => qm_ch_gone hN x1 ⟨x2, x3⟩ (by decide) (fun i y1 y2 => jn i (by omega)) (jn 6 (by decide)) (fun q hq => by rw [Int.zero_ediv, if_neg (by decide)]; exact jn _ (by omega))
    refine qm_m_values hS hR hN9 (fun J2 L2 ej2 fl2 b2 t2 => ⟨rfl, ?_⟩)
    have jn2 : ∀ i, i ≠ 3 → J2 62 0 i = N i := fun i hi => (ej2 62 0 i (by omega)).trans (jn i hi)
    refine qm_G.s1 rfl (qm_x_pushI 1 rfl) ?_
    refine qm_G.s1 rfl (qm_x_istore (lv' := [(6, qm_I (qm_i 1)), (0, qm_R (some (0, 61, 0))), (1, qm_I (qm_i a)), (2, qm_I (qm_i b)), (3, qm_I (qm_i m)), (4, qm_I (qm_i l)), (5, qm_I (qm_i f))]) rfl) ?_
    refine qm_G.s1 rfl (qm_x_pushI 0 rfl) ?_
    refine qm_G.s1 rfl (qm_x_istore (lv' := [(7, qm_I (qm_i 0)), (6, qm_I (qm_i 1)), (0, qm_R (some (0, 61, 0))), (1, qm_I (qm_i a)), (2, qm_I (qm_i b)), (3, qm_I (qm_i m)), (4, qm_I (qm_i l)), (5, qm_I (qm_i f))]) rfl) ?_
    refine qm_G.pk (lv1 := [(0, qm_R (some (0, 61, 0))), (1, qm_I (qm_i a)), (2, qm_I (qm_i b)), (3, qm_I (qm_i m)), (4, qm_I (qm_i l)), (5, qm_I (qm_i f)), (6, qm_I (qm_i 1)), (7, qm_I (qm_i 0))]) rfl rfl rfl ?_
    refine qm_m_sby (W := qm_VB (qm_ch N 0 0) (qm_ch N 0 1) (N 1) f) (lim := N 1) (rn := N 2) (cnt := N 12) hS hR hN.lim hN.rnd (jn2 1 (by decide)) (jn2 2 (by decide)) (jn2 12 (by decide)) rc (fun j hj9 => ⟨(jn2 _ (by omega)).trans (h96 j hj9).1, (jn2 _ (by omega)).trans (h96 j hj9).2.1, (jn2 _ (by omega)).trans (h96 j hj9).2.2⟩) rs (fun t s => qm_VB_rng) (fun x x1 x2 x3 => ?_) (Int.toNat (N 12)) 0 1 (by omega) (by decide) ?_
    · have h9 := (t2 (N 2) x (by omega) (Or.inl (by have := hN.rnd; omega)) (by rw [jn 1 (by decide)]; exact x1) (by rw [jn 1 (by decide)]; exact x2)).2 x3
      rw [jn 1 (by decide), j3, qm_VB_congr (fun z c d => cg 0 z (by decide) c d) (fun z c d => cg 1 z (by decide) c d)] at h9
      exact h9
    · obtain ⟨y, hy⟩ : ∃ y, y = (fun f => qm_sn (qm_VB (qm_ch N 0 0) (qm_ch N 0 1) (N 1) f) (N 1) (N 2) sk bk ak (Int.toNat (N 12)) 0) f := ⟨_, rfl⟩
      have hy8 : y = qm_sn (qm_VB (qm_ch N 0 0) (qm_ch N 0 1) (N 1) f) (N 1) (N 2) sk bk ak (Int.toNat (N 12)) (Int.toNat 0) := hy
      rw [← hy8]
      have ry := qm_bifr y
      refine qm_G.sp (lv1 := [(0, qm_R (some (0, 61, 0))), (1, qm_I (qm_i a)), (2, qm_I (qm_i b)), (3, qm_I (qm_i m)), (4, qm_I (qm_i l)), (5, qm_I (qm_i f)), (6, qm_I (qm_i (bif y then 1 else 0)))]) rfl rfl (qm_x_iload rfl) ?_
      refine qm_y_if_ne rfl ⟨by omega, by omega⟩ (fun c1 => ?_) (fun c1 => ?_)
      · refine qm_G.sp (lv1 := [(0, qm_R (some (0, 61, 0))), (1, qm_I (qm_i a)), (2, qm_I (qm_i b)), (3, qm_I (qm_i m)), (5, qm_I (qm_i f))]) rfl rfl (qm_x_iinc (lv' := [(3, qm_I (qm_i (m + 1))), (0, qm_R (some (0, 61, 0))), (1, qm_I (qm_i a)), (2, qm_I (qm_i b)), (5, qm_I (qm_i f))]) 1 rfl rfl rfl) ?_
        refine qm_G.s1 rfl (qm_x_iload rfl) ?_
        refine qm_G.s1 rfl (qm_x_istore (lv' := [(4, qm_I (qm_i f)), (3, qm_I (qm_i (m + 1))), (0, qm_R (some (0, 61, 0))), (1, qm_I (qm_i a)), (2, qm_I (qm_i b)), (5, qm_I (qm_i f))]) rfl) ?_
        refine qm_G.sp (lv1 := [(0, qm_R (some (0, 61, 0))), (1, qm_I (qm_i a)), (2, qm_I (qm_i b)), (3, qm_I (qm_i (m + 1))), (4, qm_I (qm_i f)), (5, qm_I (qm_i f))]) rfl rfl (qm_x_iinc (lv' := [(5, qm_I (qm_i (f + (-1)))), (0, qm_R (some (0, 61, 0))), (1, qm_I (qm_i a)), (2, qm_I (qm_i b)), (3, qm_I (qm_i (m + 1))), (4, qm_I (qm_i f))]) (-1) rfl rfl rfl) ?_
        refine qm_G.s1 rfl (qm_x_goto) ?_
        refine qm_G.pk (lv1 := [(0, qm_R (some (0, 61, 0))), (1, qm_I (qm_i a)), (2, qm_I (qm_i b)), (3, qm_I (qm_i (m + 1))), (4, qm_I (qm_i f)), (5, qm_I (qm_i (f + -1)))]) rfl rfl rfl ?_
        have hy9 : y = true := by cases y with | true => rfl | false => exact absurd (show (bif false then (1 : Int) else 0) = 0 from rfl) (by omega)
        refine ih _ _ _ J2 L2 (by omega) (by omega) ?_ jn2 (fun J8 L8 ej8 fl8 => k J8 L8 (fun r s i h => by rw [ej8 r s i (by omega), ej2 r s i (by omega), e9 r s i (by omega)]) (fun r s i h => (fl8 r s i h).trans (fl2 r s i h)))
        rw [show f + (-1) + 1 = f by omega, show Int.toNat (20 - (f + -1)) = (Int.toNat (20 - f)) + 1 by omega]
        rw [qm_Mk_y (so := (fun f => qm_sn (qm_VB (qm_ch N 0 0) (qm_ch N 0 1) (N 1) f) (N 1) (N 2) sk bk ak (Int.toNat (N 12)) 0)) (hy.symm.trans hy9), ← hm]
      · refine qm_G.s1 rfl (qm_x_goto) ?_
        refine qm_G.sp (lv1 := [(0, qm_R (some (0, 61, 0))), (1, qm_I (qm_i a)), (2, qm_I (qm_i b)), (3, qm_I (qm_i m)), (4, qm_I (qm_i l)), (5, qm_I (qm_i f))]) rfl rfl (qm_x_iinc (lv' := [(5, qm_I (qm_i (f + (-1)))), (0, qm_R (some (0, 61, 0))), (1, qm_I (qm_i a)), (2, qm_I (qm_i b)), (3, qm_I (qm_i m)), (4, qm_I (qm_i l))]) (-1) rfl rfl rfl) ?_
        refine qm_G.s1 rfl (qm_x_goto) ?_
        refine qm_G.pk (lv1 := [(0, qm_R (some (0, 61, 0))), (1, qm_I (qm_i a)), (2, qm_I (qm_i b)), (3, qm_I (qm_i m)), (4, qm_I (qm_i l)), (5, qm_I (qm_i (f + -1)))]) rfl rfl rfl ?_
        have hy9 : y = false := by cases y with | false => rfl | true => exact absurd (show (bif true then (1 : Int) else 0) = 1 from rfl) (by omega)
        refine ih _ _ _ J2 L2 (by omega) (by omega) ?_ jn2 (fun J8 L8 ej8 fl8 => k J8 L8 (fun r s i h => by rw [ej8 r s i (by omega), ej2 r s i (by omega), e9 r s i (by omega)]) (fun r s i h => (fl8 r s i h).trans (fl2 r s i h)))
        rw [show f + (-1) + 1 = f by omega, show Int.toNat (20 - (f + -1)) = (Int.toNat (20 - f)) + 1 by omega]
        rw [qm_Mk_n (so := (fun f => qm_sn (qm_VB (qm_ch N 0 0) (qm_ch N 0 1) (N 1) f) (N 1) (N 2) sk bk ak (Int.toNat (N 12)) 0)) (hy.symm.trans hy9), ← hm]
