/-! TABLES by rows, and what stands in them -/
theorem qm_set_set {α : Type} {f : qm_Ct α} {r s i : Nat} {v w : α} : qm_set (qm_set f r s i v) r s i w = qm_set f r s i w := by
  funext r' s' i'
  unfold qm_set
  split <;> rfl
theorem qm_set_com {α : Type} {f : qm_Ct α} {r s i r2 s2 i2 : Nat} {v w : α} (h : r ≠ r2) : qm_set (qm_set f r s i v) r2 s2 i2 w = qm_set (qm_set f r2 s2 i2 w) r s i v := by
  funext r' s' i'
  unfold qm_set
  by_cases h1 : r' = r
  · subst h1
    have hh : ¬ (r' = r2 ∧ s' = s2 ∧ i' = i2) := by omega
    simp only [if_neg hh]
  · have hh : ¬ (r' = r ∧ s' = s ∧ i' = i) := by omega
    simp only [if_neg hh]
theorem qm_set_own {α : Type} {f : qm_Ct α} {r s i : Nat} : qm_set f r s i (f r s i) = f := by
  funext r' s' i'
  unfold qm_set
  split
  · rename_i h
    rw [h.1, h.2.1, h.2.2]
  · rfl
theorem qm_st_ne {α : Type} {f : qm_Ct α} {r s i r' s' i' : Nat} {v : α} (h : ¬ (r' = r ∧ s' = s ∧ i' = i)) : qm_set f r s i v r' s' i' = f r' s' i' := if_neg h
theorem qm_st_eq {α : Type} {f : qm_Ct α} {r s i : Nat} {v : α} : qm_set f r s i v r s i = v := if_pos ⟨rfl, rfl, rfl⟩
/-- rows t0 to t1 of a grid, the last up to x < sx; place x + 8 of row t is g t x -/
def qm_tab {α : Type} (f : qm_Ct α) (r : Nat) (lo hi : Int) (t0 t1 : Nat) (sx : Int) (g : Nat → Int → α) : qm_Ct α := fun r' s' i' => if r' = r ∧ t0 + 1 ≤ s' ∧ lo ≤ (i' : Int) - 8 ∧ (i' : Int) - 8 < hi ∧ (s' < t1 + 1 ∨ (s' = t1 + 1 ∧ (i' : Int) - 8 < sx)) then g (s' - 1) ((i' : Int) - 8) else f r' s' i'
section TB
variable {α : Type} {f : qm_Ct α} {r t0 t1 : Nat} {lo hi sx : Int} {g : Nat → Int → α}
theorem qm_tab_set (h0 : t0 ≤ t1) (h1 : -8 ≤ lo) (h2 : lo ≤ sx) (h3 : sx < hi) {v : α} (hv : v = g t1 sx) : qm_set (qm_tab f r lo hi t0 t1 sx g) r (t1 + 1) (Int.toNat (sx + 8)) v = qm_tab f r lo hi t0 t1 (sx + 1) g := by
  subst hv
  funext r' s' i'
  unfold qm_set qm_tab
  by_cases h : r' = r ∧ s' = t1 + 1 ∧ i' = Int.toNat (sx + 8)
  · rw [if_pos h, if_pos (by omega)]
    obtain ⟨h4, h5, h6⟩ := h
    rw [show s' - 1 = t1 by omega, show (i' : Int) - 8 = sx by omega]
  · rw [if_neg h]
    by_cases h9 : r' = r ∧ t0 + 1 ≤ s' ∧ lo ≤ (i' : Int) - 8 ∧ (i' : Int) - 8 < hi ∧ (s' < t1 + 1 ∨ (s' = t1 + 1 ∧ (i' : Int) - 8 < sx))
    · rw [if_pos h9, if_pos (by omega)]
    · rw [if_neg h9, if_neg (by omega)]
theorem qm_tab_row (hl : lo ≤ hi) : qm_tab f r lo hi t0 t1 hi g = qm_tab f r lo hi t0 (t1 + 1) lo g := by
  funext r' s' i'
  unfold qm_tab
  by_cases h9 : r' = r ∧ t0 + 1 ≤ s' ∧ lo ≤ (i' : Int) - 8 ∧ (i' : Int) - 8 < hi ∧ (s' < t1 + 1 ∨ (s' = t1 + 1 ∧ (i' : Int) - 8 < hi))
  · rw [if_pos h9, if_pos (by omega)]
  · rw [if_neg h9, if_neg (by omega)]
theorem qm_tab_get {t : Nat} {x : Int} (h0 : t0 ≤ t) (h1 : -8 ≤ lo) (h2 : lo ≤ x) (h3 : x < hi) (h4 : t < t1) : qm_tab f r lo hi t0 t1 sx g r (t + 1) (Int.toNat (x + 8)) = g t x := by
  unfold qm_tab
  rw [if_pos (by omega), show t + 1 - 1 = t by omega, show ((Int.toNat (x + 8) : Nat) : Int) - 8 = x by omega]
theorem qm_tab_non : qm_tab f r lo hi t0 t0 lo g = f := by
  funext r' s' i'
  unfold qm_tab
  exact if_neg (by omega)
theorem qm_tab_ne {r' s' i' : Nat} (h : r' ≠ r) : qm_tab f r lo hi t0 t1 sx g r' s' i' = f r' s' i' := if_neg (by omega)
/-- the same, laid flat, seventeen a row -/
def qm_flt (f : qm_Ct α) (r : Nat) (lo hi : Int) (t0 t1 : Nat) (sx : Int) (g : Nat → Int → α) : qm_Ct α := fun r' s' i' => if r' = r ∧ s' = 0 ∧ t0 ≤ i' / 17 ∧ lo ≤ ((i' % 17 : Nat) : Int) - 8 ∧ ((i' % 17 : Nat) : Int) - 8 < hi ∧ (i' / 17 < t1 ∨ (i' / 17 = t1 ∧ ((i' % 17 : Nat) : Int) - 8 < sx)) then g (i' / 17) (((i' % 17 : Nat) : Int) - 8) else f r' s' i'
theorem qm_flt_set (h0 : t0 ≤ t1) (h1 : -8 ≤ lo) (h2 : lo ≤ sx) (h3 : sx < hi) (h8 : hi ≤ 9) {v : α} (hv : v = g t1 sx) {p : Nat} (hp : (p : Int) = 17 * t1 + 8 + sx) : qm_set (qm_flt f r lo hi t0 t1 sx g) r 0 p v = qm_flt f r lo hi t0 t1 (sx + 1) g := by
  subst hv
  funext r' s' i'
  unfold qm_set qm_flt
  by_cases h : r' = r ∧ s' = 0 ∧ i' = p
  · rw [if_pos h, if_pos (by omega)]
    obtain ⟨h4, h5, h6⟩ := h
    rw [show i' / 17 = t1 by omega, show ((i' % 17 : Nat) : Int) - 8 = sx by omega]
  · rw [if_neg h]
    by_cases h9 : r' = r ∧ s' = 0 ∧ t0 ≤ i' / 17 ∧ lo ≤ ((i' % 17 : Nat) : Int) - 8 ∧ ((i' % 17 : Nat) : Int) - 8 < hi ∧ (i' / 17 < t1 ∨ (i' / 17 = t1 ∧ ((i' % 17 : Nat) : Int) - 8 < sx))
    · rw [if_pos h9, if_pos (by omega)]
    · rw [if_neg h9, if_neg (by omega)]
theorem qm_flt_row (hl : lo ≤ hi) : qm_flt f r lo hi t0 t1 hi g = qm_flt f r lo hi t0 (t1 + 1) lo g := by
  funext r' s' i'
  unfold qm_flt
  by_cases h9 : r' = r ∧ s' = 0 ∧ t0 ≤ i' / 17 ∧ lo ≤ ((i' % 17 : Nat) : Int) - 8 ∧ ((i' % 17 : Nat) : Int) - 8 < hi ∧ (i' / 17 < t1 ∨ (i' / 17 = t1 ∧ ((i' % 17 : Nat) : Int) - 8 < hi))
  · rw [if_pos h9, if_pos (by omega)]
  · rw [if_neg h9, if_neg (by omega)]
theorem qm_flt_get {t p : Nat} {x : Int} (h0 : t0 ≤ t) (h1 : -8 ≤ lo) (h2 : lo ≤ x) (h3 : x < hi) (h8 : hi ≤ 9) (h4 : t < t1) (hp : (p : Int) = 17 * t + 8 + x) : qm_flt f r lo hi t0 t1 sx g r 0 p = g t x := by
  unfold qm_flt
  rw [if_pos (by omega), show p / 17 = t by omega, show ((p % 17 : Nat) : Int) - 8 = x by omega]
theorem qm_flt_non : qm_flt f r lo hi t0 t0 lo g = f := by
  funext r' s' i'
  unfold qm_flt
  exact if_neg (by omega)
theorem qm_flt_ne {r' s' i' : Nat} (h : r' ≠ r) : qm_flt f r lo hi t0 t1 sx g r' s' i' = f r' s' i' := if_neg (by omega)
end TB
/-! what the rounds bring -/
def qm_fd (x : Int64) : Int64 := if x ^^^ qm_l 1000000 < qm_l 0 ∧ ¬ x / qm_l 1000000 * qm_l 1000000 = x then x / qm_l 1000000 - qm_l 1 else x / qm_l 1000000
def qm_mn (p q b a : Int) (same more less : Int64) : Int64 := qm_fd (qm_l p * qm_l q * (same + qm_l (b + a) * qm_l 1000000) + qm_l p * qm_l (1000 - q) * (more + qm_l b * qm_l 1000000) + qm_l (1000 - p) * qm_l q * (less + qm_l a * qm_l 1000000) + qm_l (1000 - p) * qm_l (1000 - q) * same)
abbrev qm_S3 : Type := Int64 × Int × Int
def qm_inn (f : Int → Int → Int64) (b : Int) : Nat → Int → qm_S3 → qm_S3
  | 0, _, st => st
  | n + 1, a, st => qm_inn f b n (a + 1) (if st.1 < f b a then (f b a, b, a) else st)
def qm_out (f : Int → Int → Int64) (a0 : Int) (m : Nat) : Nat → Int → qm_S3 → qm_S3
  | 0, _, st => st
  | n + 1, b, st => qm_out f a0 m n (b + 1) (qm_inn f b m a0 st)
def qm_v0 (fine s : Int) : Int64 := qm_l (-1000000) * qm_l fine * qm_l s * qm_l s
def qm_VB (P Q : Int → Int) (lim fine : Int) : Nat → Int → qm_S3
  | 0, s => (qm_v0 fine s, 0, 0)
  | t + 1, s => qm_out (fun b a => qm_mn (P b) (Q a) b a (if -lim ≤ s ∧ s ≤ lim then (qm_VB P Q lim fine t s).1 else qm_l 0) (if -lim ≤ s + 1 ∧ s + 1 ≤ lim then (qm_VB P Q lim fine t (s + 1)).1 else qm_l 0) (if -lim ≤ s - 1 ∧ s - 1 ≤ lim then (qm_VB P Q lim fine t (s - 1)).1 else qm_l 0)) (if s = -lim then 6 else 0) (if s = -lim then 1 else 7) (if s = lim then 1 else 7) (if s = lim then 6 else 0) (qm_l (-9223372036854775808), 0, 0)
theorem qm_l_tdiv {x y : Int} (hx : qm_sl x) (hy : qm_sl y) : qm_l x / qm_l y = qm_l (x.tdiv y) := (Int64.ofInt_tdiv (show Int64.minValue.toInt ≤ x from hx.1) (show x ≤ Int64.maxValue.toInt from hx.2) (show Int64.minValue.toInt ≤ y from hy.1) (show y ≤ Int64.maxValue.toInt from hy.2)).symm
theorem qm_sll (a : Int64) : qm_sl a.toInt := ⟨by have := Int64.le_toInt a; omega, by have := Int64.toInt_lt a; omega⟩
theorem qm_l_self (a : Int64) : qm_l a.toInt = a := Int64.ofInt_toInt a
theorem qm_fd_gt (x : Int64) : qm_l (-9223372036854775808) < qm_fd x := by
  have h := qm_sll x
  have e : x / qm_l 1000000 = qm_l (x.toInt.tdiv 1000000) := by
    rw [← qm_l_tdiv h ⟨by decide, by decide⟩, qm_l_self]
  have h1 : x.toInt.tdiv 1000000 ≤ 9223372036855 ∧ -9223372036855 ≤ x.toInt.tdiv 1000000 := by
    rcases Int.le_total 0 x.toInt with c | c
    · rw [Int.tdiv_eq_ediv_of_nonneg c]
      omega
    · have e2 : x.toInt.tdiv 1000000 = -((-x.toInt) / 1000000) := by
        rw [← Int.tdiv_eq_ediv_of_nonneg (by omega), Int.neg_tdiv, Int.neg_neg]
      rw [e2]
      omega
  unfold qm_fd
  rw [e]
  split
  · rw [qm_l_sub, qm_l_lt ⟨by decide, by decide⟩ ⟨by omega, by omega⟩]
    omega
  · rw [qm_l_lt ⟨by decide, by decide⟩ ⟨by omega, by omega⟩]
    omega
theorem qm_mn_gt {p q b a : Int} {x y z : Int64} : qm_l (-9223372036854775808) < qm_mn p q b a x y z := qm_fd_gt _
theorem qm_l_zero (x : Int64) : qm_l 0 * x = 0 := Int64.zero_mul
/-- the model's sum is the same -/
theorem qm_mn_11 {p q b a : Int} {same more less : Int64} : qm_fd (qm_l p * qm_l q * (same + qm_l (b + a) * qm_l 1000000) + qm_l (1000 - p) * qm_l (1000 - q) * same + qm_l p * qm_l (1000 - q) * (more + qm_l b * qm_l 1000000) + qm_l (1000 - p) * qm_l q * (less + qm_l a * qm_l 1000000)) = qm_mn p q b a same more less := by
  unfold qm_mn
  have e : ∀ A B C D : Int64, A + D + B + C = A + B + C + D := by
    intro A B C D
    ac_rfl
  rw [e]
theorem qm_mn_10 {p q b a : Int} {same more less : Int64} (hq : q = 0) : qm_fd (qm_l p * qm_l q * (same + qm_l (b + a) * qm_l 1000000) + qm_l (1000 - p) * qm_l (1000 - q) * same + qm_l p * qm_l (1000 - q) * (more + qm_l b * qm_l 1000000)) = qm_mn p q b a same more less := by
  rw [← qm_mn_11]
  subst hq
  rw [show qm_l (1000 - p) * qm_l 0 * (less + qm_l a * qm_l 1000000) = 0 by rw [show qm_l (1000 - p) * qm_l 0 = 0 from Int64.mul_zero, Int64.zero_mul], Int64.add_zero]
theorem qm_mn_01 {p q b a : Int} {same more less : Int64} (hp : p = 0) : qm_fd (qm_l p * qm_l q * (same + qm_l (b + a) * qm_l 1000000) + qm_l (1000 - p) * qm_l (1000 - q) * same + qm_l (1000 - p) * qm_l q * (less + qm_l a * qm_l 1000000)) = qm_mn p q b a same more less := by
  rw [← qm_mn_11]
  subst hp
  rw [show qm_l 0 * qm_l (1000 - q) * (more + qm_l b * qm_l 1000000) = 0 by rw [qm_l_zero, Int64.zero_mul], Int64.add_zero]
theorem qm_mn_00 {p q b a : Int} {same more less : Int64} (hp : p = 0) (hq : q = 0) : qm_fd (qm_l p * qm_l q * (same + qm_l (b + a) * qm_l 1000000) + qm_l (1000 - p) * qm_l (1000 - q) * same) = qm_mn p q b a same more less := by
  rw [← qm_mn_10 hq]
  subst hp
  rw [show qm_l 0 * qm_l (1000 - q) * (more + qm_l b * qm_l 1000000) = 0 by rw [qm_l_zero, Int64.zero_mul], Int64.add_zero]
/-- a quote that leads beyond the limit has the factor 0 -/
theorem qm_mn_b6 {p q b a : Int} {same more more' less : Int64} (hp : p = 0) : qm_mn p q b a same more less = qm_mn p q b a same more' less := by
  rw [← qm_mn_01 hp, qm_mn_01 hp]
theorem qm_mn_a6 {p q b a : Int} {same more less less' : Int64} (hq : q = 0) : qm_mn p q b a same more less = qm_mn p q b a same more less' := by
  rw [← qm_mn_10 hq, qm_mn_10 hq]
