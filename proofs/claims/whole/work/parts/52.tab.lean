/-! TABLES by rows, and what stands in them -/
theorem qm_set_set {α : Type} {f : qm_Ct α} {r s i : Nat} {v w : α} : qm_set (qm_set f r s i v) r s i w = qm_set f r s i w := by
  funext r' s' i'
  unfold qm_set
  split <;> rfl
theorem qm_set_com {α : Type} {f : qm_Ct α} {r s i r2 s2 i2 : Nat} {v w : α} (h : r ≠ r2) : qm_set (qm_set f r s i v) r2 s2 i2 w = qm_set (qm_set f r2 s2 i2 w) r s i v := by
  funext r' s' i'
  unfold qm_set
  by_cases h1 : r' = r
  · subst h1
    have hh : ¬ (r' = r2 ∧ s' = s2 ∧ i' = i2) := by omega
    simp only [if_neg hh]
  · have hh : ¬ (r' = r ∧ s' = s ∧ i' = i) := by omega
    simp only [if_neg hh]
theorem qm_set_own {α : Type} {f : qm_Ct α} {r s i : Nat} : qm_set f r s i (f r s i) = f := by
  funext r' s' i'
  unfold qm_set
  split
  · rename_i h
    rw [h.1, h.2.1, h.2.2]
  · rfl
theorem qm_st_ne {α : Type} {f : qm_Ct α} {r s i r' s' i' : Nat} {v : α} (h : ¬ (r' = r ∧ s' = s ∧ i' = i)) : qm_set f r s i v r' s' i' = f r' s' i' := if_neg h
theorem qm_st_eq {α : Type} {f : qm_Ct α} {r s i : Nat} {v : α} : qm_set f r s i v r s i = v := if_pos ⟨rfl, rfl, rfl⟩
/-! what the rounds bring -/
def qm_fd (x : Int64) : Int64 := if x ^^^ qm_l 1000000 < qm_l 0 ∧ ¬ x / qm_l 1000000 * qm_l 1000000 = x then x / qm_l 1000000 - qm_l 1 else x / qm_l 1000000
def qm_mn (p q b a : Int) (same more less : Int64) : Int64 := qm_fd (qm_l p * qm_l q * (same + qm_l (b + a) * qm_l 1000000) + qm_l p * qm_l (1000 - q) * (more + qm_l b * qm_l 1000000) + qm_l (1000 - p) * qm_l q * (less + qm_l a * qm_l 1000000) + qm_l (1000 - p) * qm_l (1000 - q) * same)
abbrev qm_S3 : Type := Int64 × Int × Int
def qm_inn (f : Int → Int → Int64) (b : Int) : Nat → Int → qm_S3 → qm_S3
  | 0, _, st => st
  | n + 1, a, st => qm_inn f b n (a + 1) (if st.1 < f b a then (f b a, b, a) else st)
def qm_out (f : Int → Int → Int64) (a0 : Int) (m : Nat) : Nat → Int → qm_S3 → qm_S3
  | 0, _, st => st
  | n + 1, b, st => qm_out f a0 m n (b + 1) (qm_inn f b m a0 st)
def qm_v0 (fine s : Int) : Int64 := qm_l (-1000000) * qm_l fine * qm_l s * qm_l s
def qm_hd (V : Int → Int64) (lim x : Int) : Int64 := if -lim ≤ x ∧ x ≤ lim then V x else qm_l 0
def qm_VB (P Q : Int → Int) (lim fine : Int) : Nat → Int → qm_S3
  | 0, s => (qm_v0 fine s, 0, 0)
  | t + 1, s => qm_out (fun b a => qm_mn (P b) (Q a) b a (qm_hd (fun x => (qm_VB P Q lim fine t x).1) lim s) (qm_hd (fun x => (qm_VB P Q lim fine t x).1) lim (s + 1)) (qm_hd (fun x => (qm_VB P Q lim fine t x).1) lim (s - 1))) (if s = -lim then 6 else 0) (if s = -lim then 1 else 7) (if s = lim then 1 else 7) (if s = lim then 6 else 0) (qm_l (-9223372036854775808), 0, 0)
theorem qm_l_tdiv {x y : Int} (hx : qm_sl x) (hy : qm_sl y) : qm_l x / qm_l y = qm_l (x.tdiv y) := (Int64.ofInt_tdiv (show Int64.minValue.toInt ≤ x from hx.1) (show x ≤ Int64.maxValue.toInt from hx.2) (show Int64.minValue.toInt ≤ y from hy.1) (show y ≤ Int64.maxValue.toInt from hy.2)).symm
theorem qm_sll (a : Int64) : qm_sl a.toInt := ⟨by have := Int64.le_toInt a; omega, by have := Int64.toInt_lt a; omega⟩
theorem qm_l_self (a : Int64) : qm_l a.toInt = a := Int64.ofInt_toInt a
theorem qm_fd_gt (x : Int64) : qm_l (-9223372036854775808) < qm_fd x := by
  have h := qm_sll x
  have e : x / qm_l 1000000 = qm_l (x.toInt.tdiv 1000000) := by
    rw [← qm_l_tdiv h ⟨by decide, by decide⟩, qm_l_self]
  have h1 : x.toInt.tdiv 1000000 ≤ 9223372036855 ∧ -9223372036855 ≤ x.toInt.tdiv 1000000 := by
    rcases Int.le_total 0 x.toInt with c | c
    · rw [Int.tdiv_eq_ediv_of_nonneg c]
      omega
    · have e2 : x.toInt.tdiv 1000000 = -((-x.toInt) / 1000000) := by
        rw [← Int.tdiv_eq_ediv_of_nonneg (by omega), Int.neg_tdiv, Int.neg_neg]
      rw [e2]
      omega
  unfold qm_fd
  rw [e]
  split
  · rw [qm_l_sub, qm_l_lt ⟨by decide, by decide⟩ ⟨by omega, by omega⟩]
    omega
  · rw [qm_l_lt ⟨by decide, by decide⟩ ⟨by omega, by omega⟩]
    omega
theorem qm_mn_gt {p q b a : Int} {x y z : Int64} : qm_l (-9223372036854775808) < qm_mn p q b a x y z := qm_fd_gt _
theorem qm_l_zero (x : Int64) : qm_l 0 * x = 0 := Int64.zero_mul
/-- the model's sum is the same -/
theorem qm_mn_11 {p q b a : Int} {same more less : Int64} : qm_fd (qm_l p * qm_l q * (same + qm_l (b + a) * qm_l 1000000) + qm_l (1000 - p) * qm_l (1000 - q) * same + qm_l p * qm_l (1000 - q) * (more + qm_l b * qm_l 1000000) + qm_l (1000 - p) * qm_l q * (less + qm_l a * qm_l 1000000)) = qm_mn p q b a same more less := by
  unfold qm_mn
  have e : ∀ A B C D : Int64, A + D + B + C = A + B + C + D := by
    intro A B C D
    ac_rfl
  rw [e]
theorem qm_mn_10 {p q b a : Int} {same more less : Int64} (hq : q = 0) : qm_fd (qm_l p * qm_l q * (same + qm_l (b + a) * qm_l 1000000) + qm_l (1000 - p) * qm_l (1000 - q) * same + qm_l p * qm_l (1000 - q) * (more + qm_l b * qm_l 1000000)) = qm_mn p q b a same more less := by
  rw [← qm_mn_11]
  subst hq
  rw [show qm_l (1000 - p) * qm_l 0 * (less + qm_l a * qm_l 1000000) = 0 by rw [show qm_l (1000 - p) * qm_l 0 = 0 from Int64.mul_zero, Int64.zero_mul], Int64.add_zero]
theorem qm_mn_01 {p q b a : Int} {same more less : Int64} (hp : p = 0) : qm_fd (qm_l p * qm_l q * (same + qm_l (b + a) * qm_l 1000000) + qm_l (1000 - p) * qm_l (1000 - q) * same + qm_l (1000 - p) * qm_l q * (less + qm_l a * qm_l 1000000)) = qm_mn p q b a same more less := by
  rw [← qm_mn_11]
  subst hp
  rw [show qm_l 0 * qm_l (1000 - q) * (more + qm_l b * qm_l 1000000) = 0 by rw [qm_l_zero, Int64.zero_mul], Int64.add_zero]
theorem qm_mn_00 {p q b a : Int} {same more less : Int64} (hp : p = 0) (hq : q = 0) : qm_fd (qm_l p * qm_l q * (same + qm_l (b + a) * qm_l 1000000) + qm_l (1000 - p) * qm_l (1000 - q) * same) = qm_mn p q b a same more less := by
  rw [← qm_mn_10 hq]
  subst hp
  rw [show qm_l 0 * qm_l (1000 - q) * (more + qm_l b * qm_l 1000000) = 0 by rw [qm_l_zero, Int64.zero_mul], Int64.add_zero]
/-- a quote that leads beyond the limit has the factor 0 -/
theorem qm_mn_b6 {p q b a : Int} {same more more' less : Int64} (hp : p = 0) : qm_mn p q b a same more less = qm_mn p q b a same more' less := by
  rw [← qm_mn_01 hp, qm_mn_01 hp]
theorem qm_mn_a6 {p q b a : Int} {same more less less' : Int64} (hq : q = 0) : qm_mn p q b a same more less = qm_mn p q b a same more less' := by
  rw [← qm_mn_10 hq, qm_mn_10 hq]
theorem qm_inn_p {f : Int → Int → Int64} {b a x y : Int} {n : Nat} {v : Int64} (c : v < f b a) : qm_inn f b (n + 1) a (v, x, y) = qm_inn f b n (a + 1) (f b a, b, a) := by
  show qm_inn f b n (a + 1) (if v < f b a then (f b a, b, a) else (v, x, y)) = _
  rw [if_pos c]
theorem qm_inn_n {f : Int → Int → Int64} {b a x y : Int} {n : Nat} {v : Int64} (c : ¬ v < f b a) : qm_inn f b (n + 1) a (v, x, y) = qm_inn f b n (a + 1) (v, x, y) := by
  show qm_inn f b n (a + 1) (if v < f b a then (f b a, b, a) else (v, x, y)) = _
  rw [if_neg c]
theorem qm_out_s {f : Int → Int → Int64} {b a0 : Int} {m n : Nat} {st st' : qm_S3} (e : qm_inn f b m a0 st = st') : qm_out f a0 m (n + 1) b st = qm_out f a0 m n (b + 1) st' := by
  subst e
  rfl
theorem qm_inn_any {f : Int → Int → Int64} {b : Int} {n : Nat} {a x y x' y' : Int} {v : Int64} (hn : 0 < n) (h : v < f b a) : qm_inn f b n a (v, x, y) = qm_inn f b n a (v, x', y') := by
  cases n with
  | zero => exact absurd hn (by decide)
  | succ n =>
    show qm_inn f b n _ (if v < f b a then _ else _) = qm_inn f b n _ (if v < f b a then _ else _)
    rw [if_pos h, if_pos h]
theorem qm_out_any {f : Int → Int → Int64} {b a0 : Int} {m n : Nat} {x y x' y' : Int} {v : Int64} (hm : 0 < m) (hn : 0 < n) (h : v < f b a0) : qm_out f a0 m n b (v, x, y) = qm_out f a0 m n b (v, x', y') := by
  cases n with
  | zero => exact absurd hn (by decide)
  | succ n =>
    show qm_out f a0 m n _ (qm_inn f b m a0 _) = qm_out f a0 m n _ (qm_inn f b m a0 _)
    rw [qm_inn_any hm h]
theorem qm_inn_rng {f : Int → Int → Int64} {b : Int} : ∀ (n : Nat) (a : Int) (st : qm_S3), a + n = 7 → 0 ≤ a → 0 ≤ b ∧ b ≤ 6 → (0 ≤ st.2.1 ∧ st.2.1 ≤ 6) ∧ (0 ≤ st.2.2 ∧ st.2.2 ≤ 6) → (0 ≤ (qm_inn f b n a st).2.1 ∧ (qm_inn f b n a st).2.1 ≤ 6) ∧ (0 ≤ (qm_inn f b n a st).2.2 ∧ (qm_inn f b n a st).2.2 ≤ 6) := by
  intro n
  induction n with
  | zero => intro a st h1 h2 h3 h4; exact h4
  | succ n ih =>
    intro a st h1 h2 h3 h4
    refine ih (a + 1) _ (by omega) (by omega) h3 ?_
    split
    · exact ⟨h3, by dsimp only; omega⟩
    · exact h4
theorem qm_out_rng {f : Int → Int → Int64} {a0 : Int} {m : Nat} (hm : a0 + m = 7) (h0 : 0 ≤ a0) : ∀ (n : Nat) (b : Int) (st : qm_S3), b + n = 7 → 0 ≤ b → (0 ≤ st.2.1 ∧ st.2.1 ≤ 6) ∧ (0 ≤ st.2.2 ∧ st.2.2 ≤ 6) → (0 ≤ (qm_out f a0 m n b st).2.1 ∧ (qm_out f a0 m n b st).2.1 ≤ 6) ∧ (0 ≤ (qm_out f a0 m n b st).2.2 ∧ (qm_out f a0 m n b st).2.2 ≤ 6) := by
  intro n
  induction n with
  | zero => intro b st h1 h2 h3; exact h3
  | succ n ih =>
    intro b st h1 h2 h3
    exact ih (b + 1) _ (by omega) (by omega) (qm_inn_rng m a0 st hm h0 (by omega) h3)
theorem qm_VB_rng {P Q : Int → Int} {lim fine : Int} {t : Nat} {s : Int} : (0 ≤ (qm_VB P Q lim fine t s).2.1 ∧ (qm_VB P Q lim fine t s).2.1 ≤ 6) ∧ (0 ≤ (qm_VB P Q lim fine t s).2.2 ∧ (qm_VB P Q lim fine t s).2.2 ≤ 6) := by
  cases t with
  | zero => exact ⟨⟨(by decide : (0 : Int) ≤ 0), (by decide : (0 : Int) ≤ 6)⟩, (by decide : (0 : Int) ≤ 0), (by decide : (0 : Int) ≤ 6)⟩
  | succ t =>
    refine qm_out_rng ?_ ?_ _ _ _ ?_ ?_ ⟨⟨by decide, by decide⟩, by decide, by decide⟩
    · split <;> decide
    · split <;> decide
    · split <;> decide
    · split <;> decide
