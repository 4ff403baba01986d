/-! RESERVE, the numbers: floats by their bits and by units of 2^-149 -/
abbrev qm_uf (m : Nat) : Nat := FP.Core.unitsOf FP.Core.b32 m
theorem qm_uf_le {m k : Nat} : qm_uf m ≤ qm_uf k ↔ m ≤ k := FP.Core.unitsOf_le_iff
theorem qm_uf_at {K t : Nat} (hK : 1 ≤ K) (ht : t < 2 ^ 23) : qm_uf (K * 2 ^ 23 + t) = (2 ^ 23 + t) * 2 ^ (K - 1) := by
  unfold qm_uf FP.Core.unitsOf
  rw [FP.Core.tails_b32, if_neg (by omega), show (K * 2 ^ 23 + t) % 2 ^ 23 = t by omega, show (K * 2 ^ 23 + t) / 2 ^ 23 = K by omega]
theorem qm_uf_st {K : Nat} (hK : 1 ≤ K) : qm_uf (K * 2 ^ 23) = 2 ^ (K + 22) := by
  have h := qm_uf_at (K := K) (t := 0) hK (by decide)
  rw [Nat.add_zero, Nat.add_zero, ← Nat.pow_add, show 23 + (K - 1) = K + 22 by omega] at h
  exact h
theorem qm_fin32 {a : UInt32} (h : a.toNat < 2139095040) : ∃ c q, FP.Core.val32 a = .fin false c q ∧ FP.Core.zmag FP.Core.b32 (.fin false c q) = qm_uf a.toNat := by
  have h1 : a.toNat % 2 ^ 31 = a.toNat := Nat.mod_eq_of_lt (by omega)
  obtain ⟨s, c, q, h2⟩ := (FP.Core.fin_bits32 a).mpr (by rw [h1]; exact h)
  have h3 : FP.Core.val32 a ≠ .nan := by rw [h2]; intro h; cases h
  have h4 := FP.Core.sgn_bits32 h3
  have h5 := FP.Core.zmag_toNat32 h3
  rw [h1, h2] at h5
  rw [h2] at h4
  have h6 : s = false := by
    have h7 : s = decide (2 ^ 31 ≤ a.toNat) := h4
    rw [h7]
    exact decide_eq_false (by omega)
  subst h6
  exact ⟨c, q, h2, h5⟩
/-- a float as a double -/
theorem qm_f2d {a : UInt32} {k t : Nat} (ha : a.toNat = k * 2 ^ 23 + t) (ht : t < 2 ^ 23) (hk : 1 ≤ k ∧ k ≤ 254) : (FP.f2d a).toNat = (k + 896) * 2 ^ 52 + t * 2 ^ 29 := by
  obtain ⟨c, q, h1, h2⟩ := qm_fin32 (a := a) (by omega)
  have fa := FP.Core.val32_fits a
  rw [h1] at fa
  have g1 := fa.2.1
  have hd : FP.Core.val64 (FP.f2d a) = FP.Core.roundRatio FP.Core.b64 false c 1 q := by
    rw [FP.f2d_core ((FP.Core.notNaN_iff32 a).mpr (by rw [h1]; intro h; cases h)), FP.Core.val64_f2d, h1]
    rfl
  have hq : FP.Core.b64.qmin ≤ FP.Core.b32.qmin := by decide
  have m1 := FP.Core.inUnits_move c (q := q) (e := FP.Core.b64.qmin) (r := FP.Core.b32.qmin) hq g1
  have m2 : FP.Core.inUnits c q FP.Core.b32.qmin = qm_uf a.toNat := h2
  rw [m2, show (FP.Core.b32.qmin - FP.Core.b64.qmin).toNat = 925 by decide +kernel, ha, qm_uf_at hk.1 ht] at m1
  have e : qm_un ((k + 896) * 2 ^ 52 + t * 2 ^ 29) = (2 ^ 23 + t) * 2 ^ (k - 1) * 2 ^ 925 := by
    rw [qm_un_at (by omega) (by omega), show 2 ^ 52 + t * 2 ^ 29 = (2 ^ 23 + t) * 2 ^ 29 by omega, Nat.mul_assoc, Nat.mul_assoc, ← Nat.pow_add, ← Nat.pow_add, show 29 + (k + 896 - 1) = k - 1 + 925 by omega]
  have := qm_rnd hd (Int.le_refl _) (by omega) (w := 0) (by rw [Int.sub_self]; rfl) (Nat.le_refl ((k + 896) * 2 ^ 52 + t * 2 ^ 29)) (by rw [m1, e, Nat.pow_zero, Nat.mul_one]; exact Nat.le_refl _) (by rw [m1, e, Nat.pow_zero, Nat.mul_one]; exact Nat.le_refl _) (by omega)
  omega
abbrev qm_zq (r : Int) : UInt32 := FP.fdiv (FP.i2f (qm_i r)) 1120403456
abbrev qm_zu (s r : Int) : UInt32 := FP.fmul (FP.i2f (qm_i s)) (qm_zq r)
abbrev qm_zy (s r t : Int) : UInt32 := FP.fmul (qm_zu s r) (FP.i2f (qm_i t))
def qm_zok (x : UInt32) : Bool := Nat.ble (x.toNat % 2147483648) 1115684864
def qm_zt (u : UInt32) : Nat → Bool
  | 0 => true
  | n + 1 => qm_zok (FP.fmul u (FP.i2f (qm_i (n : Int)))) && qm_zt u n
def qm_zs (q : UInt32) : Nat → Bool
  | 0 => true
  | n + 1 => (let u := FP.fmul (FP.i2f (qm_i ((n : Int) - 8))) q; qm_zok u && qm_zt u 9) && qm_zs q n
def qm_zr : Nat → Bool
  | 0 => true
  | n + 1 => (let q := qm_zq (n : Int); qm_zok q && qm_zs q 17) && qm_zr n
theorem qm_zr_all : qm_zr 100 = true := by decide +kernel
theorem qm_zt_at {u : UInt32} : ∀ n, qm_zt u n = true → ∀ t, t < n → qm_zok (FP.fmul u (FP.i2f (qm_i (t : Int)))) = true := by
  intro n
  induction n with
  | zero => intro _ t h; exact absurd h (Nat.not_lt_zero t)
  | succ n ih =>
    intro h t ht
    have h2 := (Bool.and_eq_true _ _).mp h
    by_cases e : t = n
    · rw [e]; exact h2.1
    · exact ih h2.2 t (by omega)
theorem qm_zs_at {q : UInt32} : ∀ n, qm_zs q n = true → ∀ s, s < n → qm_zok (FP.fmul (FP.i2f (qm_i ((s : Int) - 8))) q) = true ∧ qm_zt (FP.fmul (FP.i2f (qm_i ((s : Int) - 8))) q) 9 = true := by
  intro n
  induction n with
  | zero => intro _ s h; exact absurd h (Nat.not_lt_zero s)
  | succ n ih =>
    intro h s hs
    have h2 := (Bool.and_eq_true _ _).mp h
    by_cases e : s = n
    · rw [e]; exact (Bool.and_eq_true _ _).mp h2.1
    · exact ih h2.2 s (by omega)
theorem qm_zr_at : ∀ n, qm_zr n = true → ∀ r, r < n → qm_zok (qm_zq (r : Int)) = true ∧ qm_zs (qm_zq (r : Int)) 17 = true := by
  intro n
  induction n with
  | zero => intro _ s h; exact absurd h (Nat.not_lt_zero s)
  | succ n ih =>
    intro h s hs
    have h2 := (Bool.and_eq_true _ _).mp h
    by_cases e : s = n
    · rw [e]; exact (Bool.and_eq_true _ _).mp h2.1
    · exact ih h2.2 s (by omega)
abbrev qm_f6 (a : UInt32) : Prop := a.toNat % 2 ^ 31 ≤ 1115684864
theorem qm_zy_ok {s r t : Int} (hs : -8 ≤ s ∧ s ≤ 8) (hr : 0 ≤ r ∧ r ≤ 99) (ht : 0 ≤ t ∧ t ≤ 8) : qm_f6 (qm_zq r) ∧ qm_f6 (qm_zu s r) ∧ qm_f6 (qm_zy s r t) := by
  have a1 := qm_zr_at 100 qm_zr_all r.toNat (by omega)
  rw [Int.toNat_of_nonneg hr.1] at a1
  have a2 := qm_zs_at 17 a1.2 (s + 8).toNat (by omega)
  rw [Int.toNat_of_nonneg (by omega), show s + 8 - 8 = s by omega] at a2
  have a3 := qm_zt_at 9 a2.2 t.toNat (by omega)
  rw [Int.toNat_of_nonneg ht.1] at a3
  exact ⟨Nat.le_of_ble_eq_true a1.1, Nat.le_of_ble_eq_true a2.1, Nat.le_of_ble_eq_true a3⟩
