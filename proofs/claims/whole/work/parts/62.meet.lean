/-! MEETING, the numbers -/
abbrev qm_1d : UInt64 := 4607182418800017408
abbrev qm_pc (c : Int) : UInt64 := FP.ddiv (FP.i2d (qm_i c)) 4652007308841189376
def qm_cfb (c : Nat) : Bool := ((qm_pc c).toNat == 0 || (Nat.ble (1013 * 2 ^ 52) (qm_pc c).toNat && Nat.ble (qm_pc c).toNat (1023 * 2 ^ 52))) && ((FP.dsub qm_1d (qm_pc c)).toNat == 0 || (Nat.ble (1013 * 2 ^ 52) (FP.dsub qm_1d (qm_pc c)).toNat && Nat.ble (FP.dsub qm_1d (qm_pc c)).toNat (1023 * 2 ^ 52)))
def qm_cfa : Nat → Bool
  | 0 => true
  | n + 1 => qm_cfb n && qm_cfa n
theorem qm_cfa_at : ∀ n : Nat, qm_cfa n = true → ∀ c, c < n → qm_cfb c = true := by
  intro n
  induction n with
  | zero => intro _ c h; exact absurd h (Nat.not_lt_zero c)
  | succ n ih =>
    intro h c hc
    have h2 := (Bool.and_eq_true _ _).mp h
    by_cases e : c = n
    · rw [e]; exact h2.1
    · exact ih h2.2 c (by omega)
theorem qm_cfa_all : qm_cfa 1001 = true := by decide +kernel
theorem qm_pc_pd {c : Int} (h : 0 ≤ c ∧ c ≤ 1000) : qm_pd 1013 1023 (qm_pc c) ∧ qm_pd 1013 1023 (FP.dsub qm_1d (qm_pc c)) := by
  obtain ⟨n, rfl⟩ := Int.eq_ofNat_of_zero_le h.1
  have h1 := qm_cfa_at 1001 qm_cfa_all n (by omega)
  unfold qm_cfb at h1
  rw [Bool.and_eq_true] at h1
  have k : ∀ x : UInt64, (x.toNat == 0 || (Nat.ble (1013 * 2 ^ 52) x.toNat && Nat.ble x.toNat (1023 * 2 ^ 52))) = true → qm_pd 1013 1023 x := by
    intro x hx
    rw [Bool.or_eq_true, Bool.and_eq_true] at hx
    rcases hx with hx | hx
    · exact Or.inl (eq_of_beq hx)
    · exact Or.inr ⟨Nat.le_of_ble_eq_true hx.1, Nat.le_of_ble_eq_true hx.2⟩
  exact ⟨k _ h1.1, k _ h1.2⟩
abbrev qm_mx (u v x y z : UInt64) : UInt64 := FP.dadd (FP.dadd (FP.dadd (FP.dmul (FP.dmul u v) x) (FP.dmul (FP.dmul u (FP.dsub qm_1d v)) y)) (FP.dmul (FP.dmul (FP.dsub qm_1d u) v) z)) (FP.dmul (FP.dmul (FP.dsub qm_1d u) (FP.dsub qm_1d v)) x)
theorem qm_mt {u v x y z : UInt64} {l h : Nat} (hu : qm_pd 1013 1023 u) (hu1 : qm_pd 1013 1023 (FP.dsub qm_1d u)) (hv : qm_pd 1013 1023 v) (hv1 : qm_pd 1013 1023 (FP.dsub qm_1d v)) (hx : qm_pd l h x) (hy : qm_pd l h y) (hz : qm_pd l h z) (c1 : 30 ≤ l) (c2 : l ≤ h) (c3 : h ≤ 2000) :
    (qm_fi (FP.dsub qm_1d u) ∧ qm_fi (FP.dsub qm_1d v)) ∧ (qm_fi (FP.dmul u v) ∧ qm_fi (FP.dmul u (FP.dsub qm_1d v)) ∧ qm_fi (FP.dmul (FP.dsub qm_1d u) v) ∧ qm_fi (FP.dmul (FP.dsub qm_1d u) (FP.dsub qm_1d v))) ∧
    (qm_fi (FP.dmul (FP.dmul u v) x) ∧ qm_fi (FP.dmul (FP.dmul u (FP.dsub qm_1d v)) y) ∧ qm_fi (FP.dmul (FP.dmul (FP.dsub qm_1d u) v) z) ∧ qm_fi (FP.dmul (FP.dmul (FP.dsub qm_1d u) (FP.dsub qm_1d v)) x)) ∧
    (qm_fi (FP.dadd (FP.dmul (FP.dmul u v) x) (FP.dmul (FP.dmul u (FP.dsub qm_1d v)) y)) ∧ qm_fi (FP.dadd (FP.dadd (FP.dmul (FP.dmul u v) x) (FP.dmul (FP.dmul u (FP.dsub qm_1d v)) y)) (FP.dmul (FP.dmul (FP.dsub qm_1d u) v) z)) ∧ qm_fi (qm_mx u v x y z)) ∧ qm_pd (l - 20) (h + 3) (qm_mx u v x y z) := by
  have m2 : ∀ {a b : UInt64}, qm_pd 1013 1023 a → qm_pd 1013 1023 b → qm_pd 1003 1023 (FP.dmul a b) := fun pa pb => qm_pd_mul pa pb (by decide) (by decide) (by decide) (by decide) (by decide) (by decide) (by decide) (by decide)
  have m3 : ∀ {a b : UInt64}, qm_pd 1003 1023 a → qm_pd l h b → qm_pd (l - 20) h (FP.dmul a b) := fun pa pb => qm_pd_mul pa pb (by decide) (by omega) (by decide) (by omega) (by omega) (by omega) (by omega) (by omega)
  have g1 := m2 hu hv
  have g2 := m2 hu hv1
  have g3 := m2 hu1 hv
  have g4 := m2 hu1 hv1
  have k1 := m3 g1 hx
  have k2 := m3 g2 hy
  have k3 := m3 g3 hz
  have k4 := m3 g4 hx
  have s1 := qm_pd_add k1 k2 (by omega) (by omega) (by omega)
  have s2 := qm_pd_add s1 (k3.wk (Nat.le_refl _) (Nat.le_succ h)) (by omega) (by omega) (by omega)
  have s3 := qm_pd_add s2 (k4.wk (Nat.le_refl _) (show h ≤ h + 1 + 1 by omega)) (by omega) (by omega) (by omega)
  exact ⟨⟨hu1.fi (by decide), hv1.fi (by decide)⟩, ⟨g1.fi (by decide), g2.fi (by decide), g3.fi (by decide), g4.fi (by decide)⟩, ⟨k1.fi (by omega), k2.fi (by omega), k3.fi (by omega), k4.fi (by omega)⟩, ⟨s1.fi (by omega), s2.fi (by omega), s3.fi (by omega)⟩, s3⟩
def qm_MB (Pb Pa : Int → Int) (W : Nat → Int → qm_S3) (lim : Int) : Nat → Int → UInt64
  | 0, s => if s = lim ∨ s = -lim then qm_1d else 0
  | t + 1, s => if s = lim ∨ s = -lim then qm_1d else qm_mx (qm_pc (Pb (W (t + 1) s).2.1)) (qm_pc (Pa (W (t + 1) s).2.2)) (qm_MB Pb Pa W lim t s) (qm_MB Pb Pa W lim t (s + 1)) (qm_MB Pb Pa W lim t (s - 1))
theorem qm_MB_pd {Pb Pa : Int → Int} {W : Nat → Int → qm_S3} {lim : Int} (rW : ∀ t s, (0 ≤ (W t s).2.1 ∧ (W t s).2.1 ≤ 6) ∧ (0 ≤ (W t s).2.2 ∧ (W t s).2.2 ≤ 6)) (rb : ∀ z : Int, 0 ≤ z → z ≤ 6 → 0 ≤ Pb z ∧ Pb z ≤ 1000) (ra : ∀ z : Int, 0 ≤ z → z ≤ 6 → 0 ≤ Pa z ∧ Pa z ≤ 1000) : ∀ (t : Nat), t ≤ 40 → ∀ s : Int, qm_pd (1023 - 20 * t) (1023 + 3 * t) (qm_MB Pb Pa W lim t s) := by
  have one : ∀ {l h : Nat}, l ≤ 1023 → 1023 ≤ h → qm_pd l h qm_1d := fun h1 h2 => Or.inr ⟨Nat.le_trans (Nat.mul_le_mul_right _ h1) (by decide), Nat.le_trans (show (qm_1d).toNat ≤ 1023 * 2 ^ 52 by decide) (Nat.mul_le_mul_right _ h2)⟩
  intro t
  induction t with
  | zero =>
    intro _ s
    show qm_pd _ _ (if s = lim ∨ s = -lim then qm_1d else 0)
    split
    · exact one (by omega) (by omega)
    · exact Or.inl rfl
  | succ t ih =>
    intro ht s
    show qm_pd _ _ (if s = lim ∨ s = -lim then qm_1d else _)
    split
    · exact one (by omega) (by omega)
    · have hu := qm_pc_pd (rb _ (rW (t + 1) s).1.1 (rW (t + 1) s).1.2)
      have hv := qm_pc_pd (ra _ (rW (t + 1) s).2.1 (rW (t + 1) s).2.2)
      have h9 := (qm_mt hu.1 hu.2 hv.1 hv.2 (ih (by omega) s) (ih (by omega) (s + 1)) (ih (by omega) (s - 1)) (by omega) (by omega) (by omega)).2.2.2.2
      exact h9.wk (by omega) (by omega)
theorem qm_MB_e {Pb Pa : Int → Int} {W : Nat → Int → qm_S3} {lim s : Int} {t : Nat} (h : s = lim ∨ s = -lim) : qm_MB Pb Pa W lim t s = qm_1d := by
  cases t with
  | zero => exact if_pos h
  | succ t => exact if_pos h
theorem qm_MB_0 {Pb Pa : Int → Int} {W : Nat → Int → qm_S3} {lim s : Int} (h : ¬ (s = lim ∨ s = -lim)) : qm_MB Pb Pa W lim 0 s = 0 := if_neg h
theorem qm_MB_s {Pb Pa : Int → Int} {W : Nat → Int → qm_S3} {lim s : Int} {t : Nat} (h : ¬ (s = lim ∨ s = -lim)) : qm_MB Pb Pa W lim (t + 1) s = qm_mx (qm_pc (Pb (W (t + 1) s).2.1)) (qm_pc (Pa (W (t + 1) s).2.2)) (qm_MB Pb Pa W lim t s) (qm_MB Pb Pa W lim t (s + 1)) (qm_MB Pb Pa W lim t (s - 1)) := if_neg h
