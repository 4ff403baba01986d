/-! DOUBLES that are not negative, by their bits and by units of 2^-1074 -/
abbrev qm_un (m : Nat) : Nat := FP.Core.unitsOf FP.Core.b64 m
abbrev qm_fi (a : UInt64) : Prop := a.toNat < 9218868437227405312
theorem qm_un_le {m k : Nat} : qm_un m ≤ qm_un k ↔ m ≤ k := FP.Core.unitsOf_le_iff
theorem qm_un_zero : qm_un 0 = 0 := FP.Core.unitsOf_zero _
theorem qm_un_at {K t : Nat} (hK : 1 ≤ K) (ht : t < 2 ^ 52) : qm_un (K * 2 ^ 52 + t) = (2 ^ 52 + t) * 2 ^ (K - 1) := by
  unfold qm_un FP.Core.unitsOf
  rw [FP.Core.tails_b64, if_neg (by omega), show (K * 2 ^ 52 + t) % 2 ^ 52 = t by omega, show (K * 2 ^ 52 + t) / 2 ^ 52 = K by omega]
theorem qm_un_st {K : Nat} (hK : 1 ≤ K) : qm_un (K * 2 ^ 52) = 2 ^ (K + 51) := by
  have h := qm_un_at (K := K) (t := 0) hK (by decide)
  rw [Nat.add_zero, Nat.add_zero, ← Nat.pow_add, show 52 + (K - 1) = K + 51 by omega] at h
  exact h
theorem qm_fin {a : UInt64} (h : qm_fi a) : ∃ c q, FP.Core.val64 a = .fin false c q ∧ FP.Core.zmag FP.Core.b64 (.fin false c q) = qm_un a.toNat := by
  have h1 : a.toNat % 2 ^ 63 = a.toNat := Nat.mod_eq_of_lt (by unfold qm_fi at h; omega)
  obtain ⟨s, c, q, h2⟩ := (FP.Core.fin_bits a).mpr (by rw [h1]; exact h)
  have h3 : FP.Core.val64 a ≠ .nan := by rw [h2]; intro h; cases h
  have h4 := FP.Core.sgn_bits h3
  have h5 := FP.Core.zmag_bits h3
  rw [h1, h2] at h5
  rw [h2] at h4
  have h6 : s = false := by
    have h7 : s = decide (2 ^ 63 ≤ a.toNat) := h4
    rw [h7]
    exact decide_eq_false (by unfold qm_fi at h; omega)
  subst h6
  exact ⟨c, q, h2, h5⟩
theorem qm_rnd {x : UInt64} {A : Nat} {e e0 : Int} (hd : FP.Core.val64 x = FP.Core.roundRatio FP.Core.b64 false A 1 e) (h0 : e0 ≤ FP.Core.b64.qmin) (h0e : e0 ≤ e) {w lo hi : Nat} (hw : (FP.Core.b64.qmin - e0).toNat = w) (hl : lo ≤ hi) (h1 : qm_un lo * 2 ^ w ≤ FP.Core.inUnits A e e0) (h2 : FP.Core.inUnits A e e0 ≤ qm_un hi * 2 ^ w) (h3 : hi < 9218868437227405312) : lo ≤ x.toNat ∧ x.toNat ≤ hi := by
  subst hw
  have hn : FP.Core.val64 x ≠ .nan := by rw [hd]; exact FP.Core.roundRatio_ne_nan _ _ _ _ _
  have hs := FP.Core.sgn_bits hn
  rw [hd, FP.Core.sgn_roundRatio] at hs
  have h7 : ¬ 2 ^ 63 ≤ x.toNat := of_decide_eq_false hs.symm
  have h8 : x.toNat % 2 ^ 63 = x.toNat := Nat.mod_eq_of_lt (by omega)
  have h4 := FP.Core.mag_le FP.Core.good_b64 (n := x.toNat) (m := hi) hd (by decide) h0 h0e (by rw [Nat.mul_one]; exact h2)
  have h5 := FP.Core.mag_ge FP.Core.good_b64 (n := x.toNat) (m := lo) hd (by decide) h0 h0e (by rw [FP.Core.infBits_b64]; omega) (by rw [Nat.mul_one]; exact h1)
  rw [FP.Core.mag_toNat64, h8] at h4 h5
  exact ⟨h5, h4⟩
theorem qm_mul_bd {a b : UInt64} (ha : qm_fi a) (hb : qm_fi b) {lo hi : Nat} (hl : lo ≤ hi) (h1 : qm_un lo * 2 ^ 1074 ≤ qm_un a.toNat * qm_un b.toNat) (h2 : qm_un a.toNat * qm_un b.toNat ≤ qm_un hi * 2 ^ 1074) (h3 : hi < 9218868437227405312) : lo ≤ (FP.dmul a b).toNat ∧ (FP.dmul a b).toNat ≤ hi := by
  obtain ⟨c, q, a1, a2⟩ := qm_fin ha
  obtain ⟨d, r, b1, b2⟩ := qm_fin hb
  have fa := FP.Core.val64_fits a
  have fb := FP.Core.val64_fits b
  rw [a1] at fa
  rw [b1] at fb
  obtain ⟨p1, p2, p3⟩ := FP.Core.product_units fa fb
  have hd : FP.Core.val64 (FP.dmul a b) = FP.Core.roundRatio FP.Core.b64 false (c * d) 1 (q + r) := by
    rw [show FP.dmul a b = FP.Core.dmul a b from rfl, FP.Core.val64_dmul, a1, b1, p1]
    rfl
  rw [a2, b2] at p3
  exact qm_rnd hd (by decide +kernel) p2 (w := 1074) (by decide +kernel) hl (by rw [p3]; exact h1) (by rw [p3]; exact h2) h3
theorem qm_add_bd {a b : UInt64} (ha : qm_fi a) (hb : qm_fi b) {lo hi : Nat} (hl : lo ≤ hi) (h1 : qm_un lo ≤ qm_un a.toNat + qm_un b.toNat) (h2 : qm_un a.toNat + qm_un b.toNat ≤ qm_un hi) (h3 : hi < 9218868437227405312) : lo ≤ (FP.dadd a b).toNat ∧ (FP.dadd a b).toNat ≤ hi := by
  obtain ⟨c, q, a1, a2⟩ := qm_fin ha
  obtain ⟨d, r, b1, b2⟩ := qm_fin hb
  have fa := FP.Core.val64_fits a
  have fb := FP.Core.val64_fits b
  rw [a1] at fa
  rw [b1] at fb
  have g1 := fa.2.1
  have g2 := fb.2.1
  have hv : FP.Core.sumUnits false c q false d r (min q r) = ((FP.Core.inUnits c q (min q r) + FP.Core.inUnits d r (min q r) : Nat) : Int) := by
    rw [Int.natCast_add]
    rfl
  have hx : FP.Core.exactSum (.fin false c q) (.fin false d r) = .fin false (FP.Core.inUnits c q (min q r) + FP.Core.inUnits d r (min q r)) (min q r) := by
    show FP.Core.Datum.fin (FP.Core.sumSign false false (FP.Core.sumUnits false c q false d r (min q r))) (FP.Core.sumUnits false c q false d r (min q r)).natAbs (min q r) = _
    rw [hv, Int.natAbs_natCast]
    have hs : FP.Core.sumSign false false ((FP.Core.inUnits c q (min q r) + FP.Core.inUnits d r (min q r) : Nat) : Int) = false := by
      unfold FP.Core.sumSign
      split
      · rfl
      · exact decide_eq_false (by omega)
    rw [hs]
  have hd : FP.Core.val64 (FP.dadd a b) = FP.Core.roundRatio FP.Core.b64 false (FP.Core.inUnits c q (min q r) + FP.Core.inUnits d r (min q r)) 1 (min q r) := by
    rw [show FP.dadd a b = FP.Core.dadd a b from rfl, FP.Core.val64_dadd, a1, b1, hx]
    rfl
  have hu : FP.Core.inUnits (FP.Core.inUnits c q (min q r) + FP.Core.inUnits d r (min q r)) (min q r) FP.Core.b64.qmin = qm_un a.toNat + qm_un b.toNat := by
    rw [← a2, ← b2]
    show (FP.Core.inUnits c q (min q r) + FP.Core.inUnits d r (min q r)) * 2 ^ (min q r - FP.Core.b64.qmin).toNat = FP.Core.inUnits c q FP.Core.b64.qmin + FP.Core.inUnits d r FP.Core.b64.qmin
    rw [Nat.add_mul, ← FP.Core.inUnits_move c (q := q) (e := FP.Core.b64.qmin) (r := min q r) (by omega) (by omega), ← FP.Core.inUnits_move d (q := r) (e := FP.Core.b64.qmin) (r := min q r) (by omega) (by omega)]
  exact qm_rnd hd (Int.le_refl _) (by omega) (w := 0) (by rw [Int.sub_self]; rfl) hl (by rw [hu, Nat.pow_zero, Nat.mul_one]; exact h1) (by rw [hu, Nat.pow_zero, Nat.mul_one]; exact h2) h3
theorem qm_sub_bd {a b : UInt64} (ha : qm_fi a) (hb : qm_fi b) (hba : b.toNat ≤ a.toNat) {lo hi : Nat} (hl : lo ≤ hi) (h1 : qm_un lo ≤ qm_un a.toNat - qm_un b.toNat) (h2 : qm_un a.toNat - qm_un b.toNat ≤ qm_un hi) (h3 : hi < 9218868437227405312) : lo ≤ (FP.dsub a b).toNat ∧ (FP.dsub a b).toNat ≤ hi := by
  obtain ⟨c, q, a1, a2⟩ := qm_fin ha
  obtain ⟨d, r, b1, b2⟩ := qm_fin hb
  have fa := FP.Core.val64_fits a
  have fb := FP.Core.val64_fits b
  rw [a1] at fa
  rw [b1] at fb
  have g1 := fa.2.1
  have g2 := fb.2.1
  have m1 := FP.Core.inUnits_move c (q := q) (e := FP.Core.b64.qmin) (r := min q r) (by omega) (by omega)
  have m2 := FP.Core.inUnits_move d (q := r) (e := FP.Core.b64.qmin) (r := min q r) (by omega) (by omega)
  have a3 : FP.Core.inUnits c q FP.Core.b64.qmin = qm_un a.toNat := a2
  have b3 : FP.Core.inUnits d r FP.Core.b64.qmin = qm_un b.toNat := b2
  have hle : FP.Core.inUnits d r (min q r) ≤ FP.Core.inUnits c q (min q r) := by
    have h9 : FP.Core.inUnits d r (min q r) * 2 ^ (min q r - FP.Core.b64.qmin).toNat ≤ FP.Core.inUnits c q (min q r) * 2 ^ (min q r - FP.Core.b64.qmin).toNat := by
      rw [← m1, ← m2, a3, b3]
      exact qm_un_le.mpr hba
    exact Nat.le_of_mul_le_mul_right h9 (Nat.two_pow_pos _)
  have hv : FP.Core.sumUnits false c q true d r (min q r) = ((FP.Core.inUnits c q (min q r) - FP.Core.inUnits d r (min q r) : Nat) : Int) := by
    rw [Int.natCast_sub hle, Int.sub_eq_add_neg]
    rfl
  have hx : FP.Core.exactSum (.fin false c q) (FP.Core.negate (.fin false d r)) = .fin false (FP.Core.inUnits c q (min q r) - FP.Core.inUnits d r (min q r)) (min q r) := by
    show FP.Core.Datum.fin (FP.Core.sumSign false true (FP.Core.sumUnits false c q true d r (min q r))) (FP.Core.sumUnits false c q true d r (min q r)).natAbs (min q r) = _
    rw [hv, Int.natAbs_natCast]
    have hs : FP.Core.sumSign false true ((FP.Core.inUnits c q (min q r) - FP.Core.inUnits d r (min q r) : Nat) : Int) = false := by
      unfold FP.Core.sumSign
      split
      · rfl
      · exact decide_eq_false (by omega)
    rw [hs]
  have hd : FP.Core.val64 (FP.dsub a b) = FP.Core.roundRatio FP.Core.b64 false (FP.Core.inUnits c q (min q r) - FP.Core.inUnits d r (min q r)) 1 (min q r) := by
    rw [show FP.dsub a b = FP.Core.dsub a b from rfl, FP.Core.val64_dsub, a1, b1, hx]
    rfl
  have hu : FP.Core.inUnits (FP.Core.inUnits c q (min q r) - FP.Core.inUnits d r (min q r)) (min q r) FP.Core.b64.qmin = qm_un a.toNat - qm_un b.toNat := by
    rw [← a3, ← b3, m1, m2]
    show (FP.Core.inUnits c q (min q r) - FP.Core.inUnits d r (min q r)) * 2 ^ (min q r - FP.Core.b64.qmin).toNat = _
    rw [Nat.sub_mul]
  exact qm_rnd hd (Int.le_refl _) (by omega) (w := 0) (by rw [Int.sub_self]; rfl) hl (by rw [hu, Nat.pow_zero, Nat.mul_one]; exact h1) (by rw [hu, Nat.pow_zero, Nat.mul_one]; exact h2) h3
/-- 0, or between two powers of 2 -/
def qm_pd (lo hi : Nat) (a : UInt64) : Prop := a.toNat = 0 ∨ (lo * 2 ^ 52 ≤ a.toNat ∧ a.toNat ≤ hi * 2 ^ 52)
theorem qm_pd.fi {lo hi : Nat} {a : UInt64} (h : qm_pd lo hi a) (hh : hi ≤ 2046) : qm_fi a := by
  unfold qm_fi
  rcases h with h | h <;> omega
theorem qm_pd.wk {lo hi lo' hi' : Nat} {a : UInt64} (h : qm_pd lo hi a) (h1 : lo' ≤ lo) (h2 : hi ≤ hi') : qm_pd lo' hi' a := by
  rcases h with h | h
  · exact Or.inl h
  · exact Or.inr ⟨Nat.le_trans (Nat.mul_le_mul_right _ h1) h.1, Nat.le_trans h.2 (Nat.mul_le_mul_right _ h2)⟩
theorem qm_pd_mul {l1 h1 l2 h2 l h : Nat} {a b : UInt64} (pa : qm_pd l1 h1 a) (pb : qm_pd l2 h2 b) (c1 : 1 ≤ l1) (c2 : 1 ≤ l2) (d1 : l1 ≤ h1 ∧ h1 ≤ 2046) (d2 : l2 ≤ h2 ∧ h2 ≤ 2046) (hl : l + 1023 = l1 + l2) (c3 : 1 ≤ l) (hh : h + 1023 = h1 + h2) (c4 : h ≤ 2046) : qm_pd l h (FP.dmul a b) := by
  have fa := pa.fi d1.2
  have fb := pb.fi d2.2
  by_cases z : a.toNat = 0 ∨ b.toNat = 0
  · have e : qm_un a.toNat * qm_un b.toNat = 0 := by
      rcases z with z | z
      · rw [z, qm_un_zero, Nat.zero_mul]
      · rw [z, qm_un_zero, Nat.mul_zero]
    have := qm_mul_bd fa fb (lo := 0) (hi := 0) (Nat.le_refl _) (by rw [qm_un_zero, Nat.zero_mul]; exact Nat.zero_le _) (by rw [e]; exact Nat.zero_le _) (by decide)
    exact Or.inl (by omega)
  · have pa := pa.resolve_left (fun w => z (Or.inl w))
    have pb := pb.resolve_left (fun w => z (Or.inr w))
    have u1 := qm_un_le.mpr pa.1
    have u2 := qm_un_le.mpr pa.2
    have u3 := qm_un_le.mpr pb.1
    have u4 := qm_un_le.mpr pb.2
    rw [qm_un_st c1] at u1
    rw [qm_un_st (by omega)] at u2
    rw [qm_un_st c2] at u3
    rw [qm_un_st (by omega)] at u4
    refine Or.inr (qm_mul_bd fa fb (by omega) ?_ ?_ (by omega))
    · rw [qm_un_st c3, ← Nat.pow_add, show l + 51 + 1074 = (l1 + 51) + (l2 + 51) by omega, Nat.pow_add]
      exact Nat.mul_le_mul u1 u3
    · rw [qm_un_st (by omega), ← Nat.pow_add, show h + 51 + 1074 = (h1 + 51) + (h2 + 51) by omega, Nat.pow_add]
      exact Nat.mul_le_mul u2 u4
theorem qm_pd_add {l h : Nat} {a b : UInt64} (pa : qm_pd l h a) (pb : qm_pd l h b) (c1 : 1 ≤ l) (c2 : l ≤ h) (c4 : h + 1 ≤ 2046) : qm_pd l (h + 1) (FP.dadd a b) := by
  have fa := pa.fi (by omega)
  have fb := pb.fi (by omega)
  have up : ∀ {x : UInt64}, qm_pd l h x → qm_un x.toNat ≤ 2 ^ (h + 51) := by
    intro x px
    rw [← qm_un_st (by omega)]
    refine qm_un_le.mpr ?_
    rcases px with px | px <;> omega
  have hs : 2 ^ (h + 51) + 2 ^ (h + 51) = 2 ^ (h + 1 + 51) := by
    rw [show h + 1 + 51 = (h + 51) + 1 by omega]
    exact ((Nat.pow_succ (n := 2) (m := h + 51)).trans (Nat.mul_two _)).symm
  have v1 := up pa
  have v2 := up pb
  have top : qm_un a.toNat + qm_un b.toNat ≤ qm_un ((h + 1) * 2 ^ 52) := by rw [qm_un_st (by omega), ← hs]; exact Nat.add_le_add v1 v2
  by_cases z : a.toNat = 0 ∧ b.toNat = 0
  · have := qm_add_bd fa fb (lo := 0) (hi := 0) (Nat.le_refl _) (by rw [qm_un_zero]; exact Nat.zero_le _) (by rw [z.1, z.2, qm_un_zero]; decide) (by decide)
    exact Or.inl (by omega)
  · refine Or.inr (qm_add_bd fa fb (by omega) ?_ top (by omega))
    by_cases z2 : a.toNat = 0
    · have pb := pb.resolve_left (fun w => z ⟨z2, w⟩)
      exact Nat.le_trans (qm_un_le.mpr pb.1) (Nat.le_add_left _ _)
    · have pa := pa.resolve_left z2
      exact Nat.le_trans (qm_un_le.mpr pa.1) (Nat.le_add_right _ _)
theorem qm_nn {a : UInt64} (h : qm_fi a) : a &&& 0x7fffffffffffffff ≤ 0x7ff0000000000000 := by
  rw [UInt64.le_iff_toNat_le, FP.Core.mask_toNat, Nat.mod_eq_of_lt (by unfold qm_fi at h; omega)]
  exact Nat.le_of_lt h
theorem qm_dcmp {a b : UInt64} (ha : qm_fi a) (hb : qm_fi b) : FP.dcmp a b = some (compare (a.toNat : Int) (b.toNat : Int)) := by
  have k : ∀ {x : UInt64}, qm_fi x → FP.Core.dkey x = (x.toNat : Int) ∧ FP.Core.val64 x ≠ .nan := by
    intro x hx
    obtain ⟨c, q, h1, h2⟩ := qm_fin hx
    exact ⟨if_neg (by unfold qm_fi at hx; omega), by rw [h1]; intro h; cases h⟩
  rw [show FP.dcmp a b = FP.Core.dcmp a b from rfl, FP.Core.dcmp_key (k ha).2 (k hb).2, (k ha).1, (k hb).1]
section XD
variable {n : Nat} {lv : qm_Lv} {st : List qm_V} {h : qm_Hp} {a b : UInt64} {o : CmpOp}
theorem qm_x_dmul (g : qm_fi (FP.dmul a b)) : qm_St (qm_o_dmul n) lv (qm_D b :: qm_D a :: st) h n lv (qm_D (FP.dmul a b) :: st) h := if_neg (fun w => w (qm_nn g))
theorem qm_x_dadd (g : qm_fi (FP.dadd a b)) : qm_St (qm_o_dadd n) lv (qm_D b :: qm_D a :: st) h n lv (qm_D (FP.dadd a b) :: st) h := if_neg (fun w => w (qm_nn g))
theorem qm_x_dsub (g : qm_fi (FP.dsub a b)) : qm_St (qm_o_dsub n) lv (qm_D b :: qm_D a :: st) h n lv (qm_D (FP.dsub a b) :: st) h := if_neg (fun w => w (qm_nn g))
theorem qm_x_ddiv (g : qm_fi (FP.ddiv a b)) : qm_St (qm_o_ddiv n) lv (qm_D b :: qm_D a :: st) h n lv (qm_D (FP.ddiv a b) :: st) h := if_neg (fun w => w (qm_nn g))
theorem qm_x_i2d {x : Int} : qm_St (qm_o_i2d n) lv (qm_I (qm_i x) :: st) h n lv (qm_D (FP.i2d (qm_i x)) :: st) h := rfl
theorem qm_x_l2d {x : Int64} : qm_St (qm_o_l2d n) lv (qm_L x :: st) h n lv (qm_D (FP.l2d x) :: st) h := rfl
theorem qm_x_d2l : qm_St (qm_o_d2l n) lv (qm_D a :: st) h n lv (qm_L (FP.d2l a) :: st) h := rfl
theorem qm_x_dcmp_lt (ha : qm_fi a) (hb : qm_fi b) (c : a.toNat < b.toNat) : qm_St (qm_o_dcmp o n) lv (qm_D b :: qm_D a :: st) h n lv (qm_I (qm_i (-1)) :: st) h := by
  show some (n, lv, qm_I (Op.cmpValue (FP.dcmp a b) o) :: st, h) = _
  rw [qm_dcmp ha hb, (FP.Core.compare_lt_iff _ _).mpr (by omega)]
  cases o <;> rfl
theorem qm_x_dcmp_eq (ha : qm_fi a) (hb : qm_fi b) (c : a.toNat = b.toNat) : qm_St (qm_o_dcmp o n) lv (qm_D b :: qm_D a :: st) h n lv (qm_I (qm_i 0) :: st) h := by
  show some (n, lv, qm_I (Op.cmpValue (FP.dcmp a b) o) :: st, h) = _
  rw [qm_dcmp ha hb, (FP.Core.compare_eq_iff _ _).mpr (by omega)]
  cases o <;> rfl
theorem qm_x_dcmp_gt (ha : qm_fi a) (hb : qm_fi b) (c : b.toNat < a.toNat) : qm_St (qm_o_dcmp o n) lv (qm_D b :: qm_D a :: st) h n lv (qm_I (qm_i 1) :: st) h := by
  show some (n, lv, qm_I (Op.cmpValue (FP.dcmp a b) o) :: st, h) = _
  rw [qm_dcmp ha hb, (FP.Core.compare_gt_iff _ _).mpr (by omega)]
  cases o <;> rfl
end XD
theorem qm_y_dcmp {P : Nat → qm_Cd} {cd : qm_Cd} {Q : Option qm_V → qm_Hp → Prop} {pc n : Nat} {lv : qm_Lv} {st : List qm_V} {h : qm_Hp} {a b : UInt64} {o : CmpOp} {x y : Nat} (hc : cd pc = some (qm_o_dcmp o n)) (hx : a.toNat = x) (hy : b.toNat = y) (fx : x < 9218868437227405312) (fy : y < 9218868437227405312) (k1 : x < y → qm_G P cd n lv (qm_I (qm_i (-1)) :: st) h Q) (k2 : x = y → qm_G P cd n lv (qm_I (qm_i 0) :: st) h Q) (k3 : y < x → qm_G P cd n lv (qm_I (qm_i 1) :: st) h Q) : qm_G P cd pc lv (qm_D b :: qm_D a :: st) h Q := by
  subst hx hy
  rcases Nat.lt_trichotomy a.toNat b.toNat with c | c | c
  · exact qm_G.s1 hc (qm_x_dcmp_lt fx fy c) (k1 c)
  · exact qm_G.s1 hc (qm_x_dcmp_eq fx fy c) (k2 c)
  · exact qm_G.s1 hc (qm_x_dcmp_gt fx fy c) (k3 c)
theorem qm_x_d2b {n : Nat} {lv : qm_Lv} {st : List qm_V} {h : qm_Hp} {a : UInt64} (hb : Nat.ble (qm_sum st) 8 = true) : qm_St (qm_o_d2b n) lv (qm_D a :: st) h n lv (qm_L a.toInt64 :: st) h := by
  show (bif _ then _ else _) = _
  rw [hb]
  rfl
/-! times 1/2, times 2 -/
theorem qm_half {a : UInt64} {k t : Nat} (ha : a.toNat = k * 2 ^ 52 + t) (ht : t < 2 ^ 52) (h1 : 2 ≤ k) (h2 : k ≤ 2046) : (FP.dmul a 4602678819172646912).toNat = (k - 1) * 2 ^ 52 + t := by
  have e : qm_un ((k - 1) * 2 ^ 52 + t) * 2 ^ 1074 = qm_un a.toNat * qm_un (4602678819172646912 : UInt64).toNat := by
    rw [ha, qm_un_at (by omega) ht, qm_un_at (by omega) ht, show (4602678819172646912 : UInt64).toNat = 1022 * 2 ^ 52 by decide, qm_un_st (by decide), Nat.mul_assoc, Nat.mul_assoc, ← Nat.pow_add, ← Nat.pow_add, show k - 1 - 1 + 1074 = k - 1 + (1022 + 51) by omega]
  have := qm_mul_bd (a := a) (b := 4602678819172646912) (by unfold qm_fi; omega) (by decide) (Nat.le_refl _) (Nat.le_of_eq e) (Nat.le_of_eq e.symm) (by omega)
  omega
theorem qm_twice {a : UInt64} {k t : Nat} (ha : a.toNat = k * 2 ^ 52 + t) (ht : t < 2 ^ 52) (h1 : 1 ≤ k) (h2 : k ≤ 2045) : (FP.dmul a 4611686018427387904).toNat = (k + 1) * 2 ^ 52 + t := by
  have e : qm_un ((k + 1) * 2 ^ 52 + t) * 2 ^ 1074 = qm_un a.toNat * qm_un (4611686018427387904 : UInt64).toNat := by
    rw [ha, qm_un_at (by omega) ht, qm_un_at (by omega) ht, show (4611686018427387904 : UInt64).toNat = 1024 * 2 ^ 52 by decide, qm_un_st (by decide), Nat.mul_assoc, Nat.mul_assoc, ← Nat.pow_add, ← Nat.pow_add, show k + 1 - 1 + 1074 = k - 1 + (1024 + 51) by omega]
  have := qm_mul_bd (a := a) (b := 4611686018427387904) (by unfold qm_fi; omega) (by decide) (Nat.le_refl _) (Nat.le_of_eq e) (Nat.le_of_eq e.symm) (by omega)
  omega
theorem qm_half_fi {a : UInt64} {k t : Nat} (ha : a.toNat = k * 2 ^ 52 + t) (ht : t < 2 ^ 52) (h1 : 2 ≤ k) (h2 : k ≤ 2046) : qm_fi (FP.dmul a 4602678819172646912) := by
  unfold qm_fi
  rw [qm_half ha ht h1 h2]
  omega
theorem qm_twice_fi {a : UInt64} {k t : Nat} (ha : a.toNat = k * 2 ^ 52 + t) (ht : t < 2 ^ 52) (h1 : 1 ≤ k) (h2 : k ≤ 2045) : qm_fi (FP.dmul a 4611686018427387904) := by
  unfold qm_fi
  rw [qm_twice ha ht h1 h2]
  omega
/-- small whole numbers times a power of 2 are told exactly -/
theorem qm_rep {t : Nat} (ht : t < 2 ^ 52) {k : Nat} (hk : 52 ≤ k) : ∃ m, qm_un m = t * 2 ^ k ∧ m ≤ (k + 1) * 2 ^ 52 := by
  rcases Nat.eq_zero_or_pos t with h0 | h0
  · exact ⟨0, by rw [h0, qm_un_zero, Nat.zero_mul], Nat.zero_le _⟩
  · have hj : t.log2 ≤ 51 := by
      have := (Nat.log2_lt (Nat.pos_iff_ne_zero.mp h0)).mpr ht
      omega
    have b1 : 2 ^ t.log2 ≤ t := Nat.log2_self_le (Nat.pos_iff_ne_zero.mp h0)
    have b2 : t < 2 ^ (t.log2 + 1) := Nat.lt_log2_self
    generalize t.log2 = j at hj b1 b2
    have c1 : 2 ^ 52 ≤ t * 2 ^ (52 - j) := by
      have := Nat.mul_le_mul_right (2 ^ (52 - j)) b1
      rw [← Nat.pow_add, show j + (52 - j) = 52 by omega] at this
      exact this
    have c2 : t * 2 ^ (52 - j) < 2 ^ 53 := by
      have := Nat.mul_lt_mul_of_pos_right b2 (Nat.two_pow_pos (52 - j))
      rw [← Nat.pow_add, show j + 1 + (52 - j) = 53 by omega] at this
      exact this
    refine ⟨(k + 1 - (52 - j)) * 2 ^ 52 + (t * 2 ^ (52 - j) - 2 ^ 52), ?_, ?_⟩
    · rw [qm_un_at (by omega) (by omega), show 2 ^ 52 + (t * 2 ^ (52 - j) - 2 ^ 52) = t * 2 ^ (52 - j) by omega, Nat.mul_assoc, ← Nat.pow_add, show 52 - j + (k + 1 - (52 - j) - 1) = k by omega]
    · have := Nat.mul_le_mul_right (2 ^ 52) (show k + 1 - (52 - j) + 1 ≤ k + 1 by omega)
      omega
theorem qm_d2l {a : UInt64} (ha : qm_fi a) {t : Nat} (h : qm_un a.toNat = t * 2 ^ 1074) (ht : t < 2 ^ 62) : FP.d2l a = qm_l t := by
  obtain ⟨c, q, a1, a2⟩ := qm_fin ha
  rw [← qm_l_self (FP.d2l a), show FP.d2l a = FP.Core.d2l a from rfl, FP.Core.d2l_val (by rw [a1]; intro h; cases h), a1, a2, h, show FP.Core.one64 = 2 ^ 1074 from rfl, Nat.mul_div_cancel _ (Nat.two_pow_pos 1074)]
  show qm_l (max (-2 ^ 63) (min (2 ^ 63 - 1) (t : Int))) = qm_l t
  have e : max (-2 ^ 63 : Int) (min (2 ^ 63 - 1) (t : Int)) = t := by omega
  rw [e]
/-- what stands behind the point -/
theorem qm_frac {a b : UInt64} {t t' w : Nat} (ha : a.toNat = 4607182418800017408 + t) (ht : t < 2 ^ 52) (hw : w ≤ 52) (hb : b.toNat = (1023 + w) * 2 ^ 52) (h9 : t = t' * 2 ^ (52 - w)) : qm_fi (FP.dsub a 4607182418800017408) ∧ qm_fi (FP.dmul (FP.dsub a 4607182418800017408) b) ∧ FP.d2l (FP.dmul (FP.dsub a 4607182418800017408) b) = qm_l t' := by
  obtain ⟨m, m1, m2⟩ := qm_rep ht (k := 1022) (by decide)
  have u1 : qm_un a.toNat - qm_un (4607182418800017408 : UInt64).toNat = qm_un m := by
    rw [ha, show 4607182418800017408 + t = 1023 * 2 ^ 52 + t from rfl, qm_un_at (by decide) ht, show (4607182418800017408 : UInt64).toNat = 1023 * 2 ^ 52 by decide, qm_un_st (by decide), m1, Nat.add_mul, ← Nat.pow_add]
    exact Nat.add_sub_cancel_left ..
  have x1 := qm_sub_bd (a := a) (b := 4607182418800017408) (by unfold qm_fi; omega) (by decide) (by rw [ha]; exact Nat.le_add_right _ _) (Nat.le_refl m) (Nat.le_of_eq u1.symm) (Nat.le_of_eq u1) (by omega)
  have x2 : (FP.dsub a 4607182418800017408).toNat = m := by omega
  have f1 : qm_fi (FP.dsub a 4607182418800017408) := by unfold qm_fi; omega
  have ht' : t' < 2 ^ 52 := by
    have := Nat.le_mul_of_pos_right t' (Nat.two_pow_pos (52 - w))
    omega
  obtain ⟨r, r1, r2⟩ := qm_rep ht' (k := 1074) (by decide)
  have u2 : qm_un r * 2 ^ 1074 = qm_un (FP.dsub a 4607182418800017408).toNat * qm_un b.toNat := by
    rw [x2, m1, r1, hb, qm_un_st (by omega), h9, Nat.mul_assoc, Nat.mul_assoc, Nat.mul_assoc, ← Nat.pow_add, ← Nat.pow_add, ← Nat.pow_add, show 52 - w + (1022 + (1023 + w + 51)) = 1074 + 1074 by omega]
  have x3 := qm_mul_bd f1 (b := b) (by unfold qm_fi; omega) (Nat.le_refl r) (Nat.le_of_eq u2) (Nat.le_of_eq u2.symm) (by omega)
  have x4 : (FP.dmul (FP.dsub a 4607182418800017408) b).toNat = r := by omega
  have f2 : qm_fi (FP.dmul (FP.dsub a 4607182418800017408) b) := by unfold qm_fi; omega
  exact ⟨f1, f2, qm_d2l f2 (by rw [x4]; exact r1) (by omega)⟩
theorem qm_shl (x : Int64) (w : Nat) (hw : w < 64) {y : Int64} (hy : y.toBitVec.smod 64 = BitVec.ofNat 64 w) : x <<< y = x * Int64.ofBitVec (BitVec.twoPow 64 w) := by
  apply Int64.toBitVec.inj
  show x.toBitVec <<< (y.toBitVec.smod 64) = x.toBitVec * BitVec.twoPow 64 w
  rw [hy]
  show x.toBitVec <<< (BitVec.ofNat 64 w).toNat = _
  rw [BitVec.toNat_ofNat, Nat.mod_eq_of_lt (by omega), BitVec.shiftLeft_eq_mul_twoPow]
theorem qm_shl52 (x : Int) : qm_l x <<< ((qm_i 52).toInt64 &&& 63) = qm_l (x * 4503599627370496) := by
  rw [qm_shl _ 52 (by decide) (by decide +kernel), ← qm_l_mul]
  exact congrArg (qm_l x * ·) (by decide +kernel)
theorem qm_shl23 (x : Int) : qm_l x <<< ((qm_i 23).toInt64 &&& 63) = qm_l (x * 8388608) := by
  rw [qm_shl _ 23 (by decide) (by decide +kernel), ← qm_l_mul]
  exact congrArg (qm_l x * ·) (by decide +kernel)
theorem qm_one52 : (FP.l2d (qm_l 1 <<< ((qm_i 52).toInt64 &&& 63))).toNat = (1023 + 52) * 2 ^ 52 := by decide +kernel
theorem qm_one23 : (FP.l2d (qm_l 1 <<< ((qm_i 23).toInt64 &&& 63))).toNat = (1023 + 23) * 2 ^ 52 := by decide +kernel
