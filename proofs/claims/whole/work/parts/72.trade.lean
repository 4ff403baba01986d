/-! TRADE, the numbers -/
abbrev qm_fsg (a : UInt64) : Prop := a.toNat % 2 ^ 63 < 9218868437227405312
theorem qm_fsg_fi {a : UInt64} (h : qm_fi a) : qm_fsg a := by
  unfold qm_fi at h
  unfold qm_fsg
  rw [Nat.mod_eq_of_lt (by omega)]
  exact h
theorem qm_nns {a : UInt64} (h : qm_fsg a) : a &&& 0x7fffffffffffffff ≤ 0x7ff0000000000000 := by
  rw [UInt64.le_iff_toNat_le, FP.Core.mask_toNat]
  exact Nat.le_of_lt h
section XS
variable {n : Nat} {lv : qm_Lv} {st : List qm_V} {h : qm_Hp} {a b : UInt64}
theorem qm_x_dmuls (g : qm_fsg (FP.dmul a b)) : qm_St (qm_o_dmul n) lv (qm_D b :: qm_D a :: st) h n lv (qm_D (FP.dmul a b) :: st) h := if_neg (fun w => w (qm_nns g))
theorem qm_x_dadds (g : qm_fsg (FP.dadd a b)) : qm_St (qm_o_dadd n) lv (qm_D b :: qm_D a :: st) h n lv (qm_D (FP.dadd a b) :: st) h := if_neg (fun w => w (qm_nns g))
theorem qm_x_dsubs (g : qm_fsg (FP.dsub a b)) : qm_St (qm_o_dsub n) lv (qm_D b :: qm_D a :: st) h n lv (qm_D (FP.dsub a b) :: st) h := if_neg (fun w => w (qm_nns g))
end XS
theorem qm_int {P : Int} (h : 1 ≤ P ∧ P ≤ 1000000) : qm_fi (FP.i2d (qm_i P)) ∧ qm_un (FP.i2d (qm_i P)).toNat = P.toNat * 2 ^ 1074 := by
  have d := FP.Core.i2d_int (qm_i P)
  rw [qm_i_int ⟨by omega, by omega⟩] at d
  have z := FP.Core.DInt_zval d
  have n := FP.Core.DInt_ne_nan d
  have s := FP.Core.sgn_bits n
  have m := FP.Core.zmag_bits n
  have g := FP.Core.i2d_mag (qm_i P)
  rw [show FP.i2d (qm_i P) = FP.Core.i2d (qm_i P) from rfl]
  generalize FP.Core.i2d (qm_i P) = a at *
  unfold FP.Core.zval at z
  rw [show FP.Core.one64 = 2 ^ 1074 from rfl] at z
  obtain ⟨p, rfl⟩ := Int.eq_ofNat_of_zero_le (show 0 ≤ P by omega)
  rw [← Int.natCast_mul] at z
  have pp : 0 < p * 2 ^ 1074 := Nat.mul_pos (by omega) (Nat.two_pow_pos _)
  rw [Int.toNat_natCast]
  generalize p * 2 ^ 1074 = N at *
  by_cases c : 2 ^ 63 ≤ a.toNat
  · rw [s, decide_eq_true c] at z
    simp only [FP.Core.signed, if_true] at z
    omega
  · rw [s, decide_eq_false c] at z
    rw [Nat.mod_eq_of_lt (by omega)] at m g
    rw [m] at z
    have z2 : qm_un a.toNat = N := Int.ofNat.inj z
    exact ⟨by unfold qm_fi; omega, z2⟩
abbrev qm_q34 : UInt64 := 4604930618986332160
abbrev qm_q14 : UInt64 := 4598175219545276416
theorem qm_q14_un : qm_un (qm_q14).toNat = 2 ^ 1072 := by rw [show (qm_q14).toNat = 1021 * 2 ^ 52 by decide, qm_un_st (by decide)]
theorem qm_q34_un : qm_un (qm_q34).toNat = 3 * 2 ^ 1072 := by
  rw [show (qm_q34).toNat = 1022 * 2 ^ 52 + 2 ^ 51 by decide, qm_un_at (by decide) (by decide), show 2 ^ 52 + 2 ^ 51 = 3 * 2 ^ 51 by decide, Nat.mul_assoc, ← Nat.pow_add]
theorem qm_q14_pd : qm_pd 1021 1021 qm_q14 := Or.inr ⟨by decide, by decide⟩
/-- the new spread -/
theorem qm_spr {c : Nat} {s y : UInt64} (hc : c ≤ 900) (hs : qm_Spr c s) (hy : qm_pd 971 1037 y) : qm_fi (FP.dmul s qm_q34) ∧ qm_fi (FP.dmul y y) ∧ qm_fi (FP.dmul (FP.dmul y y) qm_q14) ∧ qm_fi (FP.dadd (FP.dmul s qm_q34) (FP.dmul (FP.dmul y y) qm_q14)) ∧ qm_Spr (c + 1) (FP.dadd (FP.dmul s qm_q34) (FP.dmul (FP.dmul y y) qm_q14)) := by
  have y2 : qm_pd 919 1051 (FP.dmul y y) := qm_pd_mul hy hy (by decide) (by decide) (by decide) (by decide) (by decide) (by decide) (by decide) (by decide)
  have y4 : qm_pd 917 1049 (FP.dmul (FP.dmul y y) qm_q14) := qm_pd_mul y2 qm_q14_pd (by decide) (by decide) (by decide) (by decide) (by decide) (by decide) (by decide) (by decide)
  have sp : qm_pd (917 - c) 1052 s := hs
  have sf := sp.fi (by decide)
  have s4 : qm_pd (916 - c) 1052 (FP.dmul s qm_q34) := qm_pd_mul sp (l2 := 1022) (h2 := 1023) (Or.inr ⟨by decide, by decide⟩) (by omega) (by decide) (by omega) (by decide) (by omega) (by omega) (by omega) (by decide)
  have sf4 := s4.fi (by decide)
  have yf4 := y4.fi (by decide)
  have us : qm_un s.toNat ≤ 2 ^ 1103 := by
    rw [← qm_un_st (K := 1052) (by decide)]
    refine qm_un_le.mpr ?_
    rcases sp with h | h
    · rw [h]; exact Nat.zero_le _
    · exact h.2
  have t4 : qm_un (FP.dmul s qm_q34).toNat ≤ 3 * 2 ^ 1101 := by
    have e : qm_un (1051 * 2 ^ 52 + 2 ^ 51) = 3 * 2 ^ 1101 := by rw [qm_un_at (by decide) (by decide), show 2 ^ 52 + 2 ^ 51 = 3 * 2 ^ 51 by decide, Nat.mul_assoc, ← Nat.pow_add]
    rw [← e]
    refine qm_un_le.mpr (qm_mul_bd sf (by decide) (lo := 0) (Nat.zero_le _) (by rw [qm_un_zero, Nat.zero_mul]; exact Nat.zero_le _) ?_ (by decide)).2
    rw [qm_q34_un, e]
    refine Nat.le_trans (Nat.mul_le_mul_right _ us) (Nat.le_of_eq ?_)
    rw [Nat.mul_left_comm, ← Nat.pow_add, Nat.mul_assoc, ← Nat.pow_add]
  have uy : qm_un (FP.dmul (FP.dmul y y) qm_q14).toNat ≤ 2 ^ 1100 := by
    rw [← qm_un_st (K := 1049) (by decide)]
    refine qm_un_le.mpr ?_
    rcases y4 with h | h
    · rw [h]; exact Nat.zero_le _
    · exact h.2
  have top : qm_un (FP.dmul s qm_q34).toNat + qm_un (FP.dmul (FP.dmul y y) qm_q14).toNat ≤ qm_un (1052 * 2 ^ 52) := by
    rw [qm_un_st (by decide)]
    refine Nat.le_trans (Nat.add_le_add t4 uy) ?_
    have e : 2 ^ (1052 + 51) = 2 ^ 1101 * 4 := by rw [show (4 : Nat) = 2 ^ 2 from rfl, ← Nat.pow_add]
    have e2 : 2 ^ 1101 = 2 ^ 1100 * 2 := by rw [show 1101 = 1100 + 1 from rfl]; exact Nat.pow_succ ..
    rw [e, e2]
    generalize 2 ^ 1100 = N
    omega
  have fin : ∀ x : UInt64, x.toNat ≤ 1052 * 2 ^ 52 → qm_fi x := fun x h => Nat.lt_of_le_of_lt h (by decide)
  have low : qm_pd (916 - c) 1052 (FP.dadd (FP.dmul s qm_q34) (FP.dmul (FP.dmul y y) qm_q14)) := by
    by_cases z : (FP.dmul s qm_q34).toNat = 0
    · by_cases z2 : (FP.dmul (FP.dmul y y) qm_q14).toNat = 0
      · have := qm_add_bd sf4 yf4 (lo := 0) (hi := 0) (Nat.le_refl _) (by rw [qm_un_zero]; exact Nat.zero_le _) (by rw [z, z2, qm_un_zero]; decide) (by decide)
        exact Or.inl (by omega)
      · have h9 := y4.resolve_left z2
        exact Or.inr (qm_add_bd sf4 yf4 (Nat.mul_le_mul_right _ (by omega)) (Nat.le_trans (qm_un_le.mpr (Nat.le_trans (Nat.mul_le_mul_right _ (by omega)) h9.1)) (Nat.le_add_left _ _)) top (by decide))
    · have h9 := s4.resolve_left z
      exact Or.inr (qm_add_bd sf4 yf4 (Nat.mul_le_mul_right _ (by omega)) (Nat.le_trans (qm_un_le.mpr h9.1) (Nat.le_add_right _ _)) top (by decide))
  refine ⟨sf4, y2.fi (by decide), yf4, low.fi (by decide), ?_⟩
  unfold qm_Spr
  rw [show 917 - (c + 1) = 916 - c by omega]
  exact low
theorem qm_un_mul {m : Nat} (h1 : 1023 * 2 ^ 52 ≤ m) : ∃ t, qm_un m = t * 2 ^ 1022 := by
  refine ⟨(2 ^ 52 + m % 2 ^ 52) * 2 ^ (m / 2 ^ 52 - 1023), ?_⟩
  have e : m / 2 ^ 52 * 2 ^ 52 + m % 2 ^ 52 = m := Nat.div_add_mod' m (2 ^ 52)
  have k : 1023 ≤ m / 2 ^ 52 := (Nat.le_div_iff_mul_le (Nat.two_pow_pos 52)).mpr h1
  conv => lhs; rw [← e]
  rw [qm_un_at (by omega) (Nat.mod_lt _ (Nat.two_pow_pos 52)), Nat.mul_assoc, ← Nat.pow_add, show m / 2 ^ 52 - 1023 + 1022 = m / 2 ^ 52 - 1 by omega]
theorem qm_gap {a b : UInt64} {i j : Nat} (fa : qm_fi a) (fb : qm_fi b) (ha : qm_un a.toNat = i * 2 ^ 1022) (hb : qm_un b.toNat = j * 2 ^ 1022) (h : b.toNat ≤ a.toNat) (h9 : a.toNat ≤ 1037 * 2 ^ 52) : qm_pd 971 1037 (FP.dsub a b) ∧ (FP.dsub a b).toNat ≤ a.toNat := by
  have top : qm_un a.toNat - qm_un b.toNat ≤ qm_un a.toNat := Nat.sub_le _ _
  have h8 : a.toNat < 9218868437227405312 := fa
  by_cases e : i = j
  · have := qm_sub_bd fa fb h (lo := 0) (hi := 0) (Nat.le_refl _) (by rw [qm_un_zero]; exact Nat.zero_le _) (by rw [ha, hb, e, Nat.sub_self]; exact Nat.zero_le _) (by decide)
    exact ⟨Or.inl (by omega), by omega⟩
  · have u := qm_un_le.mpr h
    rw [ha, hb] at u
    have u2 : j ≤ i := Nat.le_of_mul_le_mul_right u (Nat.two_pow_pos 1022)
    have low : qm_un (971 * 2 ^ 52) ≤ qm_un a.toNat - qm_un b.toNat := by
      rw [qm_un_st (by decide), ha, hb, ← Nat.sub_mul]
      exact Nat.le_mul_of_pos_left _ (by omega)
    have l2 : 971 * 2 ^ 52 ≤ a.toNat := qm_un_le.mp (Nat.le_trans low top)
    have := qm_sub_bd fa fb h l2 low top h8
    exact ⟨Or.inr ⟨this.1, Nat.le_trans this.2 h9⟩, this.2⟩
theorem qm_dneg_sub {a b : UInt64} (fa : qm_fi a) (fb : qm_fi b) (h : a.toNat < b.toNat) : FP.dsub a b = FP.Core.dneg (FP.dsub b a) := by
  obtain ⟨c, q, a1, a2⟩ := qm_fin fa
  obtain ⟨d, r, b1, b2⟩ := qm_fin fb
  have ga := FP.Core.val64_fits a
  have gb := FP.Core.val64_fits b
  rw [a1] at ga
  rw [b1] at gb
  have g1 := ga.2.1
  have g2 := gb.2.1
  have m1 := FP.Core.inUnits_move c (q := q) (e := FP.Core.b64.qmin) (r := min q r) (by omega) (by omega)
  have m2 := FP.Core.inUnits_move d (q := r) (e := FP.Core.b64.qmin) (r := min q r) (by omega) (by omega)
  have a3 : FP.Core.inUnits c q FP.Core.b64.qmin = qm_un a.toNat := a2
  have b3 : FP.Core.inUnits d r FP.Core.b64.qmin = qm_un b.toNat := b2
  have hlt : FP.Core.inUnits c q (min q r) < FP.Core.inUnits d r (min q r) := by
    have h9 : FP.Core.inUnits c q (min q r) * 2 ^ (min q r - FP.Core.b64.qmin).toNat < FP.Core.inUnits d r (min q r) * 2 ^ (min q r - FP.Core.b64.qmin).toNat := by
      rw [← m1, ← m2, a3, b3]
      exact FP.Core.unitsOf_lt h
    exact Nat.lt_of_mul_lt_mul_right h9
  have hv : FP.Core.sumUnits false c q true d r (min q r) = -((FP.Core.inUnits d r (min q r) - FP.Core.inUnits c q (min q r) : Nat) : Int) := by
    rw [Int.natCast_sub (Nat.le_of_lt hlt), Int.neg_sub, Int.sub_eq_add_neg]
    rfl
  have hw : FP.Core.sumUnits false d r true c q (min r q) = ((FP.Core.inUnits d r (min q r) - FP.Core.inUnits c q (min q r) : Nat) : Int) := by
    rw [Int.min_comm r q, Int.natCast_sub (Nat.le_of_lt hlt), Int.sub_eq_add_neg]
    rfl
  have hx : FP.Core.exactSum (.fin false c q) (FP.Core.negate (.fin false d r)) = .fin true (FP.Core.inUnits d r (min q r) - FP.Core.inUnits c q (min q r)) (min q r) := by
    show FP.Core.Datum.fin (FP.Core.sumSign false true (FP.Core.sumUnits false c q true d r (min q r))) (FP.Core.sumUnits false c q true d r (min q r)).natAbs (min q r) = _
    rw [hv, Int.natAbs_neg, Int.natAbs_natCast]
    have hs : FP.Core.sumSign false true (-((FP.Core.inUnits d r (min q r) - FP.Core.inUnits c q (min q r) : Nat) : Int)) = true := by
      unfold FP.Core.sumSign
      split
      · omega
      · exact decide_eq_true (by omega)
    rw [hs]
  have hy : FP.Core.exactSum (.fin false d r) (FP.Core.negate (.fin false c q)) = .fin false (FP.Core.inUnits d r (min q r) - FP.Core.inUnits c q (min q r)) (min q r) := by
    show FP.Core.Datum.fin (FP.Core.sumSign false true (FP.Core.sumUnits false d r true c q (min r q))) (FP.Core.sumUnits false d r true c q (min r q)).natAbs (min r q) = _
    rw [hw, Int.natAbs_natCast]
    have hs : FP.Core.sumSign false true ((FP.Core.inUnits d r (min q r) - FP.Core.inUnits c q (min q r) : Nat) : Int) = false := by
      unfold FP.Core.sumSign
      split
      · rfl
      · exact decide_eq_false (by omega)
    rw [hs, Int.min_comm r q]
  have e1 : FP.Core.val64 (FP.dsub a b) = FP.Core.round FP.Core.b64 (.fin true (FP.Core.inUnits d r (min q r) - FP.Core.inUnits c q (min q r)) (min q r)) := by
    rw [show FP.dsub a b = FP.Core.dsub a b from rfl, FP.Core.val64_dsub, a1, b1, hx]
  have e2 : FP.Core.val64 (FP.dsub b a) = FP.Core.round FP.Core.b64 (.fin false (FP.Core.inUnits d r (min q r) - FP.Core.inUnits c q (min q r)) (min q r)) := by
    rw [show FP.dsub b a = FP.Core.dsub b a from rfl, FP.Core.val64_dsub, b1, a1, hy]
  refine FP.Core.val64_inj ?_ ?_
  · rw [e1]
    exact FP.Core.roundRatio_ne_nan _ _ _ _ _
  · rw [FP.Core.val64_dneg, e1, e2, FP.Core.negate_round]
    rfl
theorem qm_fi_nn {a : UInt64} (h : qm_fi a) : FP.Core.val64 a ≠ .nan := by
  obtain ⟨c, q, h1, _⟩ := qm_fin h
  rw [h1]
  intro h2
  cases h2
theorem qm_dneg_fs {a : UInt64} (h : qm_fi a) : qm_fsg (FP.Core.dneg a) := by
  obtain ⟨c, q, h1, _⟩ := qm_fin h
  exact (FP.Core.fin_bits _).mp ⟨!false, c, q, by rw [FP.Core.val64_dneg, h1]; rfl⟩
/-- the new middle -/
theorem qm_trn {c : Nat} {m s : UInt64} {P : Int} (hP : 94 ≤ P ∧ P ≤ 10005) (hc : c ≤ 900) (hm : qm_Mid m) (hs : qm_Spr c s) :
    qm_fsg (FP.dsub (FP.i2d (qm_i P)) m) ∧ qm_fsg (FP.dmul s qm_q34) ∧ qm_fsg (FP.dmul (FP.dsub (FP.i2d (qm_i P)) m) (FP.dsub (FP.i2d (qm_i P)) m)) ∧ qm_fsg (FP.dmul (FP.dmul (FP.dsub (FP.i2d (qm_i P)) m) (FP.dsub (FP.i2d (qm_i P)) m)) qm_q14) ∧
    qm_fsg (FP.dadd (FP.dmul s qm_q34) (FP.dmul (FP.dmul (FP.dsub (FP.i2d (qm_i P)) m) (FP.dsub (FP.i2d (qm_i P)) m)) qm_q14)) ∧ qm_fsg (FP.dmul (FP.dsub (FP.i2d (qm_i P)) m) qm_q14) ∧ qm_fsg (FP.dadd m (FP.dmul (FP.dsub (FP.i2d (qm_i P)) m) qm_q14)) ∧
    qm_Mid (FP.dadd m (FP.dmul (FP.dsub (FP.i2d (qm_i P)) m) qm_q14)) ∧ qm_Spr (c + 1) (FP.dadd (FP.dmul s qm_q34) (FP.dmul (FP.dmul (FP.dsub (FP.i2d (qm_i P)) m) (FP.dsub (FP.i2d (qm_i P)) m)) qm_q14)) := by
  obtain ⟨fp, up⟩ := qm_int (P := P) ⟨by omega, by omega⟩
  generalize FP.i2d (qm_i P) = p at *
  obtain ⟨n, hn⟩ : ∃ n : Nat, n = P.toNat := ⟨_, rfl⟩
  rw [← hn] at up
  have fm : qm_fi m := Nat.lt_of_le_of_lt hm.2 (by decide)
  obtain ⟨i, um⟩ := qm_un_mul hm.1
  have up2 : qm_un p.toNat = (n * 2 ^ 52) * 2 ^ 1022 := by rw [up, Nat.mul_assoc, ← Nat.pow_add]
  have hi14 : qm_un (1037 * 2 ^ 52) = 16384 * 2 ^ 1074 := by rw [qm_un_st (by decide), show 16384 = 2 ^ 14 from rfl, ← Nat.pow_add]
  have lo1 : qm_un (1023 * 2 ^ 52) = 2 ^ 1074 := by rw [qm_un_st (by decide)]
  have ph : p.toNat ≤ 1037 * 2 ^ 52 := by
    refine qm_un_le.mp ?_
    rw [up, hi14]
    exact Nat.mul_le_mul_right _ (by omega)
  have um1 := qm_un_le.mpr hm.1
  have um2 := qm_un_le.mpr hm.2
  rw [lo1] at um1
  rw [hi14] at um2
  rcases Nat.lt_or_ge p.toNat m.toNat with hlt | hge
  · have e := qm_dneg_sub fp fm hlt
    obtain ⟨yp, yl⟩ := qm_gap fm fp um up2 (Nat.le_of_lt hlt) hm.2
    rw [e]
    generalize FP.dsub m p = y at *
    have yf := yp.fi (by decide)
    have sq : FP.dmul (FP.Core.dneg y) (FP.Core.dneg y) = FP.dmul y y := by
      show FP.Core.dmul _ _ = FP.Core.dmul _ _
      rw [FP.Core.dmul_dneg, FP.Core.dmul_comm y, FP.Core.dmul_dneg, FP.Core.dneg_dneg]
      obtain ⟨c1, q1, h1, _⟩ := qm_fin yf
      rw [FP.Core.val64_dmul, h1]
      exact FP.Core.roundRatio_ne_nan _ _ _ _ _
    have q4 : FP.dmul (FP.Core.dneg y) qm_q14 = FP.Core.dneg (FP.dmul y qm_q14) := FP.Core.dmul_dneg _ _
    have y4 : qm_pd 969 1035 (FP.dmul y qm_q14) := qm_pd_mul yp qm_q14_pd (by decide) (by decide) (by decide) (by decide) (by decide) (by decide) (by decide) (by decide)
    have f4 := y4.fi (by decide)
    have sb : FP.dadd m (FP.Core.dneg (FP.dmul y qm_q14)) = FP.dsub m (FP.dmul y qm_q14) := (FP.Core.dsub_eq _ _).symm
    rw [sq, q4, sb]
    obtain ⟨g1, g2, g3, g4, g5⟩ := qm_spr hc hs yp
    -- a quarter of m
    have me : m.toNat / 2 ^ 52 * 2 ^ 52 + m.toNat % 2 ^ 52 = m.toNat := Nat.div_add_mod' _ _
    have mk : 1023 ≤ m.toNat / 2 ^ 52 := (Nat.le_div_iff_mul_le (Nat.two_pow_pos 52)).mpr hm.1
    have mt : m.toNat % 2 ^ 52 < 2 ^ 52 := Nat.mod_lt _ (Nat.two_pow_pos 52)
    have mh : m.toNat / 2 ^ 52 ≤ 1037 := by
      have h8 : m.toNat / 2 ^ 52 < 1038 := (Nat.div_lt_iff_lt_mul (Nat.two_pow_pos 52)).mpr (Nat.lt_of_le_of_lt hm.2 (by decide))
      omega
    generalize m.toNat / 2 ^ 52 = K at *
    generalize m.toNat % 2 ^ 52 = t at *
    have mq : qm_un ((K - 2) * 2 ^ 52 + t) * 4 = qm_un m.toNat := by
      rw [← me, qm_un_at (by omega) mt, qm_un_at (by omega) mt, Nat.mul_assoc, show (4 : Nat) = 2 ^ 2 from rfl, ← Nat.pow_add, show K - 2 - 1 + 2 = K - 1 by omega]
    have uy := qm_un_le.mpr yl
    have ua : qm_un (FP.dmul y qm_q14).toNat ≤ qm_un ((K - 2) * 2 ^ 52 + t) := by
      refine qm_un_le.mpr (qm_mul_bd yf (by decide) (lo := 0) (Nat.zero_le _) (by rw [qm_un_zero, Nat.zero_mul]; exact Nat.zero_le _) ?_ ?_).2
      · rw [qm_q14_un]
        refine Nat.le_trans (Nat.mul_le_mul_right _ uy) (Nat.le_of_eq ?_)
        rw [← mq, Nat.mul_assoc, show (4 : Nat) = 2 ^ 2 from rfl, ← Nat.pow_add]
      · have := Nat.mul_le_mul_right (2 ^ 52) (show K - 2 ≤ 1035 by omega)
        omega
    have um3 : n * 2 ^ 1074 ≤ qm_un m.toNat := by rw [← up]; exact qm_un_le.mpr (Nat.le_of_lt hlt)
    have um4 : 94 * 2 ^ 1074 ≤ qm_un m.toNat := Nat.le_trans (Nat.mul_le_mul_right _ (by omega)) um3
    have am : (FP.dmul y qm_q14).toNat ≤ m.toNat := by
      refine qm_un_le.mp (Nat.le_trans ua ?_)
      rw [← mq]
      exact Nat.le_mul_of_pos_right _ (by decide)
    have r := qm_sub_bd fm f4 am hm.1 (by
      rw [lo1]
      generalize qm_un (FP.dmul y qm_q14).toNat = A at *
      generalize qm_un ((K - 2) * 2 ^ 52 + t) = B at *
      generalize qm_un m.toNat = C at *
      generalize 2 ^ 1074 = U at *
      omega) (Nat.sub_le _ _) fm
    have rm : qm_Mid (FP.dsub m (FP.dmul y qm_q14)) := ⟨r.1, Nat.le_trans r.2 hm.2⟩
    exact ⟨qm_dneg_fs yf, qm_fsg_fi g1, qm_fsg_fi g2, qm_fsg_fi g3, qm_fsg_fi g4, qm_dneg_fs f4, qm_fsg_fi (Nat.lt_of_le_of_lt rm.2 (by decide)), rm, g5⟩
  · obtain ⟨yp, yl⟩ := qm_gap fp fm up2 um hge ph
    generalize FP.dsub p m = y at *
    have yf := yp.fi (by decide)
    have y4 : qm_pd 969 1035 (FP.dmul y qm_q14) := qm_pd_mul yp qm_q14_pd (by decide) (by decide) (by decide) (by decide) (by decide) (by decide) (by decide) (by decide)
    have f4 := y4.fi (by decide)
    obtain ⟨g1, g2, g3, g4, g5⟩ := qm_spr hc hs yp
    have ua : qm_un (FP.dmul y qm_q14).toNat ≤ 4096 * 2 ^ 1074 := by
      have h8 : qm_un (FP.dmul y qm_q14).toNat ≤ qm_un (1035 * 2 ^ 52) := qm_un_le.mpr (y4.elim (fun h => by rw [h]; exact Nat.zero_le _) (fun h => h.2))
      rw [qm_un_st (by decide)] at h8
      rw [show 4096 = 2 ^ 12 from rfl, ← Nat.pow_add]
      exact h8
    have um3 : qm_un m.toNat ≤ 10005 * 2 ^ 1074 := by
      refine Nat.le_trans (qm_un_le.mpr hge) ?_
      rw [up]
      exact Nat.mul_le_mul_right _ (by omega)
    have r := qm_add_bd fm f4 (lo := 1023 * 2 ^ 52) (hi := 1037 * 2 ^ 52) (by decide) (Nat.le_trans (by rw [lo1]; exact um1) (Nat.le_add_right _ _)) (by
      rw [hi14]
      generalize qm_un (FP.dmul y qm_q14).toNat = A at *
      generalize qm_un m.toNat = C at *
      generalize 2 ^ 1074 = U at *
      omega) (by decide)
    exact ⟨qm_fsg_fi yf, qm_fsg_fi g1, qm_fsg_fi g2, qm_fsg_fi g3, qm_fsg_fi g4, qm_fsg_fi f4, qm_fsg_fi (Nat.lt_of_le_of_lt r.2 (by decide)), r, g5⟩
