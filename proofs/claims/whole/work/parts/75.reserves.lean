/-! RESERVE -/
abbrev qm_fgd (a : UInt32) : Prop := a.toNat % 2 ^ 31 < 2139095040
theorem qm_nnf {a : UInt32} (h : qm_fgd a) : a &&& 0x7fffffff ≤ 0x7f800000 := by
  rw [UInt32.le_iff_toNat_le, FP.Core.mask_toNat32]
  exact Nat.le_of_lt h
theorem qm_f6.fgd {a : UInt32} (h : qm_f6 a) : qm_fgd a := Nat.lt_of_le_of_lt h (by decide)
theorem qm_zsv {f : Int} {y : UInt32} (hf : 100 ≤ f ∧ f ≤ 9999) (hy : qm_f6 y) : 1107296256 ≤ (FP.fsub (FP.i2f (qm_i f)) y).toNat ∧ (FP.fsub (FP.i2f (qm_i f)) y).toNat ≤ 1182793728 := by
  have hi : (qm_i f).toInt = f := qm_i_int ⟨by omega, by omega⟩
  have d := FP.Core.i2f_int (a := qm_i f) (by rw [hi]; omega)
  rw [hi] at d
  have za := FP.Core.FInt_zval d
  have na := FP.Core.FInt_ne_nan d
  have ga := FP.Core.fin_of_lt32 (FP.Core.i2f_mag (qm_i f)) (by decide)
  have gy := (FP.Core.fin_bits32 y).mpr (Nat.lt_of_le_of_lt hy (by decide))
  rw [show FP.fsub (FP.i2f (qm_i f)) y = FP.Core.fsub (FP.Core.i2f (qm_i f)) y from rfl]
  generalize FP.Core.i2f (qm_i f) = a at *
  have ny : FP.Core.val32 y ≠ .nan := by
    obtain ⟨s, c, q, h⟩ := gy
    rw [h]
    exact FP.Core.Datum.noConfusion
  have zy := FP.Core.zmag_toNat32 ny
  have uy : qm_uf (y.toNat % 2 ^ 31) ≤ 2 ^ 155 := by
    rw [show 155 = 133 + 22 from rfl, ← qm_uf_st (by decide)]
    exact qm_uf_le.mpr hy
  have yb : -(2 ^ 155 : Int) ≤ FP.Core.zval FP.Core.b32 (FP.Core.negate (FP.Core.val32 y)) ∧ FP.Core.zval FP.Core.b32 (FP.Core.negate (FP.Core.val32 y)) ≤ 2 ^ 155 := by
    rw [FP.Core.zval_negate]
    unfold FP.Core.zval
    rw [zy]
    have uz : ((qm_uf (y.toNat % 2 ^ 31) : Nat) : Int) ≤ 2 ^ 155 := by exact_mod_cast uy
    have u0 : (0 : Int) ≤ ((qm_uf (y.toNat % 2 ^ 31) : Nat) : Int) := Int.natCast_nonneg _
    show -(2 ^ 155 : Int) ≤ -FP.Core.signed _ (qm_uf (y.toNat % 2 ^ 31)) ∧ -FP.Core.signed _ (qm_uf (y.toNat % 2 ^ 31)) ≤ 2 ^ 155
    generalize qm_uf (y.toNat % 2 ^ 31) = Y at *
    generalize (2 ^ 155 : Int) = B at *
    cases FP.Core.sgn (FP.Core.val32 y)
    · simp only [FP.Core.signed, Bool.false_eq_true, if_false]
      omega
    · simp only [FP.Core.signed, if_true]
      omega
  have gy' : ∃ s c q, FP.Core.negate (FP.Core.val32 y) = .fin s c q := by
    obtain ⟨s, c, q, h⟩ := gy
    exact ⟨!s, c, q, by rw [h]; rfl⟩
  have hx := FP.Core.val32_fsub a y
  have l32 : FP.Core.zval FP.Core.b32 (FP.Core.val32 1107296256) = 32 * 2 ^ 149 := by decide +kernel
  have h16 : FP.Core.zval FP.Core.b32 (FP.Core.val32 1182793728) = 16384 * 2 ^ 149 := by decide +kernel
  have n32 : FP.Core.val32 1107296256 ≠ .nan := by decide +kernel
  have n16 : FP.Core.val32 1182793728 ≠ .nan := by decide +kernel
  have o : (FP.Core.one32 : Int) = 2 ^ 149 := by decide +kernel
  have b155 : (2 ^ 155 : Int) = 64 * 2 ^ 149 := by decide +kernel
  rw [o] at za
  rw [b155] at yb
  have p149 : (0 : Int) < 2 ^ 149 := by decide +kernel
  have lo := FP.Core.sum_ge FP.Core.good_b32 (V := FP.Core.val32 1107296256) ga gy' (FP.Core.val32_fits a) (FP.Core.negate_fits (FP.Core.val32_fits y)) (FP.Core.val32_fits _) n32 (by
    rw [za, l32]
    have := Int.mul_le_mul_of_nonneg_right hf.1 (Int.le_of_lt p149)
    generalize f * 2 ^ 149 = F at *
    generalize (2 ^ 149 : Int) = B at *
    omega)
  have hi := FP.Core.sum_le FP.Core.good_b32 (V := FP.Core.val32 1182793728) ga gy' (FP.Core.val32_fits a) (FP.Core.negate_fits (FP.Core.val32_fits y)) (FP.Core.val32_fits _) n16 (by
    rw [za, h16]
    have := Int.mul_le_mul_of_nonneg_right hf.2 (Int.le_of_lt p149)
    generalize f * 2 ^ 149 = F at *
    generalize (2 ^ 149 : Int) = B at *
    omega)
  rw [← hx, l32] at lo
  rw [← hx, h16] at hi
  have nx : FP.Core.val32 (FP.Core.fsub a y) ≠ .nan := by
    obtain ⟨s, c, q, h⟩ := ga
    obtain ⟨t, c', q', h'⟩ := gy'
    rw [hx, h, h']
    exact FP.Core.roundRatio_ne_nan _ _ _ _ _
  have sx := FP.Core.sgn_bits32 nx
  have zx := FP.Core.zmag_toNat32 nx
  unfold FP.Core.zval at lo hi
  have e32 : ((qm_uf 1107296256 : Nat) : Int) = 32 * 2 ^ 149 := by decide +kernel
  have e16 : ((qm_uf 1182793728 : Nat) : Int) = 16384 * 2 ^ 149 := by decide +kernel
  rw [← e32] at lo
  rw [← e16] at hi
  have p32 : (0 : Int) < ((qm_uf 1107296256 : Nat) : Int) := by decide +kernel
  generalize FP.Core.fsub a y = x at *
  by_cases c : 2 ^ 31 ≤ x.toNat
  · rw [sx, decide_eq_true c] at lo
    simp only [FP.Core.signed, if_true] at lo
    omega
  · rw [sx, decide_eq_false c, zx] at lo hi
    simp only [FP.Core.signed, Bool.false_eq_true, if_false] at lo hi
    rw [Nat.mod_eq_of_lt (by omega)] at lo hi
    exact ⟨qm_uf_le.mp (by exact_mod_cast lo), qm_uf_le.mp (by exact_mod_cast hi)⟩
section XF
variable {n : Nat} {lv : qm_Lv} {st : List qm_V} {h : qm_Hp} {a b : UInt32} {o : CmpOp}
theorem qm_x_fmul (g : qm_fgd (FP.fmul a b)) : qm_St (qm_o_fmul n) lv (qm_F b :: qm_F a :: st) h n lv (qm_F (FP.fmul a b) :: st) h := if_neg (fun w => w (qm_nnf g))
theorem qm_x_fadd (g : qm_fgd (FP.fadd a b)) : qm_St (qm_o_fadd n) lv (qm_F b :: qm_F a :: st) h n lv (qm_F (FP.fadd a b) :: st) h := if_neg (fun w => w (qm_nnf g))
theorem qm_x_fsub {x : UInt32} (e : FP.fsub a b = x) (g : qm_fgd x) : qm_St (qm_o_fsub n) lv (qm_F b :: qm_F a :: st) h n lv (qm_F x :: st) h := by subst e; exact if_neg (fun w => w (qm_nnf g))
theorem qm_x_fdiv (g : qm_fgd (FP.fdiv a b)) : qm_St (qm_o_fdiv n) lv (qm_F b :: qm_F a :: st) h n lv (qm_F (FP.fdiv a b) :: st) h := if_neg (fun w => w (qm_nnf g))
theorem qm_x_i2fe {x y : Int} (e : x = y) : qm_St (qm_o_i2f n) lv (qm_I (qm_i x) :: st) h n lv (qm_F (FP.i2f (qm_i y)) :: st) h := by subst e; rfl
theorem qm_x_f2i : qm_St (qm_o_f2i n) lv (qm_F a :: st) h n lv (qm_I (qm_i (FP.f2i a).toInt) :: st) h := by rw [qm_i_self]; rfl
theorem qm_x_f2d (g : qm_fi (FP.f2d a)) : qm_St (qm_o_f2d n) lv (qm_F a :: st) h n lv (qm_D (FP.f2d a) :: st) h := if_neg (fun w => w (qm_nn g))
theorem qm_x_fcmp_eq (ha : a.toNat < 2139095040) : qm_St (qm_o_fcmp o n) lv (qm_F a :: qm_F a :: st) h n lv (qm_I (qm_i 0) :: st) h := by
  show some (n, lv, qm_I (Op.cmpValue (FP.fcmp a a) o) :: st, h) = _
  obtain ⟨c, q, h1, _⟩ := qm_fin32 ha
  rw [show FP.fcmp a a = FP.Core.fcmp a a from rfl, FP.Core.fcmp_self (by rw [h1]; intro h; cases h)]
  cases o <;> rfl
theorem qm_x_f2b (hb : Nat.ble (qm_sum st) 8 = true) : qm_St (qm_o_f2b n) lv (qm_F a :: st) h n lv (qm_I (qm_i a.toInt32.toInt) :: st) h := by
  rw [qm_i_self]
  show (bif _ then _ else _) = _
  rw [hb]
  rfl
end XF
theorem qm_toI32 {v : UInt32} (h : v.toNat < 2 ^ 31) : v.toInt32.toInt = (v.toNat : Int) := by
  show v.toBitVec.toInt = _
  rw [BitVec.toInt_eq_toNat_of_lt (by have : v.toBitVec.toNat = v.toNat := rfl; omega)]
  rfl
theorem qm_f_parts {a : UInt32} (h : 1107296256 ≤ a.toNat ∧ a.toNat ≤ 1182793728) : ∃ k t, a.toNat = k * 2 ^ 23 + t ∧ t < 2 ^ 23 ∧ 132 ≤ k ∧ k ≤ 141 := ⟨a.toNat / 2 ^ 23, a.toNat % 2 ^ 23, by omega, by omega, by omega, by omega⟩
theorem qm_f2d_fi {a : UInt32} (h : 1107296256 ≤ a.toNat ∧ a.toNat ≤ 1182793728) : qm_fi (FP.f2d a) := by
  obtain ⟨k, t, h1, h2, h3, h4⟩ := qm_f_parts h
  unfold qm_fi
  rw [qm_f2d h1 h2 (by omega)]
  omega
theorem qm_f_half {a : UInt32} (h : 1107296256 ≤ a.toNat ∧ a.toNat ≤ 1182793728) : qm_fgd (FP.fadd a 1056964608) := by
  have := FP.Core.fadd_mag (a := a) (b := 1056964608) (K := 142) (by omega) (by decide) (by decide)
  have e : FP.fadd a 1056964608 = FP.Core.fadd a 1056964608 := rfl
  unfold qm_fgd
  rw [e]
  omega
theorem qm_v_fbits {Q : Option qm_V → qm_Hp → Prop} {h : qm_Hp} {a : UInt32} (ha : 1107296256 ≤ a.toNat ∧ a.toNat ≤ 1182793728) (k : Q (some (qm_L (qm_l (a.toNat : Int)))) h) : qm_C qm_P 16 [qm_D (FP.f2d a), qm_I (qm_i 23), qm_I (qm_i 127)] h Q := by
  obtain ⟨K, t, h1, h2, h3, h4⟩ := qm_f_parts ha
  refine qm_v_bits23 (t := t * 2 ^ 29) (t' := t) (K := K + 896) (by omega) (qm_f2d h1 h2 (by omega)) (by omega) rfl ?_
  rw [show (127 + (((K + 896 : Nat) : Int) - 1023)) * 8388608 + (t : Int) = (a.toNat : Int) by omega]
  exact k
