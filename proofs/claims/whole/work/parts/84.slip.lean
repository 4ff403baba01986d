/-! THE SLIP: instructions that a StringBuilder asks for; the slip's picture -/
section SL1
variable {n : Nat} {lv : qm_Lv} {st : List qm_V} {S : List qm_Sh} {J K : qm_J} {L : qm_Ct Int64} {D : qm_Ct UInt64} {R : qm_Ct (Option qm_Rf)} {X : Nat × (Nat → Int32)} {x y z v : Int} {h : qm_Hp}
theorem qm_x_ishr0 : qm_St (qm_o_ishr n) lv (qm_I (qm_i 0) :: qm_I (qm_i x) :: st) h n lv (qm_I (qm_i x) :: st) h := by
  show some (n, lv, qm_I (qm_i x >>> (qm_i 0 &&& 31)) :: st, h) = _
  rw [show (qm_i 0 &&& 31) = (0 : Int32) by decide +kernel, Int32.shiftRight_zero]
theorem qm_x_ishl0 : qm_St (qm_o_ishl n) lv (qm_I (qm_i 0) :: qm_I (qm_i x) :: st) h n lv (qm_I (qm_i x) :: st) h := by
  show some (n, lv, qm_I (qm_i x <<< (qm_i 0 &&& 31)) :: st, h) = _
  rw [show (qm_i 0 &&& 31) = (0 : Int32) by decide +kernel, Int32.shiftLeft_zero]
theorem qm_x_iand255 (hx : 0 ≤ x ∧ x ≤ 255) : qm_St (qm_o_iand n) lv (qm_I (qm_i 255) :: qm_I (qm_i x) :: st) h n lv (qm_I (qm_i x) :: st) h := by
  show some (n, lv, qm_I (qm_i x &&& qm_i 255) :: st, h) = _
  have k : ∀ a : Nat, a < 256 → qm_i (a : Int) &&& qm_i 255 = qm_i (a : Int) := by decide +kernel
  obtain ⟨a, rfl⟩ := Int.eq_ofNat_of_zero_le hx.1
  rw [k a (by omega)]
theorem qm_x_i2c (hx : 0 ≤ x ∧ x ≤ 255) : qm_St (qm_o_i2c n) lv (qm_I (qm_i x) :: st) h n lv (qm_I (qm_i x) :: st) h := by
  show some (n, lv, qm_I ((qm_i x).toUInt32 % 65536).toInt32 :: st, h) = _
  have k : ∀ a : Nat, a < 256 → ((qm_i (a : Int)).toUInt32 % 65536).toInt32 = qm_i (a : Int) := by decide +kernel
  obtain ⟨a, rfl⟩ := Int.eq_ofNat_of_zero_le hx.1
  rw [k a (by omega)]
theorem qm_x_getgR {ci k r s : Nat} {q : Option qm_Rf} (hs : qm_SS r = some (Sum.inl ci)) (hq : qm_SR r k = q) : qm_St (qm_o_getg ci k 4 n) lv (qm_R (some (1, r, s)) :: st) h n lv (qm_R q :: st) h := by
  show (match qm_SS r with | some (Sum.inl c) => _ | _ => _) = _
  rw [hs]
  show (bif Nat.beq ci ci then _ else _) = _
  rw [Nat.beq_refl, ← hq]
  rfl
theorem qm_x_getgI {ci k r s : Nat} (hs : qm_SS r = some (Sum.inl ci)) (hv : qm_SI r k = qm_i v) : qm_St (qm_o_getg ci k 0 n) lv (qm_R (some (1, r, s)) :: st) h n lv (qm_I (qm_i v) :: st) h := by
  show (match qm_SS r with | some (Sum.inl c) => _ | _ => _) = _
  rw [hs]
  show (bif Nat.beq ci ci then _ else _) = _
  rw [Nat.beq_refl, ← hv]
  rfl
theorem qm_l_ne0 {y : Int} (h0 : 0 < y) (h1 : y ≤ 9223372036854775807) : ¬ qm_l y = (0 : Int64) := fun e => by
  have := (qm_l_eq (x := y) (y := 0) ⟨by omega, by omega⟩ ⟨by decide, by decide⟩).mp e
  omega
theorem qm_x_ldivz (hx : 0 ≤ x ∧ x ≤ 9223372036854775807) (hy : 0 < y ∧ y ≤ 9223372036854775807) : qm_St (qm_o_ldiv n) lv (qm_L (qm_l y) :: qm_L (qm_l x) :: st) h n lv (qm_L (qm_l (x / y)) :: st) h := by
  show (if qm_l y = (0 : Int64) then none else some _) = some _
  rw [if_neg (qm_l_ne0 hy.1 hy.2), qm_l_tdiv ⟨by omega, hx.2⟩ ⟨by omega, hy.2⟩, Int.tdiv_eq_ediv_of_nonneg hx.1]
theorem qm_x_lremz (hx : 0 ≤ x ∧ x ≤ 9223372036854775807) (hy : 0 < y ∧ y ≤ 9223372036854775807) : qm_St (qm_o_lrem n) lv (qm_L (qm_l y) :: qm_L (qm_l x) :: st) h n lv (qm_L (qm_l (x % y)) :: st) h := by
  show (if qm_l y = (0 : Int64) then none else some _) = some _
  rw [if_neg (qm_l_ne0 hy.1 hy.2), qm_l_tdiv ⟨by omega, hx.2⟩ ⟨by omega, hy.2⟩, Int.tdiv_eq_ediv_of_nonneg hx.1, qm_l_mul, qm_l_sub, Int.emod_def, Int.mul_comm y]
theorem qm_x_idivn8 {y c : Int} (h0 : 0 ≤ y) (h1 : y ≤ 2147483648) (hc : 0 < c) (hc2 : c ≤ 2147483647) : qm_St (qm_o_idiv n) lv (qm_I (qm_i c) :: qm_I (qm_i (-y)) :: st) h n lv (qm_I (qm_i (-(y / c))) :: st) h := by
  have hn : ¬ qm_i c = (0 : Int32) := fun e => by have := (qm_i_eq (x := c) (y := 0) ⟨by omega, by omega⟩ qm_sm0).mp e; omega
  have e : qm_i (-y) / qm_i c = qm_i ((-y).tdiv c) := (Int32.ofInt_tdiv (show Int32.minValue.toInt ≤ -y from (show (-2147483648 : Int) ≤ -y by omega)) (show -y ≤ Int32.maxValue.toInt from (show -y ≤ 2147483647 by omega)) (show Int32.minValue.toInt ≤ c from (show (-2147483648 : Int) ≤ c by omega)) (show c ≤ Int32.maxValue.toInt from hc2)).symm
  show (if qm_i c = (0 : Int32) then none else some _) = some _
  rw [if_neg hn, e, Int.neg_tdiv, Int.tdiv_eq_ediv_of_nonneg h0]
/-- bytes out of a given array -/
def qm_bcp (K : qm_J) (a : Nat) (b j c : Nat) : qm_J := fun r' s' i' => if r' = b ∧ s' = 0 ∧ j ≤ i' ∧ i' < j + c then (qm_SB a (i' - j)).toInt else K r' s' i'
theorem qm_b_self (a : Int8) : qm_b a.toInt = a := Int8.ofInt_toInt a
theorem qm_x_bcopy {a b la lb : Nat} {j c : Int} (ha : qm_arr 1 (qm_H S J K L D R X) (1, a, 0) = some (la, 1, 0)) (hb : qm_arr 1 (qm_H S J K L D R X) (0, b, 0) = some (lb, 1, 0)) (hst : Nat.ble (qm_sum st) 8 = true) (hj : 0 ≤ j ∧ j ≤ 2147483647) (hc : 0 ≤ c ∧ c ≤ 2147483647) (h1 : c ≤ la) (h2 : j + c ≤ lb) : qm_St (qm_o_bcopy n) lv (qm_I (qm_i c) :: qm_I (qm_i j) :: qm_R (some (0, b, 0)) :: qm_I (qm_i 0) :: qm_R (some (1, a, 0)) :: st) (qm_H S J K L D R X) n lv st (qm_H S J (qm_bcp K a b j.toNat c.toNat) L D R X) := by
  show (match qm_arr 1 (qm_H S J K L D R X) (1, a, 0), qm_arr 1 (qm_H S J K L D R X) (0, b, 0) with | some (la, _, _), some (lb, rb, tb) => _ | _, _ => _) = _
  rw [ha, hb]
  show (bif Nat.ble (qm_sum st) 8 then _ else _) = _
  rw [hst]
  show (if _ then none else _) = _
  have h0 := qm_cp_gd (i := 0) (j := j) (c := c) (la := la) (lb := lb) (ra := 1) (ta := 0) (rb := 1) (tb := 0) ⟨by decide, by decide⟩ hj hc (by omega) h2 (by decide) (by decide)
  rw [if_neg (fun z => h0 (by
    rcases z with z | z | z | z | z | z
    · exact Or.inl z
    · exact Or.inr (Or.inl z)
    · exact Or.inr (Or.inr (Or.inl z))
    · exact Or.inr (Or.inr (Or.inr (Or.inl z)))
    · exact Or.inr (Or.inr (Or.inr (Or.inr (Or.inl z))))
    · exact absurd z (by decide)))]
  show some (n, lv, st, (S, _, (fun r' s' i' => if r' = b ∧ s' = 0 ∧ (qm_i j).toNatClampNeg ≤ i' ∧ i' < (qm_i j).toNatClampNeg + (qm_i c).toNatClampNeg then qm_SB a ((qm_i 0).toNatClampNeg + (i' - (qm_i j).toNatClampNeg)) else qm_b (K r' s' i')), _)) = _
  rw [qm_i_nat hj.1 hj.2, qm_i_nat hc.1 hc.2, qm_i_nat (z := 0) (by decide) (by decide)]
  have e : (fun r' s' i' => if r' = b ∧ s' = 0 ∧ j.toNat ≤ i' ∧ i' < j.toNat + c.toNat then qm_SB a ((0 : Int).toNat + (i' - j.toNat)) else qm_b (K r' s' i')) = fun r' s' i' => qm_b (qm_bcp K a b j.toNat c.toNat r' s' i') := by
    funext r' s' i'
    unfold qm_bcp
    by_cases hh : r' = b ∧ s' = 0 ∧ j.toNat ≤ i' ∧ i' < j.toNat + c.toNat
    · rw [if_pos hh, if_pos hh, qm_b_self, show (0 : Int).toNat + (i' - j.toNat) = i' - j.toNat from Nat.zero_add _]
    · rw [if_neg hh, if_neg hh]
  rw [e]
end SL1
theorem qm_y_newa {P : Nat → qm_Cd} {cd : qm_Cd} {pc n : Nat} {lv : qm_Lv} {st : List qm_V} {S : List qm_Sh} {J K : qm_J} {L : qm_Ct Int64} {D : qm_Ct UInt64} {R : qm_Ct (Option qm_Rf)} {X : Nat × (Nat → Int32)} {Q : Option qm_V → qm_Hp → Prop} {ty m : Nat} {z : Int} (hc : cd pc = some (qm_o_newa ty n)) (hz : z = (m : Int)) (hm : m ≤ 65536) (hS : qm_Sd S) (hR : qm_Rd R) (k : ∀ S9 J9 K9 L9 D9 R9 N9, qm_Nw S S9 J J9 K K9 L L9 D D9 R R9 N9 (Sum.inr (Sum.inl (ty, m))) → qm_G P cd n lv (qm_R (some (0, N9, 0)) :: st) (qm_H S9 J9 K9 L9 D9 R9 X) Q) : qm_G P cd pc lv (qm_I (qm_i z) :: st) (qm_H S J K L D R X) Q := by
  subst hz
  obtain ⟨S9, J9, K9, L9, D9, R9, N9, h1, h2, h3⟩ := qm_nw (J := J) (K := K) (L := L) (D := D) (X := X) hS hR (Sum.inr (Sum.inl (ty, m)))
  refine qm_G.s1 hc (lv' := lv) (st' := qm_R (some (0, N9, 0)) :: st) (h' := qm_H S9 J9 K9 L9 D9 R9 X) ?_ (k _ _ _ _ _ _ _ h1)
  have e := qm_i_nat (z := (m : Int)) (by omega) (by omega)
  show (if qm_i (m : Int) < 0 ∨ 65536 < (qm_i (m : Int)).toNatClampNeg then none else some (n, lv, qm_R (some (0, S.length, 0)) :: st, qm_new (qm_H S J K L D R X) (Sum.inr (Sum.inl (ty, (qm_i (m : Int)).toNatClampNeg))))) = _
  rw [e, show (m : Int).toNat = m by omega, if_neg (by
    rintro (c | c)
    · have := (qm_i_lt (x := (m : Int)) (y := 0) ⟨by omega, by omega⟩ qm_sm0).mp c; omega
    · omega), h2, h3]
/-- the sign at j of a number told with n signs -/
def qm_dg (x : Int) (n j : Nat) : Int := if x < 0 ∧ j = 0 then 45 else 48 + ((x.natAbs / 10 ^ (n - 1 - j) % 10 : Nat) : Int)
theorem qm_dg_rng {x : Int} {n j : Nat} : 0 ≤ qm_dg x n j ∧ qm_dg x n j ≤ 127 := by
  unfold qm_dg
  split
  · exact ⟨by decide, by decide⟩
  · omega
/-- y has d digits -/
def qm_dn (y d : Nat) : Prop := 1 ≤ d ∧ y < 10 ^ d ∧ (10 ^ (d - 1) ≤ y ∨ d = 1)
theorem qm_dn_uni {y d e : Nat} (h : qm_dn y d) (g : qm_dn y e) : d = e := by
  obtain ⟨h1, h2, h3⟩ := h
  obtain ⟨g1, g2, g3⟩ := g
  rcases Nat.lt_trichotomy d e with c | c | c
  · rcases g3 with g3 | g3
    · have := Nat.pow_le_pow_right (n := 10) (by decide) (show d ≤ e - 1 by omega)
      omega
    · omega
  · exact c
  · rcases h3 with h3 | h3
    · have := Nat.pow_le_pow_right (n := 10) (by decide) (show e ≤ d - 1 by omega)
      omega
    · omega
/-- the signs that a number takes -/
def qm_sgn (x : Int) (d : Nat) : Nat := if x < 0 then d + 1 else d
theorem qm_ble34 {n : Nat} (h : n ≤ 34) : Nat.ble n 2147483647 = true := Nat.ble_eq_true_of_le (by omega)
theorem qm_rok8 {x : Int} (hx : 0 ≤ x ∧ x ≤ 255) : qm_rok 8 (qm_I (qm_i x)) = true := by
  have k : ∀ a : Nat, a < 256 → ((qm_i (a : Int)).toUInt32 % 65536).toInt32 = qm_i (a : Int) := by decide +kernel
  obtain ⟨a, rfl⟩ := Int.eq_ofNat_of_zero_le hx.1
  exact decide_eq_true (k a (by omega))
theorem qm_szp_dn {x v : Int} (h : qm_szp x v) (hx : qm_sm x) : ∃ d : Nat, qm_dn x.natAbs d ∧ v = (qm_sgn x d : Int) ∧ d ≤ 10 := by
  unfold qm_szp at h
  rcases h with h | h | h | h | h | h | h | h | h | h | h | h | h | h | h | h | h | h | h | h
  · exact ⟨1, ⟨by decide, show x.natAbs < 10 by omega, Or.inr rfl⟩, by unfold qm_sgn; rw [if_neg (by omega)]; omega, by decide⟩
  · exact ⟨2, ⟨by decide, show x.natAbs < 100 by omega, Or.inl (show 10 ≤ x.natAbs by omega)⟩, by unfold qm_sgn; rw [if_neg (by omega)]; omega, by decide⟩
  · exact ⟨3, ⟨by decide, show x.natAbs < 1000 by omega, Or.inl (show 100 ≤ x.natAbs by omega)⟩, by unfold qm_sgn; rw [if_neg (by omega)]; omega, by decide⟩
  · exact ⟨4, ⟨by decide, show x.natAbs < 10000 by omega, Or.inl (show 1000 ≤ x.natAbs by omega)⟩, by unfold qm_sgn; rw [if_neg (by omega)]; omega, by decide⟩
  · exact ⟨5, ⟨by decide, show x.natAbs < 100000 by omega, Or.inl (show 10000 ≤ x.natAbs by omega)⟩, by unfold qm_sgn; rw [if_neg (by omega)]; omega, by decide⟩
  · exact ⟨6, ⟨by decide, show x.natAbs < 1000000 by omega, Or.inl (show 100000 ≤ x.natAbs by omega)⟩, by unfold qm_sgn; rw [if_neg (by omega)]; omega, by decide⟩
  · exact ⟨7, ⟨by decide, show x.natAbs < 10000000 by omega, Or.inl (show 1000000 ≤ x.natAbs by omega)⟩, by unfold qm_sgn; rw [if_neg (by omega)]; omega, by decide⟩
  · exact ⟨8, ⟨by decide, show x.natAbs < 100000000 by omega, Or.inl (show 10000000 ≤ x.natAbs by omega)⟩, by unfold qm_sgn; rw [if_neg (by omega)]; omega, by decide⟩
  · exact ⟨9, ⟨by decide, show x.natAbs < 1000000000 by omega, Or.inl (show 100000000 ≤ x.natAbs by omega)⟩, by unfold qm_sgn; rw [if_neg (by omega)]; omega, by decide⟩
  · exact ⟨10, ⟨by decide, show x.natAbs < 10000000000 by omega, Or.inl (show 1000000000 ≤ x.natAbs by omega)⟩, by unfold qm_sgn; rw [if_neg (by omega)]; omega, by decide⟩
  · exact ⟨1, ⟨by decide, show x.natAbs < 10 by omega, Or.inr rfl⟩, by unfold qm_sgn; rw [if_pos (by omega)]; omega, by decide⟩
  · exact ⟨2, ⟨by decide, show x.natAbs < 100 by omega, Or.inl (show 10 ≤ x.natAbs by omega)⟩, by unfold qm_sgn; rw [if_pos (by omega)]; omega, by decide⟩
  · exact ⟨3, ⟨by decide, show x.natAbs < 1000 by omega, Or.inl (show 100 ≤ x.natAbs by omega)⟩, by unfold qm_sgn; rw [if_pos (by omega)]; omega, by decide⟩
  · exact ⟨4, ⟨by decide, show x.natAbs < 10000 by omega, Or.inl (show 1000 ≤ x.natAbs by omega)⟩, by unfold qm_sgn; rw [if_pos (by omega)]; omega, by decide⟩
  · exact ⟨5, ⟨by decide, show x.natAbs < 100000 by omega, Or.inl (show 10000 ≤ x.natAbs by omega)⟩, by unfold qm_sgn; rw [if_pos (by omega)]; omega, by decide⟩
  · exact ⟨6, ⟨by decide, show x.natAbs < 1000000 by omega, Or.inl (show 100000 ≤ x.natAbs by omega)⟩, by unfold qm_sgn; rw [if_pos (by omega)]; omega, by decide⟩
  · exact ⟨7, ⟨by decide, show x.natAbs < 10000000 by omega, Or.inl (show 1000000 ≤ x.natAbs by omega)⟩, by unfold qm_sgn; rw [if_pos (by omega)]; omega, by decide⟩
  · exact ⟨8, ⟨by decide, show x.natAbs < 100000000 by omega, Or.inl (show 10000000 ≤ x.natAbs by omega)⟩, by unfold qm_sgn; rw [if_pos (by omega)]; omega, by decide⟩
  · exact ⟨9, ⟨by decide, show x.natAbs < 1000000000 by omega, Or.inl (show 100000000 ≤ x.natAbs by omega)⟩, by unfold qm_sgn; rw [if_pos (by omega)]; omega, by decide⟩
  · exact ⟨10, ⟨by decide, show x.natAbs < 10000000000 by omega, Or.inl (show 1000000000 ≤ x.natAbs by omega)⟩, by unfold qm_sgn; rw [if_pos (by omega)]; omega, by decide⟩
/-- the slip: what a heap looks like that came out of another one by writing on the slip alone: m signs so far, those of F -/
def qm_Tq (S0 S : List qm_Sh) (J0 J K0 K : qm_J) (L0 L : qm_Ct Int64) (D0 D : qm_Ct UInt64) (R0 R : qm_Ct (Option qm_Rf)) (q n : Nat) (m : Int) (F : Nat → Int) : Prop := (qm_Sd S) ∧ (qm_Rd R) ∧ (78 ≤ S0.length) ∧ (∀ r sh, qm_nth S0 r = some sh → qm_nth S r = some sh) ∧ (∀ r s i, r < S0.length → ¬ (r = 47 ∧ (i = 2 ∨ i = 3)) → J r s i = J0 r s i) ∧ (∀ r s i, r < 78 → r ≠ 48 → K r s i = K0 r s i) ∧ (∀ r s i, r < S0.length → L r s i = L0 r s i) ∧ (∀ r s i, r < S0.length → D r s i = D0 r s i) ∧ (∀ r s i, r < S0.length → ¬ (r = 47 ∧ i = 0) → R r s i = R0 r s i) ∧ (R 47 0 0 = some (0, q, 0)) ∧ (q = 48 ∨ 78 ≤ q) ∧ (qm_nth S q = some (Sum.inr (Sum.inl (1, n)))) ∧ (n = 16 ∨ n = 34) ∧ (J 47 0 1 = 0) ∧ (J 47 0 3 = m) ∧ (0 ≤ m ∧ m ≤ n) ∧ (∀ i : Nat, (i : Int) < m → K q 0 i = F i ∧ 0 ≤ F i ∧ F i ≤ 127) ∧ ((n = 16 → qm_tot S = qm_tot S0 ∧ qm_slt S = qm_slt S0) ∧ qm_tot S ≤ qm_tot S0 + 8 ∧ qm_slt S ≤ qm_slt S0 + 100) ∧ (S0.length ≤ S.length)
theorem qm_Tq.sd {S0 S : List qm_Sh} {J0 J K0 K : qm_J} {L0 L : qm_Ct Int64} {D0 D : qm_Ct UInt64} {R0 R : qm_Ct (Option qm_Rf)} {q n : Nat} {m : Int} {F : Nat → Int} (h : qm_Tq S0 S J0 J K0 K L0 L D0 D R0 R q n m F) : qm_Sd S := h.1
theorem qm_Tq.rd {S0 S : List qm_Sh} {J0 J K0 K : qm_J} {L0 L : qm_Ct Int64} {D0 D : qm_Ct UInt64} {R0 R : qm_Ct (Option qm_Rf)} {q n : Nat} {m : Int} {F : Nat → Int} (h : qm_Tq S0 S J0 J K0 K L0 L D0 D R0 R q n m F) : qm_Rd R := h.2.1
theorem qm_Tq.n0 {S0 S : List qm_Sh} {J0 J K0 K : qm_J} {L0 L : qm_Ct Int64} {D0 D : qm_Ct UInt64} {R0 R : qm_Ct (Option qm_Rf)} {q n : Nat} {m : Int} {F : Nat → Int} (h : qm_Tq S0 S J0 J K0 K L0 L D0 D R0 R q n m F) : 78 ≤ S0.length := h.2.2.1
theorem qm_Tq.hs {S0 S : List qm_Sh} {J0 J K0 K : qm_J} {L0 L : qm_Ct Int64} {D0 D : qm_Ct UInt64} {R0 R : qm_Ct (Option qm_Rf)} {q n : Nat} {m : Int} {F : Nat → Int} (h : qm_Tq S0 S J0 J K0 K L0 L D0 D R0 R q n m F) : ∀ r sh, qm_nth S0 r = some sh → qm_nth S r = some sh := h.2.2.2.1
theorem qm_Tq.eJ {S0 S : List qm_Sh} {J0 J K0 K : qm_J} {L0 L : qm_Ct Int64} {D0 D : qm_Ct UInt64} {R0 R : qm_Ct (Option qm_Rf)} {q n : Nat} {m : Int} {F : Nat → Int} (h : qm_Tq S0 S J0 J K0 K L0 L D0 D R0 R q n m F) : ∀ r s i, r < S0.length → ¬ (r = 47 ∧ (i = 2 ∨ i = 3)) → J r s i = J0 r s i := h.2.2.2.2.1
theorem qm_Tq.eK {S0 S : List qm_Sh} {J0 J K0 K : qm_J} {L0 L : qm_Ct Int64} {D0 D : qm_Ct UInt64} {R0 R : qm_Ct (Option qm_Rf)} {q n : Nat} {m : Int} {F : Nat → Int} (h : qm_Tq S0 S J0 J K0 K L0 L D0 D R0 R q n m F) : ∀ r s i, r < 78 → r ≠ 48 → K r s i = K0 r s i := h.2.2.2.2.2.1
theorem qm_Tq.eL {S0 S : List qm_Sh} {J0 J K0 K : qm_J} {L0 L : qm_Ct Int64} {D0 D : qm_Ct UInt64} {R0 R : qm_Ct (Option qm_Rf)} {q n : Nat} {m : Int} {F : Nat → Int} (h : qm_Tq S0 S J0 J K0 K L0 L D0 D R0 R q n m F) : ∀ r s i, r < S0.length → L r s i = L0 r s i := h.2.2.2.2.2.2.1
theorem qm_Tq.eD {S0 S : List qm_Sh} {J0 J K0 K : qm_J} {L0 L : qm_Ct Int64} {D0 D : qm_Ct UInt64} {R0 R : qm_Ct (Option qm_Rf)} {q n : Nat} {m : Int} {F : Nat → Int} (h : qm_Tq S0 S J0 J K0 K L0 L D0 D R0 R q n m F) : ∀ r s i, r < S0.length → D r s i = D0 r s i := h.2.2.2.2.2.2.2.1
theorem qm_Tq.eR {S0 S : List qm_Sh} {J0 J K0 K : qm_J} {L0 L : qm_Ct Int64} {D0 D : qm_Ct UInt64} {R0 R : qm_Ct (Option qm_Rf)} {q n : Nat} {m : Int} {F : Nat → Int} (h : qm_Tq S0 S J0 J K0 K L0 L D0 D R0 R q n m F) : ∀ r s i, r < S0.length → ¬ (r = 47 ∧ i = 0) → R r s i = R0 r s i := h.2.2.2.2.2.2.2.2.1
theorem qm_Tq.rq {S0 S : List qm_Sh} {J0 J K0 K : qm_J} {L0 L : qm_Ct Int64} {D0 D : qm_Ct UInt64} {R0 R : qm_Ct (Option qm_Rf)} {q n : Nat} {m : Int} {F : Nat → Int} (h : qm_Tq S0 S J0 J K0 K L0 L D0 D R0 R q n m F) : R 47 0 0 = some (0, q, 0) := h.2.2.2.2.2.2.2.2.2.1
theorem qm_Tq.hq {S0 S : List qm_Sh} {J0 J K0 K : qm_J} {L0 L : qm_Ct Int64} {D0 D : qm_Ct UInt64} {R0 R : qm_Ct (Option qm_Rf)} {q n : Nat} {m : Int} {F : Nat → Int} (h : qm_Tq S0 S J0 J K0 K L0 L D0 D R0 R q n m F) : q = 48 ∨ 78 ≤ q := h.2.2.2.2.2.2.2.2.2.2.1
theorem qm_Tq.sq {S0 S : List qm_Sh} {J0 J K0 K : qm_J} {L0 L : qm_Ct Int64} {D0 D : qm_Ct UInt64} {R0 R : qm_Ct (Option qm_Rf)} {q n : Nat} {m : Int} {F : Nat → Int} (h : qm_Tq S0 S J0 J K0 K L0 L D0 D R0 R q n m F) : qm_nth S q = some (Sum.inr (Sum.inl (1, n))) := h.2.2.2.2.2.2.2.2.2.2.2.1
theorem qm_Tq.hn {S0 S : List qm_Sh} {J0 J K0 K : qm_J} {L0 L : qm_Ct Int64} {D0 D : qm_Ct UInt64} {R0 R : qm_Ct (Option qm_Rf)} {q n : Nat} {m : Int} {F : Nat → Int} (h : qm_Tq S0 S J0 J K0 K L0 L D0 D R0 R q n m F) : n = 16 ∨ n = 34 := h.2.2.2.2.2.2.2.2.2.2.2.2.1
theorem qm_Tq.cd {S0 S : List qm_Sh} {J0 J K0 K : qm_J} {L0 L : qm_Ct Int64} {D0 D : qm_Ct UInt64} {R0 R : qm_Ct (Option qm_Rf)} {q n : Nat} {m : Int} {F : Nat → Int} (h : qm_Tq S0 S J0 J K0 K L0 L D0 D R0 R q n m F) : J 47 0 1 = 0 := h.2.2.2.2.2.2.2.2.2.2.2.2.2.1
theorem qm_Tq.ct {S0 S : List qm_Sh} {J0 J K0 K : qm_J} {L0 L : qm_Ct Int64} {D0 D : qm_Ct UInt64} {R0 R : qm_Ct (Option qm_Rf)} {q n : Nat} {m : Int} {F : Nat → Int} (h : qm_Tq S0 S J0 J K0 K L0 L D0 D R0 R q n m F) : J 47 0 3 = m := h.2.2.2.2.2.2.2.2.2.2.2.2.2.2.1
theorem qm_Tq.rm {S0 S : List qm_Sh} {J0 J K0 K : qm_J} {L0 L : qm_Ct Int64} {D0 D : qm_Ct UInt64} {R0 R : qm_Ct (Option qm_Rf)} {q n : Nat} {m : Int} {F : Nat → Int} (h : qm_Tq S0 S J0 J K0 K L0 L D0 D R0 R q n m F) : 0 ≤ m ∧ m ≤ n := h.2.2.2.2.2.2.2.2.2.2.2.2.2.2.2.1
theorem qm_Tq.cs {S0 S : List qm_Sh} {J0 J K0 K : qm_J} {L0 L : qm_Ct Int64} {D0 D : qm_Ct UInt64} {R0 R : qm_Ct (Option qm_Rf)} {q n : Nat} {m : Int} {F : Nat → Int} (h : qm_Tq S0 S J0 J K0 K L0 L D0 D R0 R q n m F) : ∀ i : Nat, (i : Int) < m → K q 0 i = F i ∧ 0 ≤ F i ∧ F i ≤ 127 := h.2.2.2.2.2.2.2.2.2.2.2.2.2.2.2.2.1
theorem qm_Tq.tt {S0 S : List qm_Sh} {J0 J K0 K : qm_J} {L0 L : qm_Ct Int64} {D0 D : qm_Ct UInt64} {R0 R : qm_Ct (Option qm_Rf)} {q n : Nat} {m : Int} {F : Nat → Int} (h : qm_Tq S0 S J0 J K0 K L0 L D0 D R0 R q n m F) : (n = 16 → qm_tot S = qm_tot S0 ∧ qm_slt S = qm_slt S0) ∧ qm_tot S ≤ qm_tot S0 + 8 ∧ qm_slt S ≤ qm_slt S0 + 100 := h.2.2.2.2.2.2.2.2.2.2.2.2.2.2.2.2.2.1
theorem qm_Tq.ll {S0 S : List qm_Sh} {J0 J K0 K : qm_J} {L0 L : qm_Ct Int64} {D0 D : qm_Ct UInt64} {R0 R : qm_Ct (Option qm_Rf)} {q n : Nat} {m : Int} {F : Nat → Int} (h : qm_Tq S0 S J0 J K0 K L0 L D0 D R0 R q n m F) : S0.length ≤ S.length := h.2.2.2.2.2.2.2.2.2.2.2.2.2.2.2.2.2.2
theorem qm_Tq.push {S0 S : List qm_Sh} {J0 J K0 K : qm_J} {L0 L : qm_Ct Int64} {D0 D : qm_Ct UInt64} {R0 R : qm_Ct (Option qm_Rf)} {q n : Nat} {m : Int} {F : Nat → Int} {c : Int} (h : qm_Tq S0 S J0 J K0 K L0 L D0 D R0 R q n m F) (h1 : m + 1 ≤ n) (hc : F m.toNat = c) (rc : 0 ≤ c ∧ c ≤ 127) : qm_Tq S0 S J0 (qm_set J 47 0 3 (m + 1)) K0 (qm_set K q 0 m.toNat c) L0 L D0 D R0 R q n (m + 1) F := by
  have h0 := h.rm
  have hq := h.hq
  exact ⟨h.sd, h.rd, h.n0, h.hs, (fun r s i a b => (qm_st_ne (by omega)).trans (h.eJ r s i a b)), (fun r s i a b => (qm_st_ne (by omega)).trans (h.eK r s i a b)), h.eL, h.eD, h.eR, h.rq, h.hq, h.sq, h.hn, ((qm_st_ne (by omega)).trans h.cd), qm_st_eq, ⟨by omega, h1⟩, (fun i hi => if c9 : (i : Int) < m then (qm_st_ne (f := K) (v := c) (show ¬ (q = q ∧ 0 = 0 ∧ i = m.toNat) by omega)).symm ▸ h.cs i c9 else (by have e9 : i = m.toNat := (by omega); rw [e9, hc]; exact ⟨qm_st_eq, rc⟩)), h.tt, h.ll⟩
theorem qm_Tq.more {S0 S : List qm_Sh} {J0 J K0 K : qm_J} {L0 L : qm_Ct Int64} {D0 D : qm_Ct UInt64} {R0 R : qm_Ct (Option qm_Rf)} {q n : Nat} {m : Int} {F : Nat → Int} {K' : qm_J} {c : Nat} {v : Int} (h : qm_Tq S0 S J0 J K0 K L0 L D0 D R0 R q n m F) (hv : v = m + c) (h1 : m + c ≤ n) (e : ∀ r s i, ¬ (r = q ∧ s = 0 ∧ m.toNat ≤ i ∧ i < m.toNat + c) → K' r s i = K r s i) (g : ∀ j, j < c → K' q 0 (m.toNat + j) = F (m.toNat + j)) (r : ∀ j, j < c → 0 ≤ F (m.toNat + j) ∧ F (m.toNat + j) ≤ 127) : qm_Tq S0 S J0 (qm_set J 47 0 3 v) K0 K' L0 L D0 D R0 R q n v F := by
  subst hv
  have h0 := h.rm
  have hq := h.hq
  exact ⟨h.sd, h.rd, h.n0, h.hs, (fun r s i a b => (qm_st_ne (by omega)).trans (h.eJ r s i a b)), (fun r s i a b => (e r s i (by omega)).trans (h.eK r s i a b)), h.eL, h.eD, h.eR, h.rq, h.hq, h.sq, h.hn, ((qm_st_ne (by omega)).trans h.cd), qm_st_eq, ⟨by omega, h1⟩, (fun i hi => if c9 : (i : Int) < m then (by rw [e q 0 i (by omega)]; exact h.cs i c9) else (by have e9 : i = m.toNat + (i - m.toNat) := (by omega); rw [e9]; exact ⟨g _ (by omega), r _ (by omega)⟩)), h.tt, h.ll⟩
theorem qm_nth_ex : ∀ (l : List qm_Sh) (r : Nat), r < l.length → ∃ sh, qm_nth l r = some sh
  | [], _, h => absurd h (Nat.not_lt_zero _)
  | x :: _, 0, _ => ⟨x, rfl⟩
  | _ :: l, r + 1, h => qm_nth_ex l r (Nat.lt_of_succ_lt_succ h)
theorem qm_Tq.grow {S0 S : List qm_Sh} {J0 J K0 K : qm_J} {L0 L : qm_Ct Int64} {D0 D : qm_Ct UInt64} {R0 R : qm_Ct (Option qm_Rf)} {q n : Nat} {m : Int} {F : Nat → Int} {S9 : List qm_Sh} {J9 K9 : qm_J} {L9 : qm_Ct Int64} {D9 : qm_Ct UInt64} {R9 : qm_Ct (Option qm_Rf)} {N9 c : Nat} (h : qm_Tq S0 S J0 J K0 K L0 L D0 D R0 R q n m F) (h16 : n = 16) (w9 : qm_Nw S S9 J J9 K K9 L L9 D D9 R R9 N9 (Sum.inr (Sum.inl (1, 34)))) (hc : c = 16) : qm_Tq S0 S9 J0 J9 K0 (qm_cpy K9 q 0 0 N9 0 0 c) L0 L9 D0 D9 R0 (qm_set R9 47 0 0 (some (0, N9, 0))) N9 34 m F := by
  subst h16
  subst hc
  have h78 := w9.h78
  have hll := h.ll
  have hl9 : S.length ≤ N9 := by
    rcases Nat.lt_or_ge N9 S.length with c | c
    · obtain ⟨sh, hsh⟩ : ∃ sh, qm_nth S N9 = some sh := qm_nth_ex S N9 c
      exact absurd (w9.hlt N9 sh hsh) (Nat.lt_irrefl _)
    · exact c
  have hql := w9.hlt q _ h.sq
  have hRn : qm_Rd (qm_set R9 47 0 0 (some (0, N9, 0))) := by
    intro r i x h1 h2
    have c7 : r ≠ 47 := by
      intro c7
      subst c7
      exact absurd h1 (by intro h; cases h)
    rw [qm_st_ne (by omega)]
    exact w9.hR r i x h1 h2
  have hn9 := w9.hn
  have h34 : N9 < S9.length := qm_nth_lt S9 N9 _ hn9
  exact ⟨w9.hS, hRn, h.n0, (fun r sh a => (w9.hs r (w9.hlt r sh (h.hs r sh a))).trans (h.hs r sh a)), (fun r s i a b => (w9.kJ r s i (by omega)).trans (h.eJ r s i a b)), (fun r s i a b => (qm_cp_ne (by omega)).trans ((w9.kK r s i (by omega)).trans (h.eK r s i a b))), (fun r s i a => (w9.kL r s i (by omega)).trans (h.eL r s i a)), (fun r s i a => (w9.kD r s i (by omega)).trans (h.eD r s i a)), (fun r s i a b => (qm_st_ne (by omega)).trans ((w9.kR r s i (by omega)).trans (h.eR r s i a b))), qm_st_eq, (Or.inr w9.h78), hn9, (Or.inr rfl), ((w9.kJ 47 0 1 (by omega)).trans h.cd), ((w9.kJ 47 0 3 (by omega)).trans h.ct), (by have := h.rm; omega), (fun i hi => by have h0 := h.rm; rw [qm_cp_in (Nat.zero_le i) (by omega), w9.kK q 0 _ (by omega), show 0 + (i - 0) = i by omega]; exact h.cs i hi), (by have h1 := h.tt.1 rfl; have h2 := w9.tot; have h3 : qm_sz (Sum.inr (Sum.inl (1, 34))) = 1 := rfl; have h4 : qm_wd (Sum.inr (Sum.inl (1, 34))) = 34 := rfl; omega), (by omega)⟩
