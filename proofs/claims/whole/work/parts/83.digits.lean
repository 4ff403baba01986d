/-! THE DIGITS' TABLES -/
def qm_dgb : Nat → Bool
  | 0 => true
  | n + 1 => decide ((qm_SB 38 n).toInt = 48 + (n : Int) % 10) && decide ((qm_SB 39 n).toInt = 48 + (n : Int) / 10) && qm_dgb n
theorem qm_dgb_all : qm_dgb 100 = true := by decide +kernel
theorem qm_dgb_at : ∀ n : Nat, qm_dgb n = true → ∀ i, i < n → (qm_SB 38 i).toInt = 48 + (i : Int) % 10 ∧ (qm_SB 39 i).toInt = 48 + (i : Int) / 10 := by
  intro n
  induction n with
  | zero => intro _ i h; exact absurd h (Nat.not_lt_zero i)
  | succ n ih =>
    intro h i hi
    unfold qm_dgb at h
    rw [Bool.and_eq_true, Bool.and_eq_true] at h
    by_cases e : i = n
    · rw [e]; exact ⟨of_decide_eq_true h.1.1, of_decide_eq_true h.1.2⟩
    · exact ih h.2 i (by omega)
section DG
variable {n : Nat} {lv : qm_Lv} {st : List qm_V} {S : List qm_Sh} {J K : qm_J} {L : qm_Ct Int64} {D : qm_Ct UInt64} {R : qm_Ct (Option qm_Rf)} {X : Nat × (Nat → Int32)} {z v : Int}
theorem qm_x_bald1 {r len : Nat} (ha : qm_arr 1 (qm_H S J K L D R X) (1, r, 0) = some (len, 1, 0)) (hl : Nat.ble len 2147483647 = true) (h0 : 0 ≤ z) (h1 : z < len) (hv : (qm_SB r z.toNat).toInt = v) : qm_St (qm_o_bald n) lv (qm_I (qm_i z) :: qm_R (some (1, r, 0)) :: st) (qm_H S J K L D R X) n lv (qm_I (qm_i v) :: st) (qm_H S J K L D R X) := by
  have hl' := Nat.le_of_ble_eq_true hl
  show (match qm_arr 1 (qm_H S J K L D R X) (1, r, 0) with | some (len, rows, t) => _ | none => _) = _
  rw [ha]
  have hz : qm_sm z := ⟨by omega, by omega⟩
  show (if _ then _ else _) = _
  rw [if_neg (by
    rintro (c | c | c)
    · have := (qm_i_lt hz qm_sm0).mp c; omega
    · rw [qm_i_nat h0 hz.2] at c; omega
    · omega)]
  show some (n, lv, qm_I (qm_SB r (qm_i z).toNatClampNeg).toInt32 :: st, _) = _
  rw [qm_i_nat h0 hz.2, ← hv]
  have e : ∀ b : Int8, b.toInt32 = qm_i b.toInt := fun b => by
    apply Int32.toInt.inj
    rw [qm_i_int ⟨by have := b.le_toInt; omega, by have := b.toInt_lt; omega⟩]
    exact Int8.toInt_toInt32 b
  rw [e]
theorem qm_x_dg1 (h0 : 0 ≤ z) (h1 : z < 100) : qm_St (qm_o_bald n) lv (qm_I (qm_i z) :: qm_R (some (1, 38, 0)) :: st) (qm_H S J K L D R X) n lv (qm_I (qm_i (48 + z % 10)) :: st) (qm_H S J K L D R X) :=
  qm_x_bald1 (len := 100) rfl rfl h0 (by omega) (by have := (qm_dgb_at 100 qm_dgb_all z.toNat (by omega)).1; omega)
theorem qm_x_dg2 (h0 : 0 ≤ z) (h1 : z < 100) : qm_St (qm_o_bald n) lv (qm_I (qm_i z) :: qm_R (some (1, 39, 0)) :: st) (qm_H S J K L D R X) n lv (qm_I (qm_i (48 + z / 10)) :: st) (qm_H S J K L D R X) :=
  qm_x_bald1 (len := 100) rfl rfl h0 (by omega) (by have := (qm_dgb_at 100 qm_dgb_all z.toNat (by omega)).2; omega)
theorem qm_x_idivn {h : qm_Hp} {y c : Int} (h0 : 0 ≤ y) (h1 : y ≤ 2147483647) (hc : 0 < c) (hc2 : c ≤ 2147483647) : qm_St (qm_o_idiv n) lv (qm_I (qm_i c) :: qm_I (qm_i (-y)) :: st) h n lv (qm_I (qm_i (-(y / c))) :: st) h := by
  have e := qm_x_idiv (n := n) (lv := lv) (st := st) (h := h) (x := -y) (y := c) ⟨by omega, by omega⟩ ⟨by omega, by omega⟩ (by omega) (by omega)
  rw [Int.neg_tdiv, Int.tdiv_eq_ediv_of_nonneg h0] at e
  exact e
end DG
