/-! COPIES; TAPES -/
theorem qm_cpy_i {J : qm_J} {a sa i b sb j n : Nat} : qm_cpy (fun r s i => qm_i (J r s i)) a sa i b sb j n = fun r' s' i' => qm_i (qm_cpy J a sa i b sb j n r' s' i') := by
  funext r' s' i'
  unfold qm_cpy
  split <;> rfl
theorem qm_cpy_b {J : qm_J} {a sa i b sb j n : Nat} : qm_cpy (fun r s i => qm_b (J r s i)) a sa i b sb j n = fun r' s' i' => qm_b (qm_cpy J a sa i b sb j n r' s' i') := by
  funext r' s' i'
  unfold qm_cpy
  split <;> rfl
theorem qm_cp_in {α : Type} {f : qm_Ct α} {a sa i b sb j n x : Nat} (h1 : j ≤ x) (h2 : x < j + n) : qm_cpy f a sa i b sb j n b sb x = f a sa (i + (x - j)) := if_pos ⟨rfl, rfl, h1, h2⟩
theorem qm_cp_ne {α : Type} {f : qm_Ct α} {a sa i b sb j n r s x : Nat} (h : ¬ (r = b ∧ s = sb ∧ j ≤ x ∧ x < j + n)) : qm_cpy f a sa i b sb j n r s x = f r s x := if_neg h
section XC
variable {n : Nat} {lv : qm_Lv} {st : List qm_V} {S : List qm_Sh} {J K : qm_J} {L : qm_Ct Int64} {D : qm_Ct UInt64} {R : qm_Ct (Option qm_Rf)} {X : Nat × (Nat → Int32)} {i j c : Int} {a sa b sb la ra ta lb rb tb : Nat}
theorem qm_cp_gd {la lb ra ta rb tb : Nat} (hi : 0 ≤ i ∧ i ≤ 2147483647) (hj : 0 ≤ j ∧ j ≤ 2147483647) (hc : 0 ≤ c ∧ c ≤ 2147483647) (h1 : i + c ≤ la) (h2 : j + c ≤ lb) (h3 : ta < ra) (h4 : tb < rb) : ¬ (qm_i i < 0 ∨ qm_i j < 0 ∨ qm_i c < 0 ∨ la < (qm_i i).toNatClampNeg + (qm_i c).toNatClampNeg ∨ lb < (qm_i j).toNatClampNeg + (qm_i c).toNatClampNeg ∨ ra ≤ ta ∨ rb ≤ tb) := by
  rw [qm_i_nat hi.1 hi.2, qm_i_nat hj.1 hj.2, qm_i_nat hc.1 hc.2]
  rintro (h | h | h | h | h | h | h)
  · have := (qm_i_lt ⟨by omega, by omega⟩ qm_sm0).mp h; omega
  · have := (qm_i_lt ⟨by omega, by omega⟩ qm_sm0).mp h; omega
  · have := (qm_i_lt ⟨by omega, by omega⟩ qm_sm0).mp h; omega
  · omega
  · omega
  · omega
  · omega
theorem qm_x_acopyL (ha : qm_arr 2 (qm_H S J K L D R X) (0, a, sa) = some (la, ra, ta)) (hb : qm_arr 2 (qm_H S J K L D R X) (0, b, sb) = some (lb, rb, tb)) (hst : Nat.ble (qm_sum st) 8 = true) (hi : 0 ≤ i ∧ i ≤ 2147483647) (hj : 0 ≤ j ∧ j ≤ 2147483647) (hc : 0 ≤ c ∧ c ≤ 2147483647) (h1 : i + c ≤ la) (h2 : j + c ≤ lb) (h3 : ta < ra) (h4 : tb < rb) : qm_St (qm_o_acopy 2 n) lv (qm_I (qm_i c) :: qm_I (qm_i j) :: qm_R (some (0, b, sb)) :: qm_I (qm_i i) :: qm_R (some (0, a, sa)) :: st) (qm_H S J K L D R X) n lv st (qm_H S J K (qm_cpy L a sa (Int.toNat i) b sb (Int.toNat j) (Int.toNat c)) D R X) := by
  show (match qm_arr 2 (qm_H S J K L D R X) (0, a, sa), qm_arr 2 (qm_H S J K L D R X) (0, b, sb) with | some (la, ra, ta), some (lb, rb, tb) => _ | _, _ => _) = _
  rw [ha, hb]
  show (bif Nat.ble (qm_sum st) 8 then _ else _) = _
  rw [hst]
  show (if _ then none else _) = _
  rw [if_neg (qm_cp_gd hi hj hc h1 h2 h3 h4)]
  show some (n, lv, st, (S, _, _, qm_cpy L a sa (qm_i i).toNatClampNeg b sb (qm_i j).toNatClampNeg (qm_i c).toNatClampNeg, _)) = _
  rw [qm_i_nat hi.1 hi.2, qm_i_nat hj.1 hj.2, qm_i_nat hc.1 hc.2]
theorem qm_x_acopyI (ha : qm_arr 0 (qm_H S J K L D R X) (0, a, sa) = some (la, ra, ta)) (hb : qm_arr 0 (qm_H S J K L D R X) (0, b, sb) = some (lb, rb, tb)) (hst : Nat.ble (qm_sum st) 8 = true) (hi : 0 ≤ i ∧ i ≤ 2147483647) (hj : 0 ≤ j ∧ j ≤ 2147483647) (hc : 0 ≤ c ∧ c ≤ 2147483647) (h1 : i + c ≤ la) (h2 : j + c ≤ lb) (h3 : ta < ra) (h4 : tb < rb) : qm_St (qm_o_acopy 0 n) lv (qm_I (qm_i c) :: qm_I (qm_i j) :: qm_R (some (0, b, sb)) :: qm_I (qm_i i) :: qm_R (some (0, a, sa)) :: st) (qm_H S J K L D R X) n lv st (qm_H S (qm_cpy J a sa (Int.toNat i) b sb (Int.toNat j) (Int.toNat c)) K L D R X) := by
  show (match qm_arr 0 (qm_H S J K L D R X) (0, a, sa), qm_arr 0 (qm_H S J K L D R X) (0, b, sb) with | some (la, ra, ta), some (lb, rb, tb) => _ | _, _ => _) = _
  rw [ha, hb]
  show (bif Nat.ble (qm_sum st) 8 then _ else _) = _
  rw [hst]
  show (if _ then none else _) = _
  rw [if_neg (qm_cp_gd hi hj hc h1 h2 h3 h4)]
  show some (n, lv, st, (S, qm_cpy (fun r s i => qm_i (J r s i)) a sa (qm_i i).toNatClampNeg b sb (qm_i j).toNatClampNeg (qm_i c).toNatClampNeg, _)) = _
  rw [qm_i_nat hi.1 hi.2, qm_i_nat hj.1 hj.2, qm_i_nat hc.1 hc.2, qm_cpy_i]
theorem qm_x_acopyB (ha : qm_arr 1 (qm_H S J K L D R X) (0, a, sa) = some (la, ra, ta)) (hb : qm_arr 1 (qm_H S J K L D R X) (0, b, sb) = some (lb, rb, tb)) (hst : Nat.ble (qm_sum st) 8 = true) (hi : 0 ≤ i ∧ i ≤ 2147483647) (hj : 0 ≤ j ∧ j ≤ 2147483647) (hc : 0 ≤ c ∧ c ≤ 2147483647) (h1 : i + c ≤ la) (h2 : j + c ≤ lb) (h3 : ta < ra) (h4 : tb < rb) : qm_St (qm_o_acopy 1 n) lv (qm_I (qm_i c) :: qm_I (qm_i j) :: qm_R (some (0, b, sb)) :: qm_I (qm_i i) :: qm_R (some (0, a, sa)) :: st) (qm_H S J K L D R X) n lv st (qm_H S J (qm_cpy K a sa (Int.toNat i) b sb (Int.toNat j) (Int.toNat c)) L D R X) := by
  show (match qm_arr 1 (qm_H S J K L D R X) (0, a, sa), qm_arr 1 (qm_H S J K L D R X) (0, b, sb) with | some (la, ra, ta), some (lb, rb, tb) => _ | _, _ => _) = _
  rw [ha, hb]
  show (bif Nat.ble (qm_sum st) 8 then _ else _) = _
  rw [hst]
  show (if _ then none else _) = _
  rw [if_neg (qm_cp_gd hi hj hc h1 h2 h3 h4)]
  show some (n, lv, st, (S, _, qm_cpy (fun r s i => qm_b (K r s i)) a sa (qm_i i).toNatClampNeg b sb (qm_i j).toNatClampNeg (qm_i c).toNatClampNeg, _)) = _
  rw [qm_i_nat hi.1 hi.2, qm_i_nat hj.1 hj.2, qm_i_nat hc.1 hc.2, qm_cpy_b]
end XC
/-- a tape by its number -/
theorem qm_Inv.tap {S : List qm_Sh} {J K : qm_J} {L : qm_Ct Int64} {D : qm_Ct UInt64} {R : qm_Ct (Option qm_Rf)} {k : Nat} (hI : qm_Inv S J K L D R k) {a : Int} (h : 0 ≤ a ∧ a ≤ 5) : ∃ q q' : Nat, (q = 49 + 2 * Int.toNat a ∧ q' = 50 + 2 * Int.toNat a) ∧ R 46 0 (Int.toNat a) = some (0, q, 0) ∧ qm_nth S q = some (Sum.inl 8) ∧ R q 0 0 = some (0, q', 0) ∧ qm_nth S q' = some (Sum.inr (Sum.inl (2, 60))) ∧ J q 0 1 = J 73 0 (Int.toNat a) - 1 ∧ (0 ≤ J 73 0 (Int.toNat a) ∧ J 73 0 (Int.toNat a) ≤ 5) ∧ J q 0 2 = J 74 0 (Int.toNat a) ∧ (0 ≤ J 74 0 (Int.toNat a) ∧ J 74 0 (Int.toNat a) ≤ 60) ∧ ∀ i : Nat, i < 60 → L q' 0 i = L 75 0 (60 * Int.toNat a + i) := by
  have h1 := hI.srt (Int.toNat a) (by omega)
  have h2 := hI.len (Int.toNat a) (by omega)
  have hS := hI.sd
  have hR := hI.rd
  refine ⟨49 + 2 * Int.toNat a, 50 + 2 * Int.toNat a, ⟨rfl, rfl⟩, ?_, ?_, ?_, ?_, h1.1, h1.2, h2.1, ⟨h2.2.1, h2.2.2.1⟩, fun i hi => hI.itm _ i (by omega) hi⟩
  all_goals
    rcases (show a = 0 ∨ a = 1 ∨ a = 2 ∨ a = 3 ∨ a = 4 ∨ a = 5 by omega) with c | c | c | c | c | c <;> subst c
  · exact hR 46 0 49 rfl rfl
  · exact hR 46 1 51 rfl rfl
  · exact hR 46 2 53 rfl rfl
  · exact hR 46 3 55 rfl rfl
  · exact hR 46 4 57 rfl rfl
  · exact hR 46 5 59 rfl rfl
  · exact hS 49 rfl
  · exact hS 51 rfl
  · exact hS 53 rfl
  · exact hS 55 rfl
  · exact hS 57 rfl
  · exact hS 59 rfl
  · exact hR 49 0 50 rfl rfl
  · exact hR 51 0 52 rfl rfl
  · exact hR 53 0 54 rfl rfl
  · exact hR 55 0 56 rfl rfl
  · exact hR 57 0 58 rfl rfl
  · exact hR 59 0 60 rfl rfl
  · exact hS 50 rfl
  · exact hS 52 rfl
  · exact hS 54 rfl
  · exact hS 56 rfl
  · exact hS 58 rfl
  · exact hS 60 rfl
/-- what judging answers -/
def qm_jd (ln i : Int) (f : Int → Int64) (b : Int → Int) : Nat → Int → Int
  | 0, _ => -5
  | n + 1, k => if ln ≤ i + k then 100 + k else if f (i + k) = qm_l (b k) then qm_jd ln i f b n (k + 1) else k
theorem qm_jd_rng {ln i : Int} {f : Int → Int64} {b : Int → Int} : ∀ (n : Nat) (k : Int), 0 ≤ k → -5 ≤ qm_jd ln i f b n k ∧ qm_jd ln i f b n k ≤ 100 + k + n := by
  intro n
  induction n with
  | zero => intro k h; show -5 ≤ (-5 : Int) ∧ (-5 : Int) ≤ 100 + k + ((0 : Nat) : Int); omega
  | succ n ih =>
    intro k h
    have h1 := ih (k + 1) (by omega)
    show -5 ≤ (if ln ≤ i + k then 100 + k else if f (i + k) = qm_l (b k) then qm_jd ln i f b n (k + 1) else k) ∧ (if ln ≤ i + k then 100 + k else if f (i + k) = qm_l (b k) then qm_jd ln i f b n (k + 1) else k) ≤ _
    split
    · omega
    · split
      · omega
      · omega
theorem qm_jd_a {ln i k : Int} {f : Int → Int64} {b : Int → Int} {n : Nat} (h : ln ≤ i + k) : qm_jd ln i f b (n + 1) k = 100 + k := if_pos h
theorem qm_jd_b {ln i k : Int} {f : Int → Int64} {b : Int → Int} {n : Nat} (h : ¬ ln ≤ i + k) (h2 : f (i + k) = qm_l (b k)) : qm_jd ln i f b (n + 1) k = qm_jd ln i f b n (k + 1) := (if_neg h).trans (if_pos h2)
theorem qm_jd_c {ln i k : Int} {f : Int → Int64} {b : Int → Int} {n : Nat} (h : ¬ ln ≤ i + k) (h2 : ¬ f (i + k) = qm_l (b k)) : qm_jd ln i f b (n + 1) k = k := (if_neg h).trans (if_neg h2)
