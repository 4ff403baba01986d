/-! A NEW OBJECT -/
theorem qm_nth_al : ∀ (l : List qm_Sh) (x : qm_Sh) (r : Nat), r < l.length → qm_nth (l ++ [x]) r = qm_nth l r
  | [], _, _, h => absurd h (Nat.not_lt_zero _)
  | _ :: _, _, 0, _ => rfl
  | _ :: l, x, r + 1, h => qm_nth_al l x r (Nat.lt_of_succ_lt_succ h)
theorem qm_nth_ae : ∀ (l : List qm_Sh) (x : qm_Sh), qm_nth (l ++ [x]) l.length = some x
  | [], _ => rfl
  | _ :: l, x => qm_nth_ae l x
theorem qm_rf_hi {r i : Nat} (h : 78 ≤ r) : qm_rf r i = none := by
  have b : ∀ n, n ≤ 78 → Nat.blt r n = false := fun n hn => by
    cases c : Nat.blt r n
    · rfl
    · have c2 : r < n := Nat.le_of_ble_eq_true c
      exact absurd c2 (by omega)
  unfold qm_rf
  simp only [qm_sel, b 39 (by decide), b 59 (by decide), b 58 (by decide), b 68 (by decide), b 63 (by decide), b 73 (by decide), b 75 (by decide), b 76 (by decide), b 77 (by decide), cond_false]
def qm_Nw (S S9 : List qm_Sh) (J J9 K K9 : qm_J) (L L9 : qm_Ct Int64) (D D9 : qm_Ct UInt64) (R R9 : qm_Ct (Option qm_Rf)) (N9 : Nat) (sh : qm_Sh) : Prop := (78 ≤ N9) ∧ (∀ r sh, qm_nth S r = some sh → r < N9) ∧ (∀ r, r < N9 → qm_nth S9 r = qm_nth S r) ∧ (qm_nth S9 N9 = some sh) ∧ (∀ r s i, r ≠ N9 → J9 r s i = J r s i) ∧ (∀ r s i, r ≠ N9 → K9 r s i = K r s i) ∧ (∀ r s i, r ≠ N9 → L9 r s i = L r s i) ∧ (∀ r s i, r ≠ N9 → D9 r s i = D r s i) ∧ (∀ r s i, r ≠ N9 → R9 r s i = R r s i) ∧ (qm_tot S9 = qm_tot S + qm_sz sh ∧ qm_slt S9 = qm_slt S + qm_wd sh) ∧ (qm_Sd S9) ∧ (qm_Rd R9)
theorem qm_Nw.h78 {S S9 : List qm_Sh} {J J9 K K9 : qm_J} {L L9 : qm_Ct Int64} {D D9 : qm_Ct UInt64} {R R9 : qm_Ct (Option qm_Rf)} {N9 : Nat} {sh : qm_Sh} (h : qm_Nw S S9 J J9 K K9 L L9 D D9 R R9 N9 sh) : 78 ≤ N9 := h.1
theorem qm_Nw.hlt {S S9 : List qm_Sh} {J J9 K K9 : qm_J} {L L9 : qm_Ct Int64} {D D9 : qm_Ct UInt64} {R R9 : qm_Ct (Option qm_Rf)} {N9 : Nat} {sh : qm_Sh} (h : qm_Nw S S9 J J9 K K9 L L9 D D9 R R9 N9 sh) : ∀ r sh, qm_nth S r = some sh → r < N9 := h.2.1
theorem qm_Nw.hs {S S9 : List qm_Sh} {J J9 K K9 : qm_J} {L L9 : qm_Ct Int64} {D D9 : qm_Ct UInt64} {R R9 : qm_Ct (Option qm_Rf)} {N9 : Nat} {sh : qm_Sh} (h : qm_Nw S S9 J J9 K K9 L L9 D D9 R R9 N9 sh) : ∀ r, r < N9 → qm_nth S9 r = qm_nth S r := h.2.2.1
theorem qm_Nw.hn {S S9 : List qm_Sh} {J J9 K K9 : qm_J} {L L9 : qm_Ct Int64} {D D9 : qm_Ct UInt64} {R R9 : qm_Ct (Option qm_Rf)} {N9 : Nat} {sh : qm_Sh} (h : qm_Nw S S9 J J9 K K9 L L9 D D9 R R9 N9 sh) : qm_nth S9 N9 = some sh := h.2.2.2.1
theorem qm_Nw.kJ {S S9 : List qm_Sh} {J J9 K K9 : qm_J} {L L9 : qm_Ct Int64} {D D9 : qm_Ct UInt64} {R R9 : qm_Ct (Option qm_Rf)} {N9 : Nat} {sh : qm_Sh} (h : qm_Nw S S9 J J9 K K9 L L9 D D9 R R9 N9 sh) : ∀ r s i, r ≠ N9 → J9 r s i = J r s i := h.2.2.2.2.1
theorem qm_Nw.kK {S S9 : List qm_Sh} {J J9 K K9 : qm_J} {L L9 : qm_Ct Int64} {D D9 : qm_Ct UInt64} {R R9 : qm_Ct (Option qm_Rf)} {N9 : Nat} {sh : qm_Sh} (h : qm_Nw S S9 J J9 K K9 L L9 D D9 R R9 N9 sh) : ∀ r s i, r ≠ N9 → K9 r s i = K r s i := h.2.2.2.2.2.1
theorem qm_Nw.kL {S S9 : List qm_Sh} {J J9 K K9 : qm_J} {L L9 : qm_Ct Int64} {D D9 : qm_Ct UInt64} {R R9 : qm_Ct (Option qm_Rf)} {N9 : Nat} {sh : qm_Sh} (h : qm_Nw S S9 J J9 K K9 L L9 D D9 R R9 N9 sh) : ∀ r s i, r ≠ N9 → L9 r s i = L r s i := h.2.2.2.2.2.2.1
theorem qm_Nw.kD {S S9 : List qm_Sh} {J J9 K K9 : qm_J} {L L9 : qm_Ct Int64} {D D9 : qm_Ct UInt64} {R R9 : qm_Ct (Option qm_Rf)} {N9 : Nat} {sh : qm_Sh} (h : qm_Nw S S9 J J9 K K9 L L9 D D9 R R9 N9 sh) : ∀ r s i, r ≠ N9 → D9 r s i = D r s i := h.2.2.2.2.2.2.2.1
theorem qm_Nw.kR {S S9 : List qm_Sh} {J J9 K K9 : qm_J} {L L9 : qm_Ct Int64} {D D9 : qm_Ct UInt64} {R R9 : qm_Ct (Option qm_Rf)} {N9 : Nat} {sh : qm_Sh} (h : qm_Nw S S9 J J9 K K9 L L9 D D9 R R9 N9 sh) : ∀ r s i, r ≠ N9 → R9 r s i = R r s i := h.2.2.2.2.2.2.2.2.1
theorem qm_Nw.tot {S S9 : List qm_Sh} {J J9 K K9 : qm_J} {L L9 : qm_Ct Int64} {D D9 : qm_Ct UInt64} {R R9 : qm_Ct (Option qm_Rf)} {N9 : Nat} {sh : qm_Sh} (h : qm_Nw S S9 J J9 K K9 L L9 D D9 R R9 N9 sh) : qm_tot S9 = qm_tot S + qm_sz sh ∧ qm_slt S9 = qm_slt S + qm_wd sh := h.2.2.2.2.2.2.2.2.2.1
theorem qm_Nw.hS {S S9 : List qm_Sh} {J J9 K K9 : qm_J} {L L9 : qm_Ct Int64} {D D9 : qm_Ct UInt64} {R R9 : qm_Ct (Option qm_Rf)} {N9 : Nat} {sh : qm_Sh} (h : qm_Nw S S9 J J9 K K9 L L9 D D9 R R9 N9 sh) : qm_Sd S9 := h.2.2.2.2.2.2.2.2.2.2.1
theorem qm_Nw.hR {S S9 : List qm_Sh} {J J9 K K9 : qm_J} {L L9 : qm_Ct Int64} {D D9 : qm_Ct UInt64} {R R9 : qm_Ct (Option qm_Rf)} {N9 : Nat} {sh : qm_Sh} (h : qm_Nw S S9 J J9 K K9 L L9 D D9 R R9 N9 sh) : qm_Rd R9 := h.2.2.2.2.2.2.2.2.2.2.2
theorem qm_nw {S : List qm_Sh} {J K : qm_J} {L : qm_Ct Int64} {D : qm_Ct UInt64} {R : qm_Ct (Option qm_Rf)} {X : Nat × (Nat → Int32)} (hS : qm_Sd S) (hR : qm_Rd R) (sh : qm_Sh) : ∃ S9 J9 K9 L9 D9 R9 N9, qm_Nw S S9 J J9 K K9 L L9 D D9 R R9 N9 sh ∧ S.length = N9 ∧ qm_new (qm_H S J K L D R X) sh = qm_H S9 J9 K9 L9 D9 R9 X := by
  have h78 : 78 ≤ S.length := by
    have h1 : qm_nth S 77 = qm_sh 77 := hS 77 rfl
    obtain ⟨v, h2⟩ : ∃ v, qm_sh 77 = some v := ⟨_, rfl⟩
    have := qm_nth_lt S 77 v (h1.trans h2)
    omega
  refine ⟨S ++ [sh], qm_clr J S.length 0, qm_clr K S.length 0, qm_clr L S.length 0, qm_clr D S.length 0, qm_clr R S.length none, S.length, ⟨h78, fun r sh h => qm_nth_lt S r sh h, fun r h => qm_nth_al S sh r h, qm_nth_ae S sh, fun r s i h => if_neg h, fun r s i h => if_neg h, fun r s i h => if_neg h, fun r s i h => if_neg h, fun r s i h => if_neg h, ?_, ?_, ?_⟩, rfl, ?_⟩
  · rw [qm_tot_app, qm_slt_app]
    exact ⟨rfl, rfl⟩
  · intro r hr
    have : r < 78 := Nat.le_of_ble_eq_true hr
    rw [qm_nth_al S sh r (by omega)]
    exact hS r hr
  · intro r i q h1 h2
    by_cases c : r < 78
    · have e : qm_clr R S.length none r 0 i = R r 0 i := if_neg (by omega)
      rw [e]
      exact hR r i q h1 h2
    · rw [qm_rf_hi (by omega)] at h1
      cases h1
  · show (S ++ [sh], _, _, _, _, _, X) = (S ++ [sh], _, _, _, _, _, X)
    have e1 : qm_clr (fun r s i => qm_i (J r s i)) S.length 0 = fun r s i => qm_i (qm_clr J S.length 0 r s i) := by
      funext r s i
      show (if r = S.length then _ else _) = qm_i (if r = S.length then _ else _)
      split <;> rfl
    have e2 : qm_clr (fun r s i => qm_b (K r s i)) S.length 0 = fun r s i => qm_b (qm_clr K S.length 0 r s i) := by
      funext r s i
      show (if r = S.length then _ else _) = qm_b (if r = S.length then _ else _)
      split <;> rfl
    rw [← e1, ← e2]
section NEW
variable {P : Nat → qm_Cd} {cd : qm_Cd} {pc n : Nat} {lv : qm_Lv} {st : List qm_V} {S : List qm_Sh} {J K : qm_J} {L : qm_Ct Int64} {D : qm_Ct UInt64} {R : qm_Ct (Option qm_Rf)} {X : Nat × (Nat → Int32)} {Q : Option qm_V → qm_Hp → Prop}
theorem qm_y_new {ci : Nat} (hc : cd pc = some (qm_o_new ci n)) (hS : qm_Sd S) (hR : qm_Rd R) (k : ∀ S9 J9 K9 L9 D9 R9 N9, qm_Nw S S9 J J9 K K9 L L9 D D9 R R9 N9 (Sum.inl ci) → qm_G P cd n lv (qm_R (some (0, N9, 0)) :: st) (qm_H S9 J9 K9 L9 D9 R9 X) Q) : qm_G P cd pc lv st (qm_H S J K L D R X) Q := by
  obtain ⟨S9, J9, K9, L9, D9, R9, N9, h1, h2, h3⟩ := qm_nw (J := J) (K := K) (L := L) (D := D) (X := X) hS hR (Sum.inl ci)
  refine qm_G.s1 hc (lv' := lv) (st' := qm_R (some (0, N9, 0)) :: st) (h' := qm_H S9 J9 K9 L9 D9 R9 X) ?_ (k _ _ _ _ _ _ _ h1)
  show some (n, lv, qm_R (some (0, S.length, 0)) :: st, qm_new (qm_H S J K L D R X) (Sum.inl ci)) = _
  rw [h2, h3]
theorem qm_x_obj {q : qm_Rf} (h : Nat.ble (qm_sum st) 8 = true) {hp : qm_Hp} : qm_St (qm_o_obj n) lv (qm_R (some q) :: st) hp n lv st hp := by
  show (bif _ then _ else _) = _
  rw [h]
  rfl
theorem qm_x_aastr {r q len : Nat} {z : Int} (hs : qm_nth S r = some (Sum.inr (Sum.inl (5, len)))) (hq : qm_nth S q = some (Sum.inl 7)) (hl : Nat.ble len 2147483647 = true) (h0 : 0 ≤ z) (h1 : z < len) : qm_St (qm_o_aast n) lv (qm_R (some (0, q, 0)) :: qm_I (qm_i z) :: qm_R (some (0, r, 0)) :: st) (qm_H S J K L D R X) n lv st (qm_H S J K L D (qm_set R r 0 z.toNat (some (0, q, 0))) X) := by
  have hl2 := Nat.le_of_ble_eq_true hl
  have e : qm_elt (qm_H S J K L D R X) 5 (some (0, q, 0)) = true := by
    show (match qm_nth S q with | some (Sum.inl c) => _ | some (Sum.inr (Sum.inl (t, _))) => _ | _ => _) = _
    rw [hq]
    rfl
  show (match qm_nth S r with | some (Sum.inr (Sum.inl (ty, len))) => _ | _ => _) = _
  rw [hs]
  show (bif Nat.beq 0 0 && qm_elt (qm_H S J K L D R X) 5 (some (0, q, 0)) then _ else _) = _
  rw [e]
  have h2 := qm_i_nat h0 (by omega)
  have h3 : ¬ (qm_i z < 0 ∨ len ≤ (qm_i z).toNatClampNeg) := by
    rw [h2, Int32.lt_iff_toInt_lt, qm_i_int ⟨by omega, by omega⟩, show (0 : Int32).toInt = 0 from rfl]
    omega
  show (if qm_i z < 0 ∨ len ≤ (qm_i z).toNatClampNeg then none else _) = _
  rw [if_neg h3, h2]
end NEW
