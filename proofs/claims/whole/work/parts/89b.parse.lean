/-! READING: what a text says -/
def qm_re (T : Nat → Int) (ln lo hi : Int) : Nat → Nat → Nat
  | 0, e => e
  | m + 1, e => if (e : Int) < ln ∧ lo ≤ T e ∧ T e ≤ hi then qm_re T ln lo hi m (e + 1) else e
section RE
variable {T : Nat → Int} {ln lo hi : Int}
theorem qm_re_y {m e : Nat} (h : (e : Int) < ln ∧ lo ≤ T e ∧ T e ≤ hi) : qm_re T ln lo hi (m + 1) e = qm_re T ln lo hi m (e + 1) := if_pos h
theorem qm_re_n {m e : Nat} (h : ¬ ((e : Int) < ln ∧ lo ≤ T e ∧ T e ≤ hi)) : qm_re T ln lo hi m e = e := by
  cases m with
  | zero => rfl
  | succ m => exact if_neg h
theorem qm_re_rng : ∀ (m e : Nat), (e : Int) ≤ ln → e ≤ qm_re T ln lo hi m e ∧ qm_re T ln lo hi m e ≤ e + m ∧ (qm_re T ln lo hi m e : Int) ≤ ln := by
  intro m
  induction m with
  | zero => intro e h; exact ⟨Nat.le_refl _, Nat.le_refl _, h⟩
  | succ m ih =>
    intro e h
    by_cases c : (e : Int) < ln ∧ lo ≤ T e ∧ T e ≤ hi
    · rw [qm_re_y c]
      have := ih (e + 1) (by omega)
      omega
    · rw [qm_re_n c]
      omega
theorem qm_re_in : ∀ (m e j : Nat), e ≤ j → j < qm_re T ln lo hi m e → lo ≤ T j ∧ T j ≤ hi := by
  intro m
  induction m with
  | zero => intro e j h1 h2; exact absurd h2 (Nat.not_lt.mpr h1)
  | succ m ih =>
    intro e j h1 h2
    by_cases c : (e : Int) < ln ∧ lo ≤ T e ∧ T e ≤ hi
    · rw [qm_re_y c] at h2
      by_cases c2 : j = e
      · rw [c2]; exact c.2
      · exact ih (e + 1) j (by omega) h2
    · rw [qm_re_n c] at h2
      omega
end RE
def qm_wl (k : Nat) : Nat := [3, 3, 3, 4, 4, 4, 6].getD k 0
def qm_isw (T : Nat → Int) (a e k : Nat) : Prop := e = a + qm_wl k ∧ ∀ j, j < qm_wl k → T (a + j) = (qm_SB (25 + k) j).toInt
def qm_eqw (T : Nat → Int) (a k : Nat) : Nat → Bool
  | 0 => true
  | j + 1 => decide (T (a + j) = (qm_SB (25 + k) j).toInt) && qm_eqw T a k j
theorem qm_eqw_iff {T : Nat → Int} {a k : Nat} : ∀ n, qm_eqw T a k n = true ↔ ∀ j, j < n → T (a + j) = (qm_SB (25 + k) j).toInt := by
  intro n
  induction n with
  | zero => exact ⟨fun _ j h => absurd h (Nat.not_lt_zero j), fun _ => rfl⟩
  | succ n ih =>
    unfold qm_eqw
    rw [Bool.and_eq_true, decide_eq_true_iff, ih]
    exact ⟨fun h j hj => if c : j = n then c ▸ h.1 else h.2 j (by omega), fun h => ⟨h n (by omega), fun j hj => h j (by omega)⟩⟩
def qm_isb (T : Nat → Int) (a e k : Nat) : Bool := decide (e = a + qm_wl k) && qm_eqw T a k (qm_wl k)
theorem qm_isb_iff {T : Nat → Int} {a e k : Nat} : qm_isb T a e k = true ↔ qm_isw T a e k := by
  unfold qm_isb qm_isw
  rw [Bool.and_eq_true, decide_eq_true_iff, qm_eqw_iff]
def qm_wk (T : Nat → Int) (a e : Nat) : Nat := bif qm_isb T a e 0 then 0 else bif qm_isb T a e 1 then 1 else bif qm_isb T a e 2 then 2 else bif qm_isb T a e 3 then 3 else bif qm_isb T a e 4 then 4 else bif qm_isb T a e 5 then 5 else bif qm_isb T a e 6 then 6 else 7
theorem qm_wk_eq {T : Nat → Int} {a e k : Nat} (hk : k ≤ 7) (h : k < 7 → qm_isw T a e k) (g : ∀ j, j < k → ¬ qm_isw T a e j) : qm_wk T a e = k := by
  have f : ∀ j, j < k → qm_isb T a e j = false := fun j hj => by
    cases c : qm_isb T a e j
    · rfl
    · exact absurd (qm_isb_iff.mp c) (g j hj)
  have t : k < 7 → qm_isb T a e k = true := fun hk => qm_isb_iff.mpr (h hk)
  unfold qm_wk
  rcases (show k = 0 ∨ k = 1 ∨ k = 2 ∨ k = 3 ∨ k = 4 ∨ k = 5 ∨ k = 6 ∨ k = 7 by omega) with c | c | c | c | c | c | c | c
  all_goals subst c
  · rw [t (by decide)]; rfl
  · rw [f 0 (by decide), t (by decide)]; rfl
  · rw [f 0 (by decide), f 1 (by decide), t (by decide)]; rfl
  · rw [f 0 (by decide), f 1 (by decide), f 2 (by decide), t (by decide)]; rfl
  · rw [f 0 (by decide), f 1 (by decide), f 2 (by decide), f 3 (by decide), t (by decide)]; rfl
  · rw [f 0 (by decide), f 1 (by decide), f 2 (by decide), f 3 (by decide), f 4 (by decide), t (by decide)]; rfl
  · rw [f 0 (by decide), f 1 (by decide), f 2 (by decide), f 3 (by decide), f 4 (by decide), f 5 (by decide), t (by decide)]; rfl
  · rw [f 0 (by decide), f 1 (by decide), f 2 (by decide), f 3 (by decide), f 4 (by decide), f 5 (by decide), f 6 (by decide)]; rfl
theorem qm_wk_le {T : Nat → Int} {a e : Nat} : qm_wk T a e ≤ 7 ∧ (qm_wk T a e < 7 → qm_isw T a e (qm_wk T a e)) := by
  unfold qm_wk
  cases c0 : qm_isb T a e 0
  · cases c1 : qm_isb T a e 1
    · cases c2 : qm_isb T a e 2
      · cases c3 : qm_isb T a e 3
        · cases c4 : qm_isb T a e 4
          · cases c5 : qm_isb T a e 5
            · cases c6 : qm_isb T a e 6
              · exact ⟨show 7 ≤ 7 by decide, fun h => absurd (show 7 < 7 from h) (by decide)⟩
              · exact ⟨show 6 ≤ 7 by decide, fun _ => qm_isb_iff.mp c6⟩
            · exact ⟨show 5 ≤ 7 by decide, fun _ => qm_isb_iff.mp c5⟩
          · exact ⟨show 4 ≤ 7 by decide, fun _ => qm_isb_iff.mp c4⟩
        · exact ⟨show 3 ≤ 7 by decide, fun _ => qm_isb_iff.mp c3⟩
      · exact ⟨show 2 ≤ 7 by decide, fun _ => qm_isb_iff.mp c2⟩
    · exact ⟨show 1 ≤ 7 by decide, fun _ => qm_isb_iff.mp c1⟩
  · exact ⟨show 0 ≤ 7 by decide, fun _ => qm_isb_iff.mp c0⟩
def qm_nu (T : Nat → Int) (a : Nat) : Nat → Int
  | 0 => 0
  | n + 1 => 10 * qm_nu T a n + T (a + n) - 48
theorem qm_nu_rng {T : Nat → Int} {a : Nat} : ∀ n, n ≤ 4 → (∀ j, j < n → 48 ≤ T (a + j) ∧ T (a + j) ≤ 57) → 0 ≤ qm_nu T a n ∧ qm_nu T a n ≤ 9999 ∧ (n ≤ 3 → qm_nu T a n ≤ 999) ∧ (n ≤ 1 → qm_nu T a n ≤ 9) := by
  intro n hn h
  rcases (show n = 0 ∨ n = 1 ∨ n = 2 ∨ n = 3 ∨ n = 4 by omega) with c | c | c | c | c
  all_goals subst c
  · show (0 : Int) ≤ 0 ∧ (0 : Int) ≤ 9999 ∧ (0 ≤ 3 → (0 : Int) ≤ 999) ∧ (0 ≤ 1 → (0 : Int) ≤ 9)
    omega
  · have h0 := h 0 (by decide)
    simp only [qm_nu]
    omega
  · have h0 := h 0 (by decide)
    have h1 := h 1 (by decide)
    simp only [qm_nu]
    omega
  · have h0 := h 0 (by decide)
    have h1 := h 1 (by decide)
    have h2 := h 2 (by decide)
    simp only [qm_nu]
    omega
  · have h0 := h 0 (by decide)
    have h1 := h 1 (by decide)
    have h2 := h 2 (by decide)
    have h3 := h 3 (by decide)
    simp only [qm_nu]
    omega
def qm_oe (T : Nat → Int) (ln : Int) (a : Nat) : Nat := qm_re T ln 97 122 100 a
def qm_ok (T : Nat → Int) (ln : Int) (a : Nat) : Nat := qm_wk T a (qm_oe T ln a)
def qm_og (T : Nat → Int) (ln : Int) (a : Nat) : Nat := qm_re T ln 48 57 4 (qm_oe T ln a)
def qm_ov (T : Nat → Int) (ln : Int) (a : Nat) : Int := qm_nu T (qm_oe T ln a) (qm_og T ln a - qm_oe T ln a)
def qm_hdg (k n : Nat) : Prop := (k = 5 ∧ 3 ≤ n) ∨ ((k = 0 ∨ k = 1 ∨ k = 6) ∧ n = 1) ∨ ((k = 2 ∨ k = 3 ∨ k = 4) ∧ n = 0)
def qm_oa (T : Nat → Int) (ln : Int) : Nat → Nat
  | 0 => 0
  | n + 1 => qm_og T ln (qm_oa T ln n) + 1
def qm_ow (T : Nat → Int) (ln : Int) (a : Nat) : Prop := qm_ok T ln a ≠ 7 ∧ qm_hdg (qm_ok T ln a) (qm_og T ln a - qm_oe T ln a)
def qm_oc (T : Nat → Int) (ln : Int) (i : Nat) : Prop := qm_ow T ln (qm_oa T ln i) ∧ (qm_og T ln (qm_oa T ln i) : Int) < ln ∧ T (qm_og T ln (qm_oa T ln i)) = 59
def qm_oF (T : Nat → Int) (ln : Int) (n : Nat) (F : Int) : Prop := (∀ i, i < n → qm_oc T ln i) ∧ n ≤ 11 ∧ ((qm_ok T ln (qm_oa T ln n) = 7 ∧ F = (qm_oa T ln n : Int)) ∨ (qm_ok T ln (qm_oa T ln n) ≠ 7 ∧ ¬ qm_hdg (qm_ok T ln (qm_oa T ln n)) (qm_og T ln (qm_oa T ln n) - qm_oe T ln (qm_oa T ln n)) ∧ F = (qm_oe T ln (qm_oa T ln n) : Int)) ∨ (qm_ow T ln (qm_oa T ln n) ∧ (qm_og T ln (qm_oa T ln n) : Int) < ln ∧ T (qm_og T ln (qm_oa T ln n)) ≠ 59 ∧ F = (qm_og T ln (qm_oa T ln n) : Int)) ∨ (qm_oc T ln n ∧ n = 11 ∧ F = (qm_og T ln (qm_oa T ln n) : Int)) ∨ (qm_ow T ln (qm_oa T ln n) ∧ ln ≤ (qm_og T ln (qm_oa T ln n) : Int) ∧ F = -1))
theorem qm_o_rng {T : Nat → Int} {ln : Int} {a : Nat} (h : (a : Int) ≤ ln) : a ≤ qm_oe T ln a ∧ qm_oe T ln a ≤ qm_og T ln a ∧ qm_og T ln a ≤ qm_oe T ln a + 4 ∧ (qm_oe T ln a : Int) ≤ ln ∧ (qm_og T ln a : Int) ≤ ln := by
  have h1 := qm_re_rng (T := T) (ln := ln) (lo := 97) (hi := 122) 100 a h
  have h2 := qm_re_rng (T := T) (ln := ln) (lo := 48) (hi := 57) 4 (qm_oe T ln a) h1.2.2
  exact ⟨h1.1, h2.1, h2.2.1, h1.2.2, h2.2.2⟩
theorem qm_ov_rng {T : Nat → Int} {ln : Int} {a : Nat} (h : (a : Int) ≤ ln) : 0 ≤ qm_ov T ln a ∧ qm_ov T ln a ≤ 9999 ∧ (qm_og T ln a - qm_oe T ln a ≤ 3 → qm_ov T ln a ≤ 999) ∧ (qm_og T ln a - qm_oe T ln a ≤ 1 → qm_ov T ln a ≤ 9) := by
  have h1 := qm_o_rng (T := T) h
  exact qm_nu_rng _ (by omega) (fun j hj => qm_re_in 4 (qm_oe T ln a) _ (by omega) (by show _ < qm_og T ln a; omega))
theorem qm_ow_len {T : Nat → Int} {ln : Int} {a : Nat} (h : qm_ow T ln a) : a + 3 ≤ qm_oe T ln a := by
  have h1 := qm_wk_le (T := T) (a := a) (e := qm_oe T ln a)
  have h2 := h1.2 (by have := h.1; have := h1.1; unfold qm_ok at *; omega)
  have h3 : 3 ≤ qm_wl (qm_wk T a (qm_oe T ln a)) := by
    have h4 := h1.1
    have h5 := h.1
    unfold qm_ok at h5
    rcases (show qm_wk T a (qm_oe T ln a) = 0 ∨ qm_wk T a (qm_oe T ln a) = 1 ∨ qm_wk T a (qm_oe T ln a) = 2 ∨ qm_wk T a (qm_oe T ln a) = 3 ∨ qm_wk T a (qm_oe T ln a) = 4 ∨ qm_wk T a (qm_oe T ln a) = 5 ∨ qm_wk T a (qm_oe T ln a) = 6 by omega) with c | c | c | c | c | c | c <;> rw [c] <;> decide
  have h6 := h2.1
  omega
theorem qm_oa_ln {T : Nat → Int} {ln : Int} (h0 : 0 ≤ ln) : ∀ n, (∀ i, i < n → qm_oc T ln i) → (qm_oa T ln n : Int) ≤ ln ∧ n ≤ qm_oa T ln n := by
  intro n
  induction n with
  | zero => intro _; exact ⟨h0, Nat.le_refl _⟩
  | succ n ih =>
    intro h
    have h1 := ih (fun i hi => h i (by omega))
    have h2 := h n (by omega)
    have h3 := qm_o_rng (T := T) h1.1
    show ((qm_og T ln (qm_oa T ln n) + 1 : Nat) : Int) ≤ ln ∧ n + 1 ≤ qm_og T ln (qm_oa T ln n) + 1
    have h4 := h2.2.1
    omega
theorem qm_x_aald1 {n : Nat} {lv : qm_Lv} {st : List qm_V} {S : List qm_Sh} {J K : qm_J} {L : qm_Ct Int64} {D : qm_Ct UInt64} {R : qm_Ct (Option qm_Rf)} {X : Nat × (Nat → Int32)} {z : Int} {k : Nat} (hk : k < 7) (hz : z = (k : Int)) : qm_St (qm_o_aald n) lv (qm_I (qm_i z) :: qm_R (some (1, 4, 0)) :: st) (qm_H S J K L D R X) n lv (qm_R (some (1, 5 + k, 0)) :: st) (qm_H S J K L D R X) := by
  subst hz
  have h2 := qm_i_nat (z := (k : Int)) (by omega) (by omega)
  have h3 : ¬ (qm_i (k : Int) < 0 ∨ 7 ≤ (qm_i (k : Int)).toNatClampNeg) := by
    rw [h2, Int32.lt_iff_toInt_lt, qm_i_int ⟨by omega, by omega⟩, show (0 : Int32).toInt = 0 from rfl]
    omega
  show (if qm_i (k : Int) < 0 ∨ 7 ≤ (qm_i (k : Int)).toNatClampNeg then none else some (n, lv, qm_R (qm_SR 4 (qm_i (k : Int)).toNatClampNeg) :: st, _)) = _
  rw [if_neg h3, h2, show (k : Int).toNat = k by omega]
  rcases (show k = 0 ∨ k = 1 ∨ k = 2 ∨ k = 3 ∨ k = 4 ∨ k = 5 ∨ k = 6 by omega) with c | c | c | c | c | c | c <;> subst c <;> rfl
theorem qm_x_aastw {n : Nat} {lv : qm_Lv} {st : List qm_V} {S : List qm_Sh} {J K : qm_J} {L : qm_Ct Int64} {D : qm_Ct UInt64} {R : qm_Ct (Option qm_Rf)} {X : Nat × (Nat → Int32)} {r len w : Nat} {z : Int} (hs : qm_nth S r = some (Sum.inr (Sum.inl (6, len)))) (hw : qm_SS w = some (Sum.inl 11)) (hl : Nat.ble len 2147483647 = true) (h0 : 0 ≤ z) (h1 : z < len) : qm_St (qm_o_aast n) lv (qm_R (some (1, w, 0)) :: qm_I (qm_i z) :: qm_R (some (0, r, 0)) :: st) (qm_H S J K L D R X) n lv st (qm_H S J K L D (qm_set R r 0 z.toNat (some (1, w, 0))) X) := by
  have hl2 := Nat.le_of_ble_eq_true hl
  have e : qm_elt (qm_H S J K L D R X) 6 (some (1, w, 0)) = true := by
    show (match qm_SS w with | some (Sum.inl c) => _ | _ => _) = _
    rw [hw]
    rfl
  show (match qm_nth S r with | some (Sum.inr (Sum.inl (ty, len))) => _ | _ => _) = _
  rw [hs]
  show (bif Nat.beq 0 0 && qm_elt (qm_H S J K L D R X) 6 (some (1, w, 0)) then _ else _) = _
  rw [e]
  have h2 := qm_i_nat h0 (by omega)
  have h3 : ¬ (qm_i z < 0 ∨ len ≤ (qm_i z).toNatClampNeg) := by
    rw [h2, Int32.lt_iff_toInt_lt, qm_i_int ⟨by omega, by omega⟩, show (0 : Int32).toInt = 0 from rfl]
    omega
  show (if qm_i z < 0 ∨ len ≤ (qm_i z).toNatClampNeg then none else _) = _
  rw [if_neg h3, h2]
theorem qm_d_eol {S : List qm_Sh} {K : qm_J} {L : qm_Ct Int64} {D : qm_Ct UInt64} {R : qm_Ct (Option qm_Rf)} {X : Nat × (Nat → Int32)} {Q : Option qm_V → qm_Hp → Prop} {T : Nat → Int} {ln : Int} {J : qm_J} {a lo hi mo : Int} (hS : qm_Sd S) (hR : qm_Rd R) (hK : ∀ i, i < 100 → K 43 0 i = T i ∧ 0 ≤ T i ∧ T i ≤ 127) (rl : 0 ≤ ln ∧ ln ≤ 100) (hl : J 42 0 1 = ln) (ra : 0 ≤ a ∧ a ≤ 100) (rlo : 0 ≤ lo ∧ lo ≤ 127) (rhi : 0 ≤ hi ∧ hi ≤ 127) (rm : 0 ≤ mo ∧ mo ≤ 100) : ∀ (m e : Nat) (x : Int), x = (e : Int) → x - a + m = mo → a ≤ x → x ≤ 100 → Q (some (qm_I (qm_i (qm_re T ln lo hi m e : Int)))) (qm_H S J K L D R X) → qm_G qm_P qm_P44 3 [(0, qm_R (some (0, 42, 0))), (1, qm_I (qm_i a)), (2, qm_I (qm_i lo)), (3, qm_I (qm_i hi)), (4, qm_I (qm_i mo)), (5, qm_I (qm_i x))] [] (qm_H S J K L D R X) Q := by
  intro m
  induction m with
  | zero =>
    intro e x hx h1 h2 h3 k
    refine qm_G.pk (lv1 := [(0, qm_R (some (0, 42, 0))), (1, qm_I (qm_i a)), (2, qm_I (qm_i lo)), (3, qm_I (qm_i hi)), (4, qm_I (qm_i mo)), (5, qm_I (qm_i x))]) rfl rfl rfl ?_
    refine qm_G.sp (lv1 := [(0, qm_R (some (0, 42, 0))), (1, qm_I (qm_i a)), (2, qm_I (qm_i lo)), (3, qm_I (qm_i hi)), (4, qm_I (qm_i mo)), (5, qm_I (qm_i x))]) rfl rfl (qm_x_iload rfl) ?_
    refine qm_G.s1 rfl (qm_x_aload rfl) ?_
    refine qm_G.s1 rfl (qm_x_getfI (v := ln) (hS 42 rfl) hl) ?_
    refine qm_y_icmp_ge rfl ⟨by omega, by omega⟩ ⟨by omega, by omega⟩ (fun c1 => ?_) (fun c1 => ?_)
    · refine qm_G.sp (lv1 := [(5, qm_I (qm_i x))]) rfl rfl (qm_x_iload rfl) ?_
      rw [hx]
      exact qm_G.ret rfl rfl k
    · refine qm_G.s1 rfl (qm_x_iload rfl) ?_
      refine qm_G.s1 rfl (qm_x_iload rfl) ?_
      refine qm_G.s1 rfl (qm_x_isub) ?_
      refine qm_G.s1 rfl (qm_x_iload rfl) ?_
      refine qm_G.s1 rfl (qm_x_icmp_ge_t ⟨by omega, by omega⟩ ⟨by omega, by omega⟩ (by omega)) ?_
      refine qm_G.sp (lv1 := [(5, qm_I (qm_i x))]) rfl rfl (qm_x_iload rfl) ?_
      rw [hx]
      exact qm_G.ret rfl rfl k
  | succ m ih =>
    intro e x hx h1 h2 h3 k
    refine qm_G.pk (lv1 := [(0, qm_R (some (0, 42, 0))), (1, qm_I (qm_i a)), (2, qm_I (qm_i lo)), (3, qm_I (qm_i hi)), (4, qm_I (qm_i mo)), (5, qm_I (qm_i x))]) rfl rfl rfl ?_
    refine qm_G.sp (lv1 := [(0, qm_R (some (0, 42, 0))), (1, qm_I (qm_i a)), (2, qm_I (qm_i lo)), (3, qm_I (qm_i hi)), (4, qm_I (qm_i mo)), (5, qm_I (qm_i x))]) rfl rfl (qm_x_iload rfl) ?_
    refine qm_G.s1 rfl (qm_x_aload rfl) ?_
    refine qm_G.s1 rfl (qm_x_getfI (v := ln) (hS 42 rfl) hl) ?_
    refine qm_y_icmp_ge rfl ⟨by omega, by omega⟩ ⟨by omega, by omega⟩ (fun c1 => ?_) (fun c1 => ?_)
    · refine qm_G.sp (lv1 := [(5, qm_I (qm_i x))]) rfl rfl (qm_x_iload rfl) ?_
      rw [qm_re_n (by omega)] at k
      rw [hx]
      exact qm_G.ret rfl rfl k
    · refine qm_G.s1 rfl (qm_x_iload rfl) ?_
      refine qm_G.s1 rfl (qm_x_iload rfl) ?_
      refine qm_G.s1 rfl (qm_x_isub) ?_
      refine qm_G.s1 rfl (qm_x_iload rfl) ?_
      refine qm_G.s1 rfl (qm_x_icmp_ge_f ⟨by omega, by omega⟩ ⟨by omega, by omega⟩ (by omega)) ?_
      refine qm_G.s1 rfl (qm_x_aload rfl) ?_
      refine qm_G.s1 rfl (qm_x_getfR (q := (some (0, 43, 0))) (hS 42 rfl) (hR 42 0 43 rfl rfl)) ?_
      refine qm_G.s1 rfl (qm_x_iload rfl) ?_
      have gT2 := (hK e (by omega)).2
      refine qm_G.s1 rfl (qm_x_bald (v := T e) (qm_arS hS rfl rfl) rfl (by omega) (by omega) (by decide) (by rw [show Int.toNat x = e by omega]; exact (hK e (by omega)).1) (by omega)) ?_
      refine qm_G.s1 rfl (qm_x_iload rfl) ?_
      refine qm_y_icmp_lt rfl ⟨by omega, by omega⟩ ⟨by omega, by omega⟩ (fun c3 => ?_) (fun c3 => ?_)
      · refine qm_G.sp (lv1 := [(5, qm_I (qm_i x))]) rfl rfl (qm_x_iload rfl) ?_
        rw [qm_re_n (by omega)] at k
        rw [hx]
        exact qm_G.ret rfl rfl k
      · refine qm_G.s1 rfl (qm_x_aload rfl) ?_
        refine qm_G.s1 rfl (qm_x_getfR (q := (some (0, 43, 0))) (hS 42 rfl) (hR 42 0 43 rfl rfl)) ?_
        refine qm_G.s1 rfl (qm_x_iload rfl) ?_
        have gT4 := (hK e (by omega)).2
        refine qm_G.s1 rfl (qm_x_bald (v := T e) (qm_arS hS rfl rfl) rfl (by omega) (by omega) (by decide) (by rw [show Int.toNat x = e by omega]; exact (hK e (by omega)).1) (by omega)) ?_
        refine qm_G.s1 rfl (qm_x_iload rfl) ?_
        refine qm_y_icmp_gt rfl ⟨by omega, by omega⟩ ⟨by omega, by omega⟩ (fun c5 => ?_) (fun c5 => ?_)
        · refine qm_G.sp (lv1 := [(5, qm_I (qm_i x))]) rfl rfl (qm_x_iload rfl) ?_
          rw [qm_re_n (by omega)] at k
          rw [hx]
          exact qm_G.ret rfl rfl k
        · refine qm_G.s1 rfl (qm_x_iinc (lv' := [(5, qm_I (qm_i (x + 1))), (0, qm_R (some (0, 42, 0))), (1, qm_I (qm_i a)), (2, qm_I (qm_i lo)), (3, qm_I (qm_i hi)), (4, qm_I (qm_i mo))]) 1 rfl rfl rfl) ?_
          refine qm_G.s1 rfl (qm_x_goto) ?_
          refine qm_G.pk (lv1 := [(0, qm_R (some (0, 42, 0))), (1, qm_I (qm_i a)), (2, qm_I (qm_i lo)), (3, qm_I (qm_i hi)), (4, qm_I (qm_i mo)), (5, qm_I (qm_i (x + 1)))]) rfl rfl rfl ?_
          rw [qm_re_y (by omega)] at k
          exact ih (e + 1) _ (by omega) (by omega) (by omega) (by omega) k
theorem qm_d_eor {S : List qm_Sh} {K : qm_J} {L : qm_Ct Int64} {D : qm_Ct UInt64} {R : qm_Ct (Option qm_Rf)} {X : Nat × (Nat → Int32)} {Q : Option qm_V → qm_Hp → Prop} {T : Nat → Int} {ln : Int} {J : qm_J} {x lo hi mo : Int} {e : Nat} (hS : qm_Sd S) (hR : qm_Rd R) (hK : ∀ i, i < 100 → K 43 0 i = T i ∧ 0 ≤ T i ∧ T i ≤ 127) (rl : 0 ≤ ln ∧ ln ≤ 100) (hl : J 42 0 1 = ln) (hx : x = (e : Int)) (rx : 0 ≤ x ∧ x ≤ 100) (rlo : 0 ≤ lo ∧ lo ≤ 127) (rhi : 0 ≤ hi ∧ hi ≤ 127) (rm : 0 ≤ mo ∧ mo ≤ 100) (k : Q (some (qm_I (qm_i (qm_re T ln lo hi (Int.toNat mo) e : Int)))) (qm_H S J K L D R X)) : qm_C qm_P 44 [qm_R (some (0, 42, 0)), qm_I (qm_i x), qm_I (qm_i lo), qm_I (qm_i hi), qm_I (qm_i mo)] (qm_H S J K L D R X) Q := by
  refine qm_C.go (cd := qm_P44) (lv := [(0, qm_R (some (0, 42, 0))), (1, qm_I (qm_i x)), (2, qm_I (qm_i lo)), (3, qm_I (qm_i hi)), (4, qm_I (qm_i mo))]) rfl rfl ?_
  refine qm_G.s1 rfl (qm_x_iload rfl) ?_
  refine qm_G.s1 rfl (qm_x_istore (lv' := [(5, qm_I (qm_i x)), (0, qm_R (some (0, 42, 0))), (1, qm_I (qm_i x)), (2, qm_I (qm_i lo)), (3, qm_I (qm_i hi)), (4, qm_I (qm_i mo))]) rfl) ?_
  refine qm_G.pk (lv1 := [(0, qm_R (some (0, 42, 0))), (1, qm_I (qm_i x)), (2, qm_I (qm_i lo)), (3, qm_I (qm_i hi)), (4, qm_I (qm_i mo)), (5, qm_I (qm_i x))]) rfl rfl rfl ?_
  exact qm_d_eol hS hR hK rl hl rx rlo rhi rm (Int.toNat mo) e x hx (by omega) (by omega) (by omega) k
theorem qm_d_nul {S : List qm_Sh} {K : qm_J} {L : qm_Ct Int64} {D : qm_Ct UInt64} {R : qm_Ct (Option qm_Rf)} {X : Nat × (Nat → Int32)} {Q : Option qm_V → qm_Hp → Prop} {T : Nat → Int} {ln : Int} {J : qm_J} {g : Int} {a : Nat} (hS : qm_Sd S) (hR : qm_Rd R) (hK : ∀ i, i < 100 → K 43 0 i = T i ∧ 0 ≤ T i ∧ T i ≤ 127) (rl : 0 ≤ ln ∧ ln ≤ 100) (hl : J 42 0 1 = ln) (ha : (a : Int) ≤ g ∧ g ≤ a + 4 ∧ g ≤ ln) (hd : ∀ j : Nat, a ≤ j → (j : Int) < g → 48 ≤ T j ∧ T j ≤ 57) (k : Q (some (qm_I (qm_i (qm_nu T a (Int.toNat g - a))))) (qm_H S J K L D R X)) : ∀ (m n : Nat) (v i : Int), v = qm_nu T a n → i = (a : Int) + n → i + m = g → qm_G qm_P qm_P45 5 [(0, qm_R (some (0, 42, 0))), (2, qm_I (qm_i g)), (3, qm_I (qm_i v)), (4, qm_I (qm_i i))] [] (qm_H S J K L D R X) Q := by
  intro m
  induction m with
  | zero =>
    intro n v i hv hi hm
    have nr := qm_nu_rng (T := T) (a := a) n (by omega) (fun j hj => hd (a + j) (by omega) (by omega))
    rw [← hv] at nr
    refine qm_G.pk (lv1 := [(0, qm_R (some (0, 42, 0))), (2, qm_I (qm_i g)), (3, qm_I (qm_i v)), (4, qm_I (qm_i i))]) rfl rfl rfl ?_
    refine qm_G.sp (lv1 := [(0, qm_R (some (0, 42, 0))), (2, qm_I (qm_i g)), (3, qm_I (qm_i v)), (4, qm_I (qm_i i))]) rfl rfl (qm_x_iload rfl) ?_
    refine qm_G.s1 rfl (qm_x_iload rfl) ?_
    refine qm_G.s1 rfl (qm_x_icmp_ge_t ⟨by omega, by omega⟩ ⟨by omega, by omega⟩ (by omega)) ?_
    refine qm_G.sp (lv1 := [(3, qm_I (qm_i v))]) rfl rfl (qm_x_iload rfl) ?_
    rw [show Int.toNat g - a = n by omega, ← hv] at k
    exact qm_G.ret rfl rfl k
  | succ m ih =>
    intro n v i hv hi hm
    have nr := qm_nu_rng (T := T) (a := a) n (by omega) (fun j hj => hd (a + j) (by omega) (by omega))
    rw [← hv] at nr
    refine qm_G.pk (lv1 := [(0, qm_R (some (0, 42, 0))), (2, qm_I (qm_i g)), (3, qm_I (qm_i v)), (4, qm_I (qm_i i))]) rfl rfl rfl ?_
    refine qm_G.sp (lv1 := [(0, qm_R (some (0, 42, 0))), (2, qm_I (qm_i g)), (3, qm_I (qm_i v)), (4, qm_I (qm_i i))]) rfl rfl (qm_x_iload rfl) ?_
    refine qm_G.s1 rfl (qm_x_iload rfl) ?_
    refine qm_G.s1 rfl (qm_x_icmp_ge_f ⟨by omega, by omega⟩ ⟨by omega, by omega⟩ (by omega)) ?_
    refine qm_G.s1 rfl (qm_x_iload rfl) ?_
    refine qm_G.s1 rfl (qm_x_aload rfl) ?_
    refine qm_G.s1 rfl (qm_x_getfI (v := ln) (hS 42 rfl) hl) ?_
    refine qm_G.s1 rfl (qm_x_icmp_ge_f ⟨by omega, by omega⟩ ⟨by omega, by omega⟩ (by omega)) ?_
    refine qm_G.s1 rfl (qm_x_pushI 10 rfl) ?_
    refine qm_G.s1 rfl (qm_x_iload rfl) ?_
    refine qm_G.s1 rfl (qm_x_imul) ?_
    refine qm_G.s1 rfl (qm_x_aload rfl) ?_
    refine qm_G.s1 rfl (qm_x_getfR (q := (some (0, 43, 0))) (hS 42 rfl) (hR 42 0 43 rfl rfl)) ?_
    refine qm_G.s1 rfl (qm_x_iload rfl) ?_
    have gT1 := (hK (a + n) (by omega)).2
    refine qm_G.s1 rfl (qm_x_bald (v := T (a + n)) (qm_arS hS rfl rfl) rfl (by omega) (by omega) (by decide) (by rw [show Int.toNat i = (a + n) by omega]; exact (hK (a + n) (by omega)).1) (by omega)) ?_
    refine qm_G.s1 rfl (qm_x_iadd) ?_
    refine qm_G.s1 rfl (qm_x_pushI 48 rfl) ?_
    refine qm_G.s1 rfl (qm_x_isub) ?_
    refine qm_G.s1 rfl (qm_x_istore (lv' := [(3, qm_I (qm_i (((10 * v) + (T (a + n))) - 48))), (0, qm_R (some (0, 42, 0))), (2, qm_I (qm_i g)), (4, qm_I (qm_i i))]) rfl) ?_
    refine qm_G.s1 rfl (qm_x_iinc (lv' := [(4, qm_I (qm_i (i + 1))), (3, qm_I (qm_i (((10 * v) + (T (a + n))) - 48))), (0, qm_R (some (0, 42, 0))), (2, qm_I (qm_i g))]) 1 rfl rfl rfl) ?_
    refine qm_G.s1 rfl (qm_x_goto) ?_
    refine qm_G.pk (lv1 := [(0, qm_R (some (0, 42, 0))), (2, qm_I (qm_i g)), (3, qm_I (qm_i (((10 * v) + (T (a + n))) - 48))), (4, qm_I (qm_i (i + 1)))]) rfl rfl rfl ?_
    exact ih (n + 1) _ _ (by rw [hv]; rfl) (by omega) (by omega)
theorem qm_d_num {S : List qm_Sh} {K : qm_J} {L : qm_Ct Int64} {D : qm_Ct UInt64} {R : qm_Ct (Option qm_Rf)} {X : Nat × (Nat → Int32)} {Q : Option qm_V → qm_Hp → Prop} {T : Nat → Int} {ln : Int} {J : qm_J} {x g : Int} {a : Nat} (hS : qm_Sd S) (hR : qm_Rd R) (hK : ∀ i, i < 100 → K 43 0 i = T i ∧ 0 ≤ T i ∧ T i ≤ 127) (rl : 0 ≤ ln ∧ ln ≤ 100) (hl : J 42 0 1 = ln) (ha : (a : Int) ≤ g ∧ g ≤ a + 4 ∧ g ≤ ln) (hd : ∀ j : Nat, a ≤ j → (j : Int) < g → 48 ≤ T j ∧ T j ≤ 57) (k : Q (some (qm_I (qm_i (qm_nu T a (Int.toNat g - a))))) (qm_H S J K L D R X)) (hx : x = (a : Int)) : qm_C qm_P 45 [qm_R (some (0, 42, 0)), qm_I (qm_i x), qm_I (qm_i g)] (qm_H S J K L D R X) Q := by
  refine qm_C.go (cd := qm_P45) (lv := [(0, qm_R (some (0, 42, 0))), (1, qm_I (qm_i x)), (2, qm_I (qm_i g))]) rfl rfl ?_
  refine qm_G.s1 rfl (qm_x_pushI 0 rfl) ?_
  refine qm_G.s1 rfl (qm_x_istore (lv' := [(3, qm_I (qm_i 0)), (0, qm_R (some (0, 42, 0))), (1, qm_I (qm_i x)), (2, qm_I (qm_i g))]) rfl) ?_
  refine qm_G.s1 rfl (qm_x_iload rfl) ?_
  refine qm_G.s1 rfl (qm_x_istore (lv' := [(4, qm_I (qm_i x)), (3, qm_I (qm_i 0)), (0, qm_R (some (0, 42, 0))), (1, qm_I (qm_i x)), (2, qm_I (qm_i g))]) rfl) ?_
  refine qm_G.pk (lv1 := [(0, qm_R (some (0, 42, 0))), (2, qm_I (qm_i g)), (3, qm_I (qm_i 0)), (4, qm_I (qm_i x))]) rfl rfl rfl ?_
  exact qm_d_nul hS hR hK rl hl ha hd k (Int.toNat g - a) 0 _ _ rfl (by omega) (by omega)
theorem qm_d_isa0 {S : List qm_Sh} {K : qm_J} {L : qm_Ct Int64} {D : qm_Ct UInt64} {R : qm_Ct (Option qm_Rf)} {X : Nat × (Nat → Int32)} {Q : Option qm_V → qm_Hp → Prop} {T : Nat → Int} {ln : Int} {J : qm_J} {x y : Int} {a e : Nat} (hS : qm_Sd S) (hR : qm_Rd R) (hK : ∀ i, i < 100 → K 43 0 i = T i ∧ 0 ≤ T i ∧ T i ≤ 127) (rl : 0 ≤ ln ∧ ln ≤ 100) (hx : x = (a : Int)) (hy : y = (e : Int)) (h1 : a ≤ e ∧ e ≤ 100) (k1 : qm_isw T a e 0 → Q (some (qm_I (qm_i 1))) (qm_H S J K L D R X)) (k0 : ¬ qm_isw T a e 0 → Q (some (qm_I (qm_i 0))) (qm_H S J K L D R X)) : qm_C qm_P 177 [qm_R (some (1, 5, 0)), qm_R (some (0, 43, 0)), qm_I (qm_i x), qm_I (qm_i y)] (qm_H S J K L D R X) Q := by
  refine qm_C.go (cd := qm_P177) (lv := [(0, qm_R (some (1, 5, 0))), (1, qm_R (some (0, 43, 0))), (2, qm_I (qm_i x)), (3, qm_I (qm_i y))]) rfl rfl ?_
  refine qm_G.s1 rfl (qm_x_iload rfl) ?_
  refine qm_G.s1 rfl (qm_x_if_lt_f ⟨by omega, by omega⟩ (by omega)) ?_
  refine qm_G.s1 rfl (qm_x_iload rfl) ?_
  refine qm_G.s1 rfl (qm_x_aload rfl) ?_
  refine qm_G.s1 rfl (qm_x_alen (hS 43 rfl) rfl) ?_
  refine qm_G.s1 rfl (qm_x_icmp_gt_f ⟨by omega, by omega⟩ ⟨by decide, by decide⟩ (by omega)) ?_
  refine qm_G.s1 rfl (qm_x_iload rfl) ?_
  refine qm_G.s1 rfl (qm_x_iload rfl) ?_
  refine qm_G.s1 rfl (qm_x_isub) ?_
  refine qm_G.s1 rfl (qm_x_aload rfl) ?_
  refine qm_G.s1 rfl (qm_x_getgR rfl rfl) ?_
  refine qm_G.call rfl rfl rfl ?_
  refine qm_C.go (cd := qm_P53) (lv := [(0, qm_R (some (1, 12, 0)))]) rfl rfl ?_
  refine qm_G.s1 rfl (qm_x_aload rfl) ?_
  refine qm_G.s1 rfl (qm_x_getgR rfl rfl) ?_
  refine qm_G.s1 rfl (qm_x_alen1 (len := 3) rfl) ?_
  refine qm_G.s1 rfl (qm_x_aload rfl) ?_
  refine qm_G.call rfl rfl rfl ?_
  refine qm_C.go (cd := qm_P0) (lv := [(0, qm_R (some (1, 12, 0)))]) rfl rfl ?_
  refine qm_G.s1 rfl (qm_x_pushI 1 rfl) ?_
  refine qm_G.s1 rfl (qm_x_if_eq_f ⟨by decide, by decide⟩ (by decide)) ?_
  refine qm_G.s1 rfl (qm_x_aload rfl) ?_
  refine qm_G.s1 rfl (qm_x_getgI (v := 0) rfl rfl) ?_
  refine qm_G.s1 rfl (qm_x_goto) ?_
  refine qm_G.ret rfl rfl ⟨_, rfl, ?_⟩
  refine qm_G.s1 rfl (qm_x_ishr0) ?_
  refine qm_G.ret rfl rfl ⟨_, rfl, ?_⟩
  refine qm_y_icmp_eq rfl ⟨by omega, by omega⟩ ⟨by decide, by decide⟩ (fun c1 => ?_) (fun c1 => ?_)
  · refine qm_G.sp (lv1 := [(0, qm_R (some (1, 5, 0))), (1, qm_R (some (0, 43, 0))), (2, qm_I (qm_i x)), (3, qm_I (qm_i y))]) rfl rfl (qm_x_iload rfl) ?_
    refine qm_G.s1 rfl (qm_x_istore (lv' := [(4, qm_I (qm_i x)), (0, qm_R (some (1, 5, 0))), (1, qm_R (some (0, 43, 0))), (2, qm_I (qm_i x)), (3, qm_I (qm_i y))]) rfl) ?_
    refine qm_G.sp (lv1 := [(0, qm_R (some (1, 5, 0))), (1, qm_R (some (0, 43, 0))), (2, qm_I (qm_i x)), (3, qm_I (qm_i y)), (4, qm_I (qm_i x))]) rfl rfl (qm_x_iload rfl) ?_
    refine qm_G.s1 rfl (qm_x_iload rfl) ?_
    refine qm_G.s1 rfl (qm_x_icmp_ge_f ⟨by omega, by omega⟩ ⟨by omega, by omega⟩ (by omega)) ?_
    refine qm_G.s1 rfl (qm_x_aload rfl) ?_
    refine qm_G.s1 rfl (qm_x_iload rfl) ?_
    have gT2 := (hK (a + 0) (by omega)).2
    refine qm_G.s1 rfl (qm_x_bald (v := T (a + 0)) (qm_arS hS rfl rfl) rfl (by omega) (by omega) (by decide) (by rw [show Int.toNat x = (a + 0) by omega]; exact (hK (a + 0) (by omega)).1) (by omega)) ?_
    refine qm_G.s1 rfl (qm_x_aload rfl) ?_
    refine qm_G.s1 rfl (qm_x_getgR rfl rfl) ?_
    refine qm_G.s1 rfl (qm_x_iload rfl) ?_
    refine qm_G.s1 rfl (qm_x_iload rfl) ?_
    refine qm_G.s1 rfl (qm_x_isub) ?_
    refine qm_G.call rfl rfl rfl ?_
    refine qm_C.go (cd := qm_P162) (lv := [(0, qm_R (some (1, 12, 0))), (1, qm_I (qm_i (x - x)))]) rfl rfl ?_
    refine qm_G.s1 rfl (qm_x_aload rfl) ?_
    refine qm_G.call rfl rfl rfl ?_
    refine qm_C.go (cd := qm_P1) (lv := [(0, qm_R (some (1, 12, 0)))]) rfl rfl ?_
    refine qm_G.s1 rfl (qm_x_pushI 1 rfl) ?_
    refine qm_G.s1 rfl (qm_x_if_eq_f ⟨by decide, by decide⟩ (by decide)) ?_
    refine qm_G.s1 rfl (qm_x_aload rfl) ?_
    refine qm_G.s1 rfl (qm_x_getgI (v := 0) rfl rfl) ?_
    refine qm_G.s1 rfl (qm_x_if_ne_f ⟨by decide, by decide⟩ (by decide)) ?_
    refine qm_G.s1 rfl (qm_x_pushI 1 rfl) ?_
    refine qm_G.s1 rfl (qm_x_goto) ?_
    refine qm_G.ret rfl rfl ⟨_, rfl, ?_⟩
    refine qm_G.s1 rfl (qm_x_if_eq_f ⟨by decide, by decide⟩ (by decide)) ?_
    refine qm_G.s1 rfl (qm_x_aload rfl) ?_
    refine qm_G.s1 rfl (qm_x_getgR rfl rfl) ?_
    refine qm_G.s1 rfl (qm_x_iload rfl) ?_
    refine qm_G.cs rfl rfl rfl ?_
    refine qm_C.go (cd := qm_P134) (lv := [(0, qm_R (some (1, 25, 0))), (1, qm_I (qm_i (x - x)))]) rfl rfl ?_
    refine qm_G.s1 rfl (qm_x_iload rfl) ?_
    refine qm_G.s1 rfl (qm_x_aload rfl) ?_
    refine qm_G.s1 rfl (qm_x_alen1 (len := 3) rfl) ?_
    refine qm_G.csv rfl rfl rfl ?_
    refine qm_C.go (cd := qm_P69) (lv := [(0, qm_I (qm_i (x - x))), (1, qm_I (qm_i 3))]) rfl rfl ?_
    refine qm_G.s1 rfl (qm_x_iload rfl) ?_
    refine qm_G.s1 rfl (qm_x_iload rfl) ?_
    refine qm_G.s1 rfl (show qm_St (qm_o_sio 5) _ _ _ _ _ (qm_R (qm_sio X) :: _) _ from rfl) ?_
    refine qm_G.cs rfl rfl rfl ?_
    refine qm_C.go (cd := qm_P3) (lv := [(0, qm_I (qm_i (x - x))), (1, qm_I (qm_i 3)), (2, qm_R ((qm_sio X)))]) rfl rfl ?_
    refine qm_G.s1 rfl (qm_x_iload rfl) ?_
    refine qm_G.s1 rfl (qm_x_if_lt_f ⟨by omega, by omega⟩ (by omega)) ?_
    refine qm_G.s1 rfl (qm_x_iload rfl) ?_
    refine qm_G.s1 rfl (qm_x_iload rfl) ?_
    refine qm_G.s1 rfl (qm_x_icmp_lt_t ⟨by omega, by omega⟩ ⟨by decide, by decide⟩ (by omega)) ?_
    refine qm_G.sp (lv1 := [(0, qm_I (qm_i (x - x)))]) rfl rfl (qm_x_iload rfl) ?_
    refine qm_G.ret rfl rfl ⟨_, rfl, ?_⟩
    refine qm_G.s1 rfl (qm_x_popI) ?_
    refine qm_G.retv rfl ⟨rfl, ?_⟩
    refine qm_G.s1 rfl (qm_x_aload rfl) ?_
    refine qm_G.s1 rfl (qm_x_iload rfl) ?_
    refine qm_G.s1 rfl (qm_x_bald1 (len := 3) (v := 98) rfl rfl (by omega) (by omega) (by rw [show Int.toNat (x - x) = 0 by omega]; rfl)) ?_
    refine qm_G.s1 rfl (qm_x_pushI 255 rfl) ?_
    refine qm_G.s1 rfl (qm_x_iand255 (by omega)) ?_
    refine qm_G.s1 rfl (qm_x_i2c (by omega)) ?_
    refine qm_G.ret rfl rfl ⟨_, rfl, ?_⟩
    refine qm_G.ret rfl rfl ⟨_, rfl, ?_⟩
    refine qm_y_icmp_eq rfl ⟨by omega, by omega⟩ ⟨by decide, by decide⟩ (fun c3 => ?_) (fun c3 => ?_)
    · refine qm_G.sp (lv1 := [(0, qm_R (some (1, 5, 0))), (1, qm_R (some (0, 43, 0))), (2, qm_I (qm_i x)), (3, qm_I (qm_i y)), (4, qm_I (qm_i x))]) rfl rfl (qm_x_iinc (lv' := [(4, qm_I (qm_i (x + 1))), (0, qm_R (some (1, 5, 0))), (1, qm_R (some (0, 43, 0))), (2, qm_I (qm_i x)), (3, qm_I (qm_i y))]) 1 rfl rfl rfl) ?_
      refine qm_G.s1 rfl (qm_x_goto) ?_
      refine qm_G.sp (lv1 := [(0, qm_R (some (1, 5, 0))), (1, qm_R (some (0, 43, 0))), (2, qm_I (qm_i x)), (3, qm_I (qm_i y)), (4, qm_I (qm_i (x + 1)))]) rfl rfl (qm_x_iload rfl) ?_
      refine qm_G.s1 rfl (qm_x_iload rfl) ?_
      refine qm_G.s1 rfl (qm_x_icmp_ge_f ⟨by omega, by omega⟩ ⟨by omega, by omega⟩ (by omega)) ?_
      refine qm_G.s1 rfl (qm_x_aload rfl) ?_
      refine qm_G.s1 rfl (qm_x_iload rfl) ?_
      have gT4 := (hK (a + 1) (by omega)).2
      refine qm_G.s1 rfl (qm_x_bald (v := T (a + 1)) (qm_arS hS rfl rfl) rfl (by omega) (by omega) (by decide) (by rw [show Int.toNat (x + 1) = (a + 1) by omega]; exact (hK (a + 1) (by omega)).1) (by omega)) ?_
      refine qm_G.s1 rfl (qm_x_aload rfl) ?_
      refine qm_G.s1 rfl (qm_x_getgR rfl rfl) ?_
      refine qm_G.s1 rfl (qm_x_iload rfl) ?_
      refine qm_G.s1 rfl (qm_x_iload rfl) ?_
      refine qm_G.s1 rfl (qm_x_isub) ?_
      refine qm_G.call rfl rfl rfl ?_
      refine qm_C.go (cd := qm_P162) (lv := [(0, qm_R (some (1, 12, 0))), (1, qm_I (qm_i ((x + 1) - x)))]) rfl rfl ?_
      refine qm_G.s1 rfl (qm_x_aload rfl) ?_
      refine qm_G.call rfl rfl rfl ?_
      refine qm_C.go (cd := qm_P1) (lv := [(0, qm_R (some (1, 12, 0)))]) rfl rfl ?_
      refine qm_G.s1 rfl (qm_x_pushI 1 rfl) ?_
      refine qm_G.s1 rfl (qm_x_if_eq_f ⟨by decide, by decide⟩ (by decide)) ?_
      refine qm_G.s1 rfl (qm_x_aload rfl) ?_
      refine qm_G.s1 rfl (qm_x_getgI (v := 0) rfl rfl) ?_
      refine qm_G.s1 rfl (qm_x_if_ne_f ⟨by decide, by decide⟩ (by decide)) ?_
      refine qm_G.s1 rfl (qm_x_pushI 1 rfl) ?_
      refine qm_G.s1 rfl (qm_x_goto) ?_
      refine qm_G.ret rfl rfl ⟨_, rfl, ?_⟩
      refine qm_G.s1 rfl (qm_x_if_eq_f ⟨by decide, by decide⟩ (by decide)) ?_
      refine qm_G.s1 rfl (qm_x_aload rfl) ?_
      refine qm_G.s1 rfl (qm_x_getgR rfl rfl) ?_
      refine qm_G.s1 rfl (qm_x_iload rfl) ?_
      refine qm_G.cs rfl rfl rfl ?_
      refine qm_C.go (cd := qm_P134) (lv := [(0, qm_R (some (1, 25, 0))), (1, qm_I (qm_i ((x + 1) - x)))]) rfl rfl ?_
      refine qm_G.s1 rfl (qm_x_iload rfl) ?_
      refine qm_G.s1 rfl (qm_x_aload rfl) ?_
      refine qm_G.s1 rfl (qm_x_alen1 (len := 3) rfl) ?_
      refine qm_G.csv rfl rfl rfl ?_
      refine qm_C.go (cd := qm_P69) (lv := [(0, qm_I (qm_i ((x + 1) - x))), (1, qm_I (qm_i 3))]) rfl rfl ?_
      refine qm_G.s1 rfl (qm_x_iload rfl) ?_
      refine qm_G.s1 rfl (qm_x_iload rfl) ?_
      refine qm_G.s1 rfl (show qm_St (qm_o_sio 5) _ _ _ _ _ (qm_R (qm_sio X) :: _) _ from rfl) ?_
      refine qm_G.cs rfl rfl rfl ?_
      refine qm_C.go (cd := qm_P3) (lv := [(0, qm_I (qm_i ((x + 1) - x))), (1, qm_I (qm_i 3)), (2, qm_R ((qm_sio X)))]) rfl rfl ?_
      refine qm_G.s1 rfl (qm_x_iload rfl) ?_
      refine qm_G.s1 rfl (qm_x_if_lt_f ⟨by omega, by omega⟩ (by omega)) ?_
      refine qm_G.s1 rfl (qm_x_iload rfl) ?_
      refine qm_G.s1 rfl (qm_x_iload rfl) ?_
      refine qm_G.s1 rfl (qm_x_icmp_lt_t ⟨by omega, by omega⟩ ⟨by decide, by decide⟩ (by omega)) ?_
      refine qm_G.sp (lv1 := [(0, qm_I (qm_i ((x + 1) - x)))]) rfl rfl (qm_x_iload rfl) ?_
      refine qm_G.ret rfl rfl ⟨_, rfl, ?_⟩
      refine qm_G.s1 rfl (qm_x_popI) ?_
      refine qm_G.retv rfl ⟨rfl, ?_⟩
      refine qm_G.s1 rfl (qm_x_aload rfl) ?_
      refine qm_G.s1 rfl (qm_x_iload rfl) ?_
      refine qm_G.s1 rfl (qm_x_bald1 (len := 3) (v := 105) rfl rfl (by omega) (by omega) (by rw [show Int.toNat ((x + 1) - x) = 1 by omega]; rfl)) ?_
      refine qm_G.s1 rfl (qm_x_pushI 255 rfl) ?_
      refine qm_G.s1 rfl (qm_x_iand255 (by omega)) ?_
      refine qm_G.s1 rfl (qm_x_i2c (by omega)) ?_
      refine qm_G.ret rfl rfl ⟨_, rfl, ?_⟩
      refine qm_G.ret rfl rfl ⟨_, rfl, ?_⟩
      refine qm_y_icmp_eq rfl ⟨by omega, by omega⟩ ⟨by decide, by decide⟩ (fun c5 => ?_) (fun c5 => ?_)
      · refine qm_G.sp (lv1 := [(0, qm_R (some (1, 5, 0))), (1, qm_R (some (0, 43, 0))), (2, qm_I (qm_i x)), (3, qm_I (qm_i y)), (4, qm_I (qm_i (x + 1)))]) rfl rfl (qm_x_iinc (lv' := [(4, qm_I (qm_i ((x + 1) + 1))), (0, qm_R (some (1, 5, 0))), (1, qm_R (some (0, 43, 0))), (2, qm_I (qm_i x)), (3, qm_I (qm_i y))]) 1 rfl rfl rfl) ?_
        refine qm_G.s1 rfl (qm_x_goto) ?_
        refine qm_G.sp (lv1 := [(0, qm_R (some (1, 5, 0))), (1, qm_R (some (0, 43, 0))), (2, qm_I (qm_i x)), (3, qm_I (qm_i y)), (4, qm_I (qm_i ((x + 1) + 1)))]) rfl rfl (qm_x_iload rfl) ?_
        refine qm_G.s1 rfl (qm_x_iload rfl) ?_
        refine qm_G.s1 rfl (qm_x_icmp_ge_f ⟨by omega, by omega⟩ ⟨by omega, by omega⟩ (by omega)) ?_
        refine qm_G.s1 rfl (qm_x_aload rfl) ?_
        refine qm_G.s1 rfl (qm_x_iload rfl) ?_
        have gT6 := (hK (a + 2) (by omega)).2
        refine qm_G.s1 rfl (qm_x_bald (v := T (a + 2)) (qm_arS hS rfl rfl) rfl (by omega) (by omega) (by decide) (by rw [show Int.toNat ((x + 1) + 1) = (a + 2) by omega]; exact (hK (a + 2) (by omega)).1) (by omega)) ?_
        refine qm_G.s1 rfl (qm_x_aload rfl) ?_
        refine qm_G.s1 rfl (qm_x_getgR rfl rfl) ?_
        refine qm_G.s1 rfl (qm_x_iload rfl) ?_
        refine qm_G.s1 rfl (qm_x_iload rfl) ?_
        refine qm_G.s1 rfl (qm_x_isub) ?_
        refine qm_G.call rfl rfl rfl ?_
        refine qm_C.go (cd := qm_P162) (lv := [(0, qm_R (some (1, 12, 0))), (1, qm_I (qm_i (((x + 1) + 1) - x)))]) rfl rfl ?_
        refine qm_G.s1 rfl (qm_x_aload rfl) ?_
        refine qm_G.call rfl rfl rfl ?_
        refine qm_C.go (cd := qm_P1) (lv := [(0, qm_R (some (1, 12, 0)))]) rfl rfl ?_
        refine qm_G.s1 rfl (qm_x_pushI 1 rfl) ?_
        refine qm_G.s1 rfl (qm_x_if_eq_f ⟨by decide, by decide⟩ (by decide)) ?_
        refine qm_G.s1 rfl (qm_x_aload rfl) ?_
        refine qm_G.s1 rfl (qm_x_getgI (v := 0) rfl rfl) ?_
        refine qm_G.s1 rfl (qm_x_if_ne_f ⟨by decide, by decide⟩ (by decide)) ?_
        refine qm_G.s1 rfl (qm_x_pushI 1 rfl) ?_
        refine qm_G.s1 rfl (qm_x_goto) ?_
        refine qm_G.ret rfl rfl ⟨_, rfl, ?_⟩
        refine qm_G.s1 rfl (qm_x_if_eq_f ⟨by decide, by decide⟩ (by decide)) ?_
        refine qm_G.s1 rfl (qm_x_aload rfl) ?_
        refine qm_G.s1 rfl (qm_x_getgR rfl rfl) ?_
        refine qm_G.s1 rfl (qm_x_iload rfl) ?_
        refine qm_G.cs rfl rfl rfl ?_
        refine qm_C.go (cd := qm_P134) (lv := [(0, qm_R (some (1, 25, 0))), (1, qm_I (qm_i (((x + 1) + 1) - x)))]) rfl rfl ?_
        refine qm_G.s1 rfl (qm_x_iload rfl) ?_
        refine qm_G.s1 rfl (qm_x_aload rfl) ?_
        refine qm_G.s1 rfl (qm_x_alen1 (len := 3) rfl) ?_
        refine qm_G.csv rfl rfl rfl ?_
        refine qm_C.go (cd := qm_P69) (lv := [(0, qm_I (qm_i (((x + 1) + 1) - x))), (1, qm_I (qm_i 3))]) rfl rfl ?_
        refine qm_G.s1 rfl (qm_x_iload rfl) ?_
        refine qm_G.s1 rfl (qm_x_iload rfl) ?_
        refine qm_G.s1 rfl (show qm_St (qm_o_sio 5) _ _ _ _ _ (qm_R (qm_sio X) :: _) _ from rfl) ?_
        refine qm_G.cs rfl rfl rfl ?_
        refine qm_C.go (cd := qm_P3) (lv := [(0, qm_I (qm_i (((x + 1) + 1) - x))), (1, qm_I (qm_i 3)), (2, qm_R ((qm_sio X)))]) rfl rfl ?_
        refine qm_G.s1 rfl (qm_x_iload rfl) ?_
        refine qm_G.s1 rfl (qm_x_if_lt_f ⟨by omega, by omega⟩ (by omega)) ?_
        refine qm_G.s1 rfl (qm_x_iload rfl) ?_
        refine qm_G.s1 rfl (qm_x_iload rfl) ?_
        refine qm_G.s1 rfl (qm_x_icmp_lt_t ⟨by omega, by omega⟩ ⟨by decide, by decide⟩ (by omega)) ?_
        refine qm_G.sp (lv1 := [(0, qm_I (qm_i (((x + 1) + 1) - x)))]) rfl rfl (qm_x_iload rfl) ?_
        refine qm_G.ret rfl rfl ⟨_, rfl, ?_⟩
        refine qm_G.s1 rfl (qm_x_popI) ?_
        refine qm_G.retv rfl ⟨rfl, ?_⟩
        refine qm_G.s1 rfl (qm_x_aload rfl) ?_
        refine qm_G.s1 rfl (qm_x_iload rfl) ?_
        refine qm_G.s1 rfl (qm_x_bald1 (len := 3) (v := 100) rfl rfl (by omega) (by omega) (by rw [show Int.toNat (((x + 1) + 1) - x) = 2 by omega]; rfl)) ?_
        refine qm_G.s1 rfl (qm_x_pushI 255 rfl) ?_
        refine qm_G.s1 rfl (qm_x_iand255 (by omega)) ?_
        refine qm_G.s1 rfl (qm_x_i2c (by omega)) ?_
        refine qm_G.ret rfl rfl ⟨_, rfl, ?_⟩
        refine qm_G.ret rfl rfl ⟨_, rfl, ?_⟩
        refine qm_y_icmp_eq rfl ⟨by omega, by omega⟩ ⟨by decide, by decide⟩ (fun c7 => ?_) (fun c7 => ?_)
        · refine qm_G.sp (lv1 := [(0, qm_R (some (1, 5, 0))), (1, qm_R (some (0, 43, 0))), (2, qm_I (qm_i x)), (3, qm_I (qm_i y)), (4, qm_I (qm_i ((x + 1) + 1)))]) rfl rfl (qm_x_iinc (lv' := [(4, qm_I (qm_i (((x + 1) + 1) + 1))), (0, qm_R (some (1, 5, 0))), (1, qm_R (some (0, 43, 0))), (2, qm_I (qm_i x)), (3, qm_I (qm_i y))]) 1 rfl rfl rfl) ?_
          refine qm_G.s1 rfl (qm_x_goto) ?_
          refine qm_G.sp (lv1 := [(0, qm_R (some (1, 5, 0))), (1, qm_R (some (0, 43, 0))), (2, qm_I (qm_i x)), (3, qm_I (qm_i y)), (4, qm_I (qm_i (((x + 1) + 1) + 1)))]) rfl rfl (qm_x_iload rfl) ?_
          refine qm_G.s1 rfl (qm_x_iload rfl) ?_
          refine qm_G.s1 rfl (qm_x_icmp_ge_t ⟨by omega, by omega⟩ ⟨by omega, by omega⟩ (by omega)) ?_
          refine qm_G.sp (lv1 := []) rfl rfl (qm_x_pushI 1 rfl) ?_
          refine qm_G.ret rfl rfl (k1 ?_)
          refine ⟨by show e = a + 3; omega, fun j hj => ?_⟩
          change j < 3 at hj
          rcases (show j = 0 ∨ j = 1 ∨ j = 2 by omega) with c9 | c9 | c9
          · subst c9; exact (show T (a + 0) = 98 by omega)
          · subst c9; exact (show T (a + 1) = 105 by omega)
          · subst c9; exact (show T (a + 2) = 100 by omega)
        · refine qm_G.s1 rfl (qm_x_pushI 0 rfl) ?_
          exact qm_G.ret rfl rfl (k0 (fun h => by have h9 : T (a + 2) = 100 := h.2 2 (by decide); omega))
      · refine qm_G.s1 rfl (qm_x_pushI 0 rfl) ?_
        exact qm_G.ret rfl rfl (k0 (fun h => by have h9 : T (a + 1) = 105 := h.2 1 (by decide); omega))
    · refine qm_G.s1 rfl (qm_x_pushI 0 rfl) ?_
      exact qm_G.ret rfl rfl (k0 (fun h => by have h9 : T (a + 0) = 98 := h.2 0 (by decide); omega))
  · refine qm_G.sp (lv1 := []) rfl rfl (qm_x_pushI 0 rfl) ?_
    exact qm_G.ret rfl rfl (k0 (fun h => by have h9 : e = a + 3 := h.1; omega))
theorem qm_d_isa1 {S : List qm_Sh} {K : qm_J} {L : qm_Ct Int64} {D : qm_Ct UInt64} {R : qm_Ct (Option qm_Rf)} {X : Nat × (Nat → Int32)} {Q : Option qm_V → qm_Hp → Prop} {T : Nat → Int} {ln : Int} {J : qm_J} {x y : Int} {a e : Nat} (hS : qm_Sd S) (hR : qm_Rd R) (hK : ∀ i, i < 100 → K 43 0 i = T i ∧ 0 ≤ T i ∧ T i ≤ 127) (rl : 0 ≤ ln ∧ ln ≤ 100) (hx : x = (a : Int)) (hy : y = (e : Int)) (h1 : a ≤ e ∧ e ≤ 100) (k1 : qm_isw T a e 1 → Q (some (qm_I (qm_i 1))) (qm_H S J K L D R X)) (k0 : ¬ qm_isw T a e 1 → Q (some (qm_I (qm_i 0))) (qm_H S J K L D R X)) : qm_C qm_P 177 [qm_R (some (1, 6, 0)), qm_R (some (0, 43, 0)), qm_I (qm_i x), qm_I (qm_i y)] (qm_H S J K L D R X) Q := by
  refine qm_C.go (cd := qm_P177) (lv := [(0, qm_R (some (1, 6, 0))), (1, qm_R (some (0, 43, 0))), (2, qm_I (qm_i x)), (3, qm_I (qm_i y))]) rfl rfl ?_
  refine qm_G.s1 rfl (qm_x_iload rfl) ?_
  refine qm_G.s1 rfl (qm_x_if_lt_f ⟨by omega, by omega⟩ (by omega)) ?_
  refine qm_G.s1 rfl (qm_x_iload rfl) ?_
  refine qm_G.s1 rfl (qm_x_aload rfl) ?_
  refine qm_G.s1 rfl (qm_x_alen (hS 43 rfl) rfl) ?_
  refine qm_G.s1 rfl (qm_x_icmp_gt_f ⟨by omega, by omega⟩ ⟨by decide, by decide⟩ (by omega)) ?_
  refine qm_G.s1 rfl (qm_x_iload rfl) ?_
  refine qm_G.s1 rfl (qm_x_iload rfl) ?_
  refine qm_G.s1 rfl (qm_x_isub) ?_
  refine qm_G.s1 rfl (qm_x_aload rfl) ?_
  refine qm_G.s1 rfl (qm_x_getgR rfl rfl) ?_
  refine qm_G.call rfl rfl rfl ?_
  refine qm_C.go (cd := qm_P53) (lv := [(0, qm_R (some (1, 13, 0)))]) rfl rfl ?_
  refine qm_G.s1 rfl (qm_x_aload rfl) ?_
  refine qm_G.s1 rfl (qm_x_getgR rfl rfl) ?_
  refine qm_G.s1 rfl (qm_x_alen1 (len := 3) rfl) ?_
  refine qm_G.s1 rfl (qm_x_aload rfl) ?_
  refine qm_G.call rfl rfl rfl ?_
  refine qm_C.go (cd := qm_P0) (lv := [(0, qm_R (some (1, 13, 0)))]) rfl rfl ?_
  refine qm_G.s1 rfl (qm_x_pushI 1 rfl) ?_
  refine qm_G.s1 rfl (qm_x_if_eq_f ⟨by decide, by decide⟩ (by decide)) ?_
  refine qm_G.s1 rfl (qm_x_aload rfl) ?_
  refine qm_G.s1 rfl (qm_x_getgI (v := 0) rfl rfl) ?_
  refine qm_G.s1 rfl (qm_x_goto) ?_
  refine qm_G.ret rfl rfl ⟨_, rfl, ?_⟩
  refine qm_G.s1 rfl (qm_x_ishr0) ?_
  refine qm_G.ret rfl rfl ⟨_, rfl, ?_⟩
  refine qm_y_icmp_eq rfl ⟨by omega, by omega⟩ ⟨by decide, by decide⟩ (fun c1 => ?_) (fun c1 => ?_)
  · refine qm_G.sp (lv1 := [(0, qm_R (some (1, 6, 0))), (1, qm_R (some (0, 43, 0))), (2, qm_I (qm_i x)), (3, qm_I (qm_i y))]) rfl rfl (qm_x_iload rfl) ?_
    refine qm_G.s1 rfl (qm_x_istore (lv' := [(4, qm_I (qm_i x)), (0, qm_R (some (1, 6, 0))), (1, qm_R (some (0, 43, 0))), (2, qm_I (qm_i x)), (3, qm_I (qm_i y))]) rfl) ?_
    refine qm_G.sp (lv1 := [(0, qm_R (some (1, 6, 0))), (1, qm_R (some (0, 43, 0))), (2, qm_I (qm_i x)), (3, qm_I (qm_i y)), (4, qm_I (qm_i x))]) rfl rfl (qm_x_iload rfl) ?_
    refine qm_G.s1 rfl (qm_x_iload rfl) ?_
    refine qm_G.s1 rfl (qm_x_icmp_ge_f ⟨by omega, by omega⟩ ⟨by omega, by omega⟩ (by omega)) ?_
    refine qm_G.s1 rfl (qm_x_aload rfl) ?_
    refine qm_G.s1 rfl (qm_x_iload rfl) ?_
    have gT2 := (hK (a + 0) (by omega)).2
    refine qm_G.s1 rfl (qm_x_bald (v := T (a + 0)) (qm_arS hS rfl rfl) rfl (by omega) (by omega) (by decide) (by rw [show Int.toNat x = (a + 0) by omega]; exact (hK (a + 0) (by omega)).1) (by omega)) ?_
    refine qm_G.s1 rfl (qm_x_aload rfl) ?_
    refine qm_G.s1 rfl (qm_x_getgR rfl rfl) ?_
    refine qm_G.s1 rfl (qm_x_iload rfl) ?_
    refine qm_G.s1 rfl (qm_x_iload rfl) ?_
    refine qm_G.s1 rfl (qm_x_isub) ?_
    refine qm_G.call rfl rfl rfl ?_
    refine qm_C.go (cd := qm_P162) (lv := [(0, qm_R (some (1, 13, 0))), (1, qm_I (qm_i (x - x)))]) rfl rfl ?_
    refine qm_G.s1 rfl (qm_x_aload rfl) ?_
    refine qm_G.call rfl rfl rfl ?_
    refine qm_C.go (cd := qm_P1) (lv := [(0, qm_R (some (1, 13, 0)))]) rfl rfl ?_
    refine qm_G.s1 rfl (qm_x_pushI 1 rfl) ?_
    refine qm_G.s1 rfl (qm_x_if_eq_f ⟨by decide, by decide⟩ (by decide)) ?_
    refine qm_G.s1 rfl (qm_x_aload rfl) ?_
    refine qm_G.s1 rfl (qm_x_getgI (v := 0) rfl rfl) ?_
    refine qm_G.s1 rfl (qm_x_if_ne_f ⟨by decide, by decide⟩ (by decide)) ?_
    refine qm_G.s1 rfl (qm_x_pushI 1 rfl) ?_
    refine qm_G.s1 rfl (qm_x_goto) ?_
    refine qm_G.ret rfl rfl ⟨_, rfl, ?_⟩
    refine qm_G.s1 rfl (qm_x_if_eq_f ⟨by decide, by decide⟩ (by decide)) ?_
    refine qm_G.s1 rfl (qm_x_aload rfl) ?_
    refine qm_G.s1 rfl (qm_x_getgR rfl rfl) ?_
    refine qm_G.s1 rfl (qm_x_iload rfl) ?_
    refine qm_G.cs rfl rfl rfl ?_
    refine qm_C.go (cd := qm_P134) (lv := [(0, qm_R (some (1, 26, 0))), (1, qm_I (qm_i (x - x)))]) rfl rfl ?_
    refine qm_G.s1 rfl (qm_x_iload rfl) ?_
    refine qm_G.s1 rfl (qm_x_aload rfl) ?_
    refine qm_G.s1 rfl (qm_x_alen1 (len := 3) rfl) ?_
    refine qm_G.csv rfl rfl rfl ?_
    refine qm_C.go (cd := qm_P69) (lv := [(0, qm_I (qm_i (x - x))), (1, qm_I (qm_i 3))]) rfl rfl ?_
    refine qm_G.s1 rfl (qm_x_iload rfl) ?_
    refine qm_G.s1 rfl (qm_x_iload rfl) ?_
    refine qm_G.s1 rfl (show qm_St (qm_o_sio 5) _ _ _ _ _ (qm_R (qm_sio X) :: _) _ from rfl) ?_
    refine qm_G.cs rfl rfl rfl ?_
    refine qm_C.go (cd := qm_P3) (lv := [(0, qm_I (qm_i (x - x))), (1, qm_I (qm_i 3)), (2, qm_R ((qm_sio X)))]) rfl rfl ?_
    refine qm_G.s1 rfl (qm_x_iload rfl) ?_
    refine qm_G.s1 rfl (qm_x_if_lt_f ⟨by omega, by omega⟩ (by omega)) ?_
    refine qm_G.s1 rfl (qm_x_iload rfl) ?_
    refine qm_G.s1 rfl (qm_x_iload rfl) ?_
    refine qm_G.s1 rfl (qm_x_icmp_lt_t ⟨by omega, by omega⟩ ⟨by decide, by decide⟩ (by omega)) ?_
    refine qm_G.sp (lv1 := [(0, qm_I (qm_i (x - x)))]) rfl rfl (qm_x_iload rfl) ?_
    refine qm_G.ret rfl rfl ⟨_, rfl, ?_⟩
    refine qm_G.s1 rfl (qm_x_popI) ?_
    refine qm_G.retv rfl ⟨rfl, ?_⟩
    refine qm_G.s1 rfl (qm_x_aload rfl) ?_
    refine qm_G.s1 rfl (qm_x_iload rfl) ?_
    refine qm_G.s1 rfl (qm_x_bald1 (len := 3) (v := 97) rfl rfl (by omega) (by omega) (by rw [show Int.toNat (x - x) = 0 by omega]; rfl)) ?_
    refine qm_G.s1 rfl (qm_x_pushI 255 rfl) ?_
    refine qm_G.s1 rfl (qm_x_iand255 (by omega)) ?_
    refine qm_G.s1 rfl (qm_x_i2c (by omega)) ?_
    refine qm_G.ret rfl rfl ⟨_, rfl, ?_⟩
    refine qm_G.ret rfl rfl ⟨_, rfl, ?_⟩
    refine qm_y_icmp_eq rfl ⟨by omega, by omega⟩ ⟨by decide, by decide⟩ (fun c3 => ?_) (fun c3 => ?_)
    · refine qm_G.sp (lv1 := [(0, qm_R (some (1, 6, 0))), (1, qm_R (some (0, 43, 0))), (2, qm_I (qm_i x)), (3, qm_I (qm_i y)), (4, qm_I (qm_i x))]) rfl rfl (qm_x_iinc (lv' := [(4, qm_I (qm_i (x + 1))), (0, qm_R (some (1, 6, 0))), (1, qm_R (some (0, 43, 0))), (2, qm_I (qm_i x)), (3, qm_I (qm_i y))]) 1 rfl rfl rfl) ?_
      refine qm_G.s1 rfl (qm_x_goto) ?_
      refine qm_G.sp (lv1 := [(0, qm_R (some (1, 6, 0))), (1, qm_R (some (0, 43, 0))), (2, qm_I (qm_i x)), (3, qm_I (qm_i y)), (4, qm_I (qm_i (x + 1)))]) rfl rfl (qm_x_iload rfl) ?_
      refine qm_G.s1 rfl (qm_x_iload rfl) ?_
      refine qm_G.s1 rfl (qm_x_icmp_ge_f ⟨by omega, by omega⟩ ⟨by omega, by omega⟩ (by omega)) ?_
      refine qm_G.s1 rfl (qm_x_aload rfl) ?_
      refine qm_G.s1 rfl (qm_x_iload rfl) ?_
      have gT4 := (hK (a + 1) (by omega)).2
      refine qm_G.s1 rfl (qm_x_bald (v := T (a + 1)) (qm_arS hS rfl rfl) rfl (by omega) (by omega) (by decide) (by rw [show Int.toNat (x + 1) = (a + 1) by omega]; exact (hK (a + 1) (by omega)).1) (by omega)) ?_
      refine qm_G.s1 rfl (qm_x_aload rfl) ?_
      refine qm_G.s1 rfl (qm_x_getgR rfl rfl) ?_
      refine qm_G.s1 rfl (qm_x_iload rfl) ?_
      refine qm_G.s1 rfl (qm_x_iload rfl) ?_
      refine qm_G.s1 rfl (qm_x_isub) ?_
      refine qm_G.call rfl rfl rfl ?_
      refine qm_C.go (cd := qm_P162) (lv := [(0, qm_R (some (1, 13, 0))), (1, qm_I (qm_i ((x + 1) - x)))]) rfl rfl ?_
      refine qm_G.s1 rfl (qm_x_aload rfl) ?_
      refine qm_G.call rfl rfl rfl ?_
      refine qm_C.go (cd := qm_P1) (lv := [(0, qm_R (some (1, 13, 0)))]) rfl rfl ?_
      refine qm_G.s1 rfl (qm_x_pushI 1 rfl) ?_
      refine qm_G.s1 rfl (qm_x_if_eq_f ⟨by decide, by decide⟩ (by decide)) ?_
      refine qm_G.s1 rfl (qm_x_aload rfl) ?_
      refine qm_G.s1 rfl (qm_x_getgI (v := 0) rfl rfl) ?_
      refine qm_G.s1 rfl (qm_x_if_ne_f ⟨by decide, by decide⟩ (by decide)) ?_
      refine qm_G.s1 rfl (qm_x_pushI 1 rfl) ?_
      refine qm_G.s1 rfl (qm_x_goto) ?_
      refine qm_G.ret rfl rfl ⟨_, rfl, ?_⟩
      refine qm_G.s1 rfl (qm_x_if_eq_f ⟨by decide, by decide⟩ (by decide)) ?_
      refine qm_G.s1 rfl (qm_x_aload rfl) ?_
      refine qm_G.s1 rfl (qm_x_getgR rfl rfl) ?_
      refine qm_G.s1 rfl (qm_x_iload rfl) ?_
      refine qm_G.cs rfl rfl rfl ?_
      refine qm_C.go (cd := qm_P134) (lv := [(0, qm_R (some (1, 26, 0))), (1, qm_I (qm_i ((x + 1) - x)))]) rfl rfl ?_
      refine qm_G.s1 rfl (qm_x_iload rfl) ?_
      refine qm_G.s1 rfl (qm_x_aload rfl) ?_
      refine qm_G.s1 rfl (qm_x_alen1 (len := 3) rfl) ?_
      refine qm_G.csv rfl rfl rfl ?_
      refine qm_C.go (cd := qm_P69) (lv := [(0, qm_I (qm_i ((x + 1) - x))), (1, qm_I (qm_i 3))]) rfl rfl ?_
      refine qm_G.s1 rfl (qm_x_iload rfl) ?_
      refine qm_G.s1 rfl (qm_x_iload rfl) ?_
      refine qm_G.s1 rfl (show qm_St (qm_o_sio 5) _ _ _ _ _ (qm_R (qm_sio X) :: _) _ from rfl) ?_
      refine qm_G.cs rfl rfl rfl ?_
      refine qm_C.go (cd := qm_P3) (lv := [(0, qm_I (qm_i ((x + 1) - x))), (1, qm_I (qm_i 3)), (2, qm_R ((qm_sio X)))]) rfl rfl ?_
      refine qm_G.s1 rfl (qm_x_iload rfl) ?_
      refine qm_G.s1 rfl (qm_x_if_lt_f ⟨by omega, by omega⟩ (by omega)) ?_
      refine qm_G.s1 rfl (qm_x_iload rfl) ?_
      refine qm_G.s1 rfl (qm_x_iload rfl) ?_
      refine qm_G.s1 rfl (qm_x_icmp_lt_t ⟨by omega, by omega⟩ ⟨by decide, by decide⟩ (by omega)) ?_
      refine qm_G.sp (lv1 := [(0, qm_I (qm_i ((x + 1) - x)))]) rfl rfl (qm_x_iload rfl) ?_
      refine qm_G.ret rfl rfl ⟨_, rfl, ?_⟩
      refine qm_G.s1 rfl (qm_x_popI) ?_
      refine qm_G.retv rfl ⟨rfl, ?_⟩
      refine qm_G.s1 rfl (qm_x_aload rfl) ?_
      refine qm_G.s1 rfl (qm_x_iload rfl) ?_
      refine qm_G.s1 rfl (qm_x_bald1 (len := 3) (v := 115) rfl rfl (by omega) (by omega) (by rw [show Int.toNat ((x + 1) - x) = 1 by omega]; rfl)) ?_
      refine qm_G.s1 rfl (qm_x_pushI 255 rfl) ?_
      refine qm_G.s1 rfl (qm_x_iand255 (by omega)) ?_
      refine qm_G.s1 rfl (qm_x_i2c (by omega)) ?_
      refine qm_G.ret rfl rfl ⟨_, rfl, ?_⟩
      refine qm_G.ret rfl rfl ⟨_, rfl, ?_⟩
      refine qm_y_icmp_eq rfl ⟨by omega, by omega⟩ ⟨by decide, by decide⟩ (fun c5 => ?_) (fun c5 => ?_)
      · refine qm_G.sp (lv1 := [(0, qm_R (some (1, 6, 0))), (1, qm_R (some (0, 43, 0))), (2, qm_I (qm_i x)), (3, qm_I (qm_i y)), (4, qm_I (qm_i (x + 1)))]) rfl rfl (qm_x_iinc (lv' := [(4, qm_I (qm_i ((x + 1) + 1))), (0, qm_R (some (1, 6, 0))), (1, qm_R (some (0, 43, 0))), (2, qm_I (qm_i x)), (3, qm_I (qm_i y))]) 1 rfl rfl rfl) ?_
        refine qm_G.s1 rfl (qm_x_goto) ?_
        refine qm_G.sp (lv1 := [(0, qm_R (some (1, 6, 0))), (1, qm_R (some (0, 43, 0))), (2, qm_I (qm_i x)), (3, qm_I (qm_i y)), (4, qm_I (qm_i ((x + 1) + 1)))]) rfl rfl (qm_x_iload rfl) ?_
        refine qm_G.s1 rfl (qm_x_iload rfl) ?_
        refine qm_G.s1 rfl (qm_x_icmp_ge_f ⟨by omega, by omega⟩ ⟨by omega, by omega⟩ (by omega)) ?_
        refine qm_G.s1 rfl (qm_x_aload rfl) ?_
        refine qm_G.s1 rfl (qm_x_iload rfl) ?_
        have gT6 := (hK (a + 2) (by omega)).2
        refine qm_G.s1 rfl (qm_x_bald (v := T (a + 2)) (qm_arS hS rfl rfl) rfl (by omega) (by omega) (by decide) (by rw [show Int.toNat ((x + 1) + 1) = (a + 2) by omega]; exact (hK (a + 2) (by omega)).1) (by omega)) ?_
        refine qm_G.s1 rfl (qm_x_aload rfl) ?_
        refine qm_G.s1 rfl (qm_x_getgR rfl rfl) ?_
        refine qm_G.s1 rfl (qm_x_iload rfl) ?_
        refine qm_G.s1 rfl (qm_x_iload rfl) ?_
        refine qm_G.s1 rfl (qm_x_isub) ?_
        refine qm_G.call rfl rfl rfl ?_
        refine qm_C.go (cd := qm_P162) (lv := [(0, qm_R (some (1, 13, 0))), (1, qm_I (qm_i (((x + 1) + 1) - x)))]) rfl rfl ?_
        refine qm_G.s1 rfl (qm_x_aload rfl) ?_
        refine qm_G.call rfl rfl rfl ?_
        refine qm_C.go (cd := qm_P1) (lv := [(0, qm_R (some (1, 13, 0)))]) rfl rfl ?_
        refine qm_G.s1 rfl (qm_x_pushI 1 rfl) ?_
        refine qm_G.s1 rfl (qm_x_if_eq_f ⟨by decide, by decide⟩ (by decide)) ?_
        refine qm_G.s1 rfl (qm_x_aload rfl) ?_
        refine qm_G.s1 rfl (qm_x_getgI (v := 0) rfl rfl) ?_
        refine qm_G.s1 rfl (qm_x_if_ne_f ⟨by decide, by decide⟩ (by decide)) ?_
        refine qm_G.s1 rfl (qm_x_pushI 1 rfl) ?_
        refine qm_G.s1 rfl (qm_x_goto) ?_
        refine qm_G.ret rfl rfl ⟨_, rfl, ?_⟩
        refine qm_G.s1 rfl (qm_x_if_eq_f ⟨by decide, by decide⟩ (by decide)) ?_
        refine qm_G.s1 rfl (qm_x_aload rfl) ?_
        refine qm_G.s1 rfl (qm_x_getgR rfl rfl) ?_
        refine qm_G.s1 rfl (qm_x_iload rfl) ?_
        refine qm_G.cs rfl rfl rfl ?_
        refine qm_C.go (cd := qm_P134) (lv := [(0, qm_R (some (1, 26, 0))), (1, qm_I (qm_i (((x + 1) + 1) - x)))]) rfl rfl ?_
        refine qm_G.s1 rfl (qm_x_iload rfl) ?_
        refine qm_G.s1 rfl (qm_x_aload rfl) ?_
        refine qm_G.s1 rfl (qm_x_alen1 (len := 3) rfl) ?_
        refine qm_G.csv rfl rfl rfl ?_
        refine qm_C.go (cd := qm_P69) (lv := [(0, qm_I (qm_i (((x + 1) + 1) - x))), (1, qm_I (qm_i 3))]) rfl rfl ?_
        refine qm_G.s1 rfl (qm_x_iload rfl) ?_
        refine qm_G.s1 rfl (qm_x_iload rfl) ?_
        refine qm_G.s1 rfl (show qm_St (qm_o_sio 5) _ _ _ _ _ (qm_R (qm_sio X) :: _) _ from rfl) ?_
        refine qm_G.cs rfl rfl rfl ?_
        refine qm_C.go (cd := qm_P3) (lv := [(0, qm_I (qm_i (((x + 1) + 1) - x))), (1, qm_I (qm_i 3)), (2, qm_R ((qm_sio X)))]) rfl rfl ?_
        refine qm_G.s1 rfl (qm_x_iload rfl) ?_
        refine qm_G.s1 rfl (qm_x_if_lt_f ⟨by omega, by omega⟩ (by omega)) ?_
        refine qm_G.s1 rfl (qm_x_iload rfl) ?_
        refine qm_G.s1 rfl (qm_x_iload rfl) ?_
        refine qm_G.s1 rfl (qm_x_icmp_lt_t ⟨by omega, by omega⟩ ⟨by decide, by decide⟩ (by omega)) ?_
        refine qm_G.sp (lv1 := [(0, qm_I (qm_i (((x + 1) + 1) - x)))]) rfl rfl (qm_x_iload rfl) ?_
        refine qm_G.ret rfl rfl ⟨_, rfl, ?_⟩
        refine qm_G.s1 rfl (qm_x_popI) ?_
        refine qm_G.retv rfl ⟨rfl, ?_⟩
        refine qm_G.s1 rfl (qm_x_aload rfl) ?_
        refine qm_G.s1 rfl (qm_x_iload rfl) ?_
        refine qm_G.s1 rfl (qm_x_bald1 (len := 3) (v := 107) rfl rfl (by omega) (by omega) (by rw [show Int.toNat (((x + 1) + 1) - x) = 2 by omega]; rfl)) ?_
        refine qm_G.s1 rfl (qm_x_pushI 255 rfl) ?_
        refine qm_G.s1 rfl (qm_x_iand255 (by omega)) ?_
        refine qm_G.s1 rfl (qm_x_i2c (by omega)) ?_
        refine qm_G.ret rfl rfl ⟨_, rfl, ?_⟩
        refine qm_G.ret rfl rfl ⟨_, rfl, ?_⟩
        refine qm_y_icmp_eq rfl ⟨by omega, by omega⟩ ⟨by decide, by decide⟩ (fun c7 => ?_) (fun c7 => ?_)
        · refine qm_G.sp (lv1 := [(0, qm_R (some (1, 6, 0))), (1, qm_R (some (0, 43, 0))), (2, qm_I (qm_i x)), (3, qm_I (qm_i y)), (4, qm_I (qm_i ((x + 1) + 1)))]) rfl rfl (qm_x_iinc (lv' := [(4, qm_I (qm_i (((x + 1) + 1) + 1))), (0, qm_R (some (1, 6, 0))), (1, qm_R (some (0, 43, 0))), (2, qm_I (qm_i x)), (3, qm_I (qm_i y))]) 1 rfl rfl rfl) ?_
          refine qm_G.s1 rfl (qm_x_goto) ?_
          refine qm_G.sp (lv1 := [(0, qm_R (some (1, 6, 0))), (1, qm_R (some (0, 43, 0))), (2, qm_I (qm_i x)), (3, qm_I (qm_i y)), (4, qm_I (qm_i (((x + 1) + 1) + 1)))]) rfl rfl (qm_x_iload rfl) ?_
          refine qm_G.s1 rfl (qm_x_iload rfl) ?_
          refine qm_G.s1 rfl (qm_x_icmp_ge_t ⟨by omega, by omega⟩ ⟨by omega, by omega⟩ (by omega)) ?_
          refine qm_G.sp (lv1 := []) rfl rfl (qm_x_pushI 1 rfl) ?_
          refine qm_G.ret rfl rfl (k1 ?_)
          refine ⟨by show e = a + 3; omega, fun j hj => ?_⟩
          change j < 3 at hj
          rcases (show j = 0 ∨ j = 1 ∨ j = 2 by omega) with c9 | c9 | c9
          · subst c9; exact (show T (a + 0) = 97 by omega)
          · subst c9; exact (show T (a + 1) = 115 by omega)
          · subst c9; exact (show T (a + 2) = 107 by omega)
        · refine qm_G.s1 rfl (qm_x_pushI 0 rfl) ?_
          exact qm_G.ret rfl rfl (k0 (fun h => by have h9 : T (a + 2) = 107 := h.2 2 (by decide); omega))
      · refine qm_G.s1 rfl (qm_x_pushI 0 rfl) ?_
        exact qm_G.ret rfl rfl (k0 (fun h => by have h9 : T (a + 1) = 115 := h.2 1 (by decide); omega))
    · refine qm_G.s1 rfl (qm_x_pushI 0 rfl) ?_
      exact qm_G.ret rfl rfl (k0 (fun h => by have h9 : T (a + 0) = 97 := h.2 0 (by decide); omega))
  · refine qm_G.sp (lv1 := []) rfl rfl (qm_x_pushI 0 rfl) ?_
    exact qm_G.ret rfl rfl (k0 (fun h => by have h9 : e = a + 3 := h.1; omega))
theorem qm_d_isa2 {S : List qm_Sh} {K : qm_J} {L : qm_Ct Int64} {D : qm_Ct UInt64} {R : qm_Ct (Option qm_Rf)} {X : Nat × (Nat → Int32)} {Q : Option qm_V → qm_Hp → Prop} {T : Nat → Int} {ln : Int} {J : qm_J} {x y : Int} {a e : Nat} (hS : qm_Sd S) (hR : qm_Rd R) (hK : ∀ i, i < 100 → K 43 0 i = T i ∧ 0 ≤ T i ∧ T i ≤ 127) (rl : 0 ≤ ln ∧ ln ≤ 100) (hx : x = (a : Int)) (hy : y = (e : Int)) (h1 : a ≤ e ∧ e ≤ 100) (k1 : qm_isw T a e 2 → Q (some (qm_I (qm_i 1))) (qm_H S J K L D R X)) (k0 : ¬ qm_isw T a e 2 → Q (some (qm_I (qm_i 0))) (qm_H S J K L D R X)) : qm_C qm_P 177 [qm_R (some (1, 7, 0)), qm_R (some (0, 43, 0)), qm_I (qm_i x), qm_I (qm_i y)] (qm_H S J K L D R X) Q := by
  refine qm_C.go (cd := qm_P177) (lv := [(0, qm_R (some (1, 7, 0))), (1, qm_R (some (0, 43, 0))), (2, qm_I (qm_i x)), (3, qm_I (qm_i y))]) rfl rfl ?_
  refine qm_G.s1 rfl (qm_x_iload rfl) ?_
  refine qm_G.s1 rfl (qm_x_if_lt_f ⟨by omega, by omega⟩ (by omega)) ?_
  refine qm_G.s1 rfl (qm_x_iload rfl) ?_
  refine qm_G.s1 rfl (qm_x_aload rfl) ?_
  refine qm_G.s1 rfl (qm_x_alen (hS 43 rfl) rfl) ?_
  refine qm_G.s1 rfl (qm_x_icmp_gt_f ⟨by omega, by omega⟩ ⟨by decide, by decide⟩ (by omega)) ?_
  refine qm_G.s1 rfl (qm_x_iload rfl) ?_
  refine qm_G.s1 rfl (qm_x_iload rfl) ?_
  refine qm_G.s1 rfl (qm_x_isub) ?_
  refine qm_G.s1 rfl (qm_x_aload rfl) ?_
  refine qm_G.s1 rfl (qm_x_getgR rfl rfl) ?_
  refine qm_G.call rfl rfl rfl ?_
  refine qm_C.go (cd := qm_P53) (lv := [(0, qm_R (some (1, 14, 0)))]) rfl rfl ?_
  refine qm_G.s1 rfl (qm_x_aload rfl) ?_
  refine qm_G.s1 rfl (qm_x_getgR rfl rfl) ?_
  refine qm_G.s1 rfl (qm_x_alen1 (len := 3) rfl) ?_
  refine qm_G.s1 rfl (qm_x_aload rfl) ?_
  refine qm_G.call rfl rfl rfl ?_
  refine qm_C.go (cd := qm_P0) (lv := [(0, qm_R (some (1, 14, 0)))]) rfl rfl ?_
  refine qm_G.s1 rfl (qm_x_pushI 1 rfl) ?_
  refine qm_G.s1 rfl (qm_x_if_eq_f ⟨by decide, by decide⟩ (by decide)) ?_
  refine qm_G.s1 rfl (qm_x_aload rfl) ?_
  refine qm_G.s1 rfl (qm_x_getgI (v := 0) rfl rfl) ?_
  refine qm_G.s1 rfl (qm_x_goto) ?_
  refine qm_G.ret rfl rfl ⟨_, rfl, ?_⟩
  refine qm_G.s1 rfl (qm_x_ishr0) ?_
  refine qm_G.ret rfl rfl ⟨_, rfl, ?_⟩
  refine qm_y_icmp_eq rfl ⟨by omega, by omega⟩ ⟨by decide, by decide⟩ (fun c1 => ?_) (fun c1 => ?_)
  · refine qm_G.sp (lv1 := [(0, qm_R (some (1, 7, 0))), (1, qm_R (some (0, 43, 0))), (2, qm_I (qm_i x)), (3, qm_I (qm_i y))]) rfl rfl (qm_x_iload rfl) ?_
    refine qm_G.s1 rfl (qm_x_istore (lv' := [(4, qm_I (qm_i x)), (0, qm_R (some (1, 7, 0))), (1, qm_R (some (0, 43, 0))), (2, qm_I (qm_i x)), (3, qm_I (qm_i y))]) rfl) ?_
    refine qm_G.sp (lv1 := [(0, qm_R (some (1, 7, 0))), (1, qm_R (some (0, 43, 0))), (2, qm_I (qm_i x)), (3, qm_I (qm_i y)), (4, qm_I (qm_i x))]) rfl rfl (qm_x_iload rfl) ?_
    refine qm_G.s1 rfl (qm_x_iload rfl) ?_
    refine qm_G.s1 rfl (qm_x_icmp_ge_f ⟨by omega, by omega⟩ ⟨by omega, by omega⟩ (by omega)) ?_
    refine qm_G.s1 rfl (qm_x_aload rfl) ?_
    refine qm_G.s1 rfl (qm_x_iload rfl) ?_
    have gT2 := (hK (a + 0) (by omega)).2
    refine qm_G.s1 rfl (qm_x_bald (v := T (a + 0)) (qm_arS hS rfl rfl) rfl (by omega) (by omega) (by decide) (by rw [show Int.toNat x = (a + 0) by omega]; exact (hK (a + 0) (by omega)).1) (by omega)) ?_
    refine qm_G.s1 rfl (qm_x_aload rfl) ?_
    refine qm_G.s1 rfl (qm_x_getgR rfl rfl) ?_
    refine qm_G.s1 rfl (qm_x_iload rfl) ?_
    refine qm_G.s1 rfl (qm_x_iload rfl) ?_
    refine qm_G.s1 rfl (qm_x_isub) ?_
    refine qm_G.call rfl rfl rfl ?_
    refine qm_C.go (cd := qm_P162) (lv := [(0, qm_R (some (1, 14, 0))), (1, qm_I (qm_i (x - x)))]) rfl rfl ?_
    refine qm_G.s1 rfl (qm_x_aload rfl) ?_
    refine qm_G.call rfl rfl rfl ?_
    refine qm_C.go (cd := qm_P1) (lv := [(0, qm_R (some (1, 14, 0)))]) rfl rfl ?_
    refine qm_G.s1 rfl (qm_x_pushI 1 rfl) ?_
    refine qm_G.s1 rfl (qm_x_if_eq_f ⟨by decide, by decide⟩ (by decide)) ?_
    refine qm_G.s1 rfl (qm_x_aload rfl) ?_
    refine qm_G.s1 rfl (qm_x_getgI (v := 0) rfl rfl) ?_
    refine qm_G.s1 rfl (qm_x_if_ne_f ⟨by decide, by decide⟩ (by decide)) ?_
    refine qm_G.s1 rfl (qm_x_pushI 1 rfl) ?_
    refine qm_G.s1 rfl (qm_x_goto) ?_
    refine qm_G.ret rfl rfl ⟨_, rfl, ?_⟩
    refine qm_G.s1 rfl (qm_x_if_eq_f ⟨by decide, by decide⟩ (by decide)) ?_
    refine qm_G.s1 rfl (qm_x_aload rfl) ?_
    refine qm_G.s1 rfl (qm_x_getgR rfl rfl) ?_
    refine qm_G.s1 rfl (qm_x_iload rfl) ?_
    refine qm_G.cs rfl rfl rfl ?_
    refine qm_C.go (cd := qm_P134) (lv := [(0, qm_R (some (1, 27, 0))), (1, qm_I (qm_i (x - x)))]) rfl rfl ?_
    refine qm_G.s1 rfl (qm_x_iload rfl) ?_
    refine qm_G.s1 rfl (qm_x_aload rfl) ?_
    refine qm_G.s1 rfl (qm_x_alen1 (len := 3) rfl) ?_
    refine qm_G.csv rfl rfl rfl ?_
    refine qm_C.go (cd := qm_P69) (lv := [(0, qm_I (qm_i (x - x))), (1, qm_I (qm_i 3))]) rfl rfl ?_
    refine qm_G.s1 rfl (qm_x_iload rfl) ?_
    refine qm_G.s1 rfl (qm_x_iload rfl) ?_
    refine qm_G.s1 rfl (show qm_St (qm_o_sio 5) _ _ _ _ _ (qm_R (qm_sio X) :: _) _ from rfl) ?_
    refine qm_G.cs rfl rfl rfl ?_
    refine qm_C.go (cd := qm_P3) (lv := [(0, qm_I (qm_i (x - x))), (1, qm_I (qm_i 3)), (2, qm_R ((qm_sio X)))]) rfl rfl ?_
    refine qm_G.s1 rfl (qm_x_iload rfl) ?_
    refine qm_G.s1 rfl (qm_x_if_lt_f ⟨by omega, by omega⟩ (by omega)) ?_
    refine qm_G.s1 rfl (qm_x_iload rfl) ?_
    refine qm_G.s1 rfl (qm_x_iload rfl) ?_
    refine qm_G.s1 rfl (qm_x_icmp_lt_t ⟨by omega, by omega⟩ ⟨by decide, by decide⟩ (by omega)) ?_
    refine qm_G.sp (lv1 := [(0, qm_I (qm_i (x - x)))]) rfl rfl (qm_x_iload rfl) ?_
    refine qm_G.ret rfl rfl ⟨_, rfl, ?_⟩
    refine qm_G.s1 rfl (qm_x_popI) ?_
    refine qm_G.retv rfl ⟨rfl, ?_⟩
    refine qm_G.s1 rfl (qm_x_aload rfl) ?_
    refine qm_G.s1 rfl (qm_x_iload rfl) ?_
    refine qm_G.s1 rfl (qm_x_bald1 (len := 3) (v := 104) rfl rfl (by omega) (by omega) (by rw [show Int.toNat (x - x) = 0 by omega]; rfl)) ?_
    refine qm_G.s1 rfl (qm_x_pushI 255 rfl) ?_
    refine qm_G.s1 rfl (qm_x_iand255 (by omega)) ?_
    refine qm_G.s1 rfl (qm_x_i2c (by omega)) ?_
    refine qm_G.ret rfl rfl ⟨_, rfl, ?_⟩
    refine qm_G.ret rfl rfl ⟨_, rfl, ?_⟩
    refine qm_y_icmp_eq rfl ⟨by omega, by omega⟩ ⟨by decide, by decide⟩ (fun c3 => ?_) (fun c3 => ?_)
    · refine qm_G.sp (lv1 := [(0, qm_R (some (1, 7, 0))), (1, qm_R (some (0, 43, 0))), (2, qm_I (qm_i x)), (3, qm_I (qm_i y)), (4, qm_I (qm_i x))]) rfl rfl (qm_x_iinc (lv' := [(4, qm_I (qm_i (x + 1))), (0, qm_R (some (1, 7, 0))), (1, qm_R (some (0, 43, 0))), (2, qm_I (qm_i x)), (3, qm_I (qm_i y))]) 1 rfl rfl rfl) ?_
      refine qm_G.s1 rfl (qm_x_goto) ?_
      refine qm_G.sp (lv1 := [(0, qm_R (some (1, 7, 0))), (1, qm_R (some (0, 43, 0))), (2, qm_I (qm_i x)), (3, qm_I (qm_i y)), (4, qm_I (qm_i (x + 1)))]) rfl rfl (qm_x_iload rfl) ?_
      refine qm_G.s1 rfl (qm_x_iload rfl) ?_
      refine qm_G.s1 rfl (qm_x_icmp_ge_f ⟨by omega, by omega⟩ ⟨by omega, by omega⟩ (by omega)) ?_
      refine qm_G.s1 rfl (qm_x_aload rfl) ?_
      refine qm_G.s1 rfl (qm_x_iload rfl) ?_
      have gT4 := (hK (a + 1) (by omega)).2
      refine qm_G.s1 rfl (qm_x_bald (v := T (a + 1)) (qm_arS hS rfl rfl) rfl (by omega) (by omega) (by decide) (by rw [show Int.toNat (x + 1) = (a + 1) by omega]; exact (hK (a + 1) (by omega)).1) (by omega)) ?_
      refine qm_G.s1 rfl (qm_x_aload rfl) ?_
      refine qm_G.s1 rfl (qm_x_getgR rfl rfl) ?_
      refine qm_G.s1 rfl (qm_x_iload rfl) ?_
      refine qm_G.s1 rfl (qm_x_iload rfl) ?_
      refine qm_G.s1 rfl (qm_x_isub) ?_
      refine qm_G.call rfl rfl rfl ?_
      refine qm_C.go (cd := qm_P162) (lv := [(0, qm_R (some (1, 14, 0))), (1, qm_I (qm_i ((x + 1) - x)))]) rfl rfl ?_
      refine qm_G.s1 rfl (qm_x_aload rfl) ?_
      refine qm_G.call rfl rfl rfl ?_
      refine qm_C.go (cd := qm_P1) (lv := [(0, qm_R (some (1, 14, 0)))]) rfl rfl ?_
      refine qm_G.s1 rfl (qm_x_pushI 1 rfl) ?_
      refine qm_G.s1 rfl (qm_x_if_eq_f ⟨by decide, by decide⟩ (by decide)) ?_
      refine qm_G.s1 rfl (qm_x_aload rfl) ?_
      refine qm_G.s1 rfl (qm_x_getgI (v := 0) rfl rfl) ?_
      refine qm_G.s1 rfl (qm_x_if_ne_f ⟨by decide, by decide⟩ (by decide)) ?_
      refine qm_G.s1 rfl (qm_x_pushI 1 rfl) ?_
      refine qm_G.s1 rfl (qm_x_goto) ?_
      refine qm_G.ret rfl rfl ⟨_, rfl, ?_⟩
      refine qm_G.s1 rfl (qm_x_if_eq_f ⟨by decide, by decide⟩ (by decide)) ?_
      refine qm_G.s1 rfl (qm_x_aload rfl) ?_
      refine qm_G.s1 rfl (qm_x_getgR rfl rfl) ?_
      refine qm_G.s1 rfl (qm_x_iload rfl) ?_
      refine qm_G.cs rfl rfl rfl ?_
      refine qm_C.go (cd := qm_P134) (lv := [(0, qm_R (some (1, 27, 0))), (1, qm_I (qm_i ((x + 1) - x)))]) rfl rfl ?_
      refine qm_G.s1 rfl (qm_x_iload rfl) ?_
      refine qm_G.s1 rfl (qm_x_aload rfl) ?_
      refine qm_G.s1 rfl (qm_x_alen1 (len := 3) rfl) ?_
      refine qm_G.csv rfl rfl rfl ?_
      refine qm_C.go (cd := qm_P69) (lv := [(0, qm_I (qm_i ((x + 1) - x))), (1, qm_I (qm_i 3))]) rfl rfl ?_
      refine qm_G.s1 rfl (qm_x_iload rfl) ?_
      refine qm_G.s1 rfl (qm_x_iload rfl) ?_
      refine qm_G.s1 rfl (show qm_St (qm_o_sio 5) _ _ _ _ _ (qm_R (qm_sio X) :: _) _ from rfl) ?_
      refine qm_G.cs rfl rfl rfl ?_
      refine qm_C.go (cd := qm_P3) (lv := [(0, qm_I (qm_i ((x + 1) - x))), (1, qm_I (qm_i 3)), (2, qm_R ((qm_sio X)))]) rfl rfl ?_
      refine qm_G.s1 rfl (qm_x_iload rfl) ?_
      refine qm_G.s1 rfl (qm_x_if_lt_f ⟨by omega, by omega⟩ (by omega)) ?_
      refine qm_G.s1 rfl (qm_x_iload rfl) ?_
      refine qm_G.s1 rfl (qm_x_iload rfl) ?_
      refine qm_G.s1 rfl (qm_x_icmp_lt_t ⟨by omega, by omega⟩ ⟨by decide, by decide⟩ (by omega)) ?_
      refine qm_G.sp (lv1 := [(0, qm_I (qm_i ((x + 1) - x)))]) rfl rfl (qm_x_iload rfl) ?_
      refine qm_G.ret rfl rfl ⟨_, rfl, ?_⟩
      refine qm_G.s1 rfl (qm_x_popI) ?_
      refine qm_G.retv rfl ⟨rfl, ?_⟩
      refine qm_G.s1 rfl (qm_x_aload rfl) ?_
      refine qm_G.s1 rfl (qm_x_iload rfl) ?_
      refine qm_G.s1 rfl (qm_x_bald1 (len := 3) (v := 105) rfl rfl (by omega) (by omega) (by rw [show Int.toNat ((x + 1) - x) = 1 by omega]; rfl)) ?_
      refine qm_G.s1 rfl (qm_x_pushI 255 rfl) ?_
      refine qm_G.s1 rfl (qm_x_iand255 (by omega)) ?_
      refine qm_G.s1 rfl (qm_x_i2c (by omega)) ?_
      refine qm_G.ret rfl rfl ⟨_, rfl, ?_⟩
      refine qm_G.ret rfl rfl ⟨_, rfl, ?_⟩
      refine qm_y_icmp_eq rfl ⟨by omega, by omega⟩ ⟨by decide, by decide⟩ (fun c5 => ?_) (fun c5 => ?_)
      · refine qm_G.sp (lv1 := [(0, qm_R (some (1, 7, 0))), (1, qm_R (some (0, 43, 0))), (2, qm_I (qm_i x)), (3, qm_I (qm_i y)), (4, qm_I (qm_i (x + 1)))]) rfl rfl (qm_x_iinc (lv' := [(4, qm_I (qm_i ((x + 1) + 1))), (0, qm_R (some (1, 7, 0))), (1, qm_R (some (0, 43, 0))), (2, qm_I (qm_i x)), (3, qm_I (qm_i y))]) 1 rfl rfl rfl) ?_
        refine qm_G.s1 rfl (qm_x_goto) ?_
        refine qm_G.sp (lv1 := [(0, qm_R (some (1, 7, 0))), (1, qm_R (some (0, 43, 0))), (2, qm_I (qm_i x)), (3, qm_I (qm_i y)), (4, qm_I (qm_i ((x + 1) + 1)))]) rfl rfl (qm_x_iload rfl) ?_
        refine qm_G.s1 rfl (qm_x_iload rfl) ?_
        refine qm_G.s1 rfl (qm_x_icmp_ge_f ⟨by omega, by omega⟩ ⟨by omega, by omega⟩ (by omega)) ?_
        refine qm_G.s1 rfl (qm_x_aload rfl) ?_
        refine qm_G.s1 rfl (qm_x_iload rfl) ?_
        have gT6 := (hK (a + 2) (by omega)).2
        refine qm_G.s1 rfl (qm_x_bald (v := T (a + 2)) (qm_arS hS rfl rfl) rfl (by omega) (by omega) (by decide) (by rw [show Int.toNat ((x + 1) + 1) = (a + 2) by omega]; exact (hK (a + 2) (by omega)).1) (by omega)) ?_
        refine qm_G.s1 rfl (qm_x_aload rfl) ?_
        refine qm_G.s1 rfl (qm_x_getgR rfl rfl) ?_
        refine qm_G.s1 rfl (qm_x_iload rfl) ?_
        refine qm_G.s1 rfl (qm_x_iload rfl) ?_
        refine qm_G.s1 rfl (qm_x_isub) ?_
        refine qm_G.call rfl rfl rfl ?_
        refine qm_C.go (cd := qm_P162) (lv := [(0, qm_R (some (1, 14, 0))), (1, qm_I (qm_i (((x + 1) + 1) - x)))]) rfl rfl ?_
        refine qm_G.s1 rfl (qm_x_aload rfl) ?_
        refine qm_G.call rfl rfl rfl ?_
        refine qm_C.go (cd := qm_P1) (lv := [(0, qm_R (some (1, 14, 0)))]) rfl rfl ?_
        refine qm_G.s1 rfl (qm_x_pushI 1 rfl) ?_
        refine qm_G.s1 rfl (qm_x_if_eq_f ⟨by decide, by decide⟩ (by decide)) ?_
        refine qm_G.s1 rfl (qm_x_aload rfl) ?_
        refine qm_G.s1 rfl (qm_x_getgI (v := 0) rfl rfl) ?_
        refine qm_G.s1 rfl (qm_x_if_ne_f ⟨by decide, by decide⟩ (by decide)) ?_
        refine qm_G.s1 rfl (qm_x_pushI 1 rfl) ?_
        refine qm_G.s1 rfl (qm_x_goto) ?_
        refine qm_G.ret rfl rfl ⟨_, rfl, ?_⟩
        refine qm_G.s1 rfl (qm_x_if_eq_f ⟨by decide, by decide⟩ (by decide)) ?_
        refine qm_G.s1 rfl (qm_x_aload rfl) ?_
        refine qm_G.s1 rfl (qm_x_getgR rfl rfl) ?_
        refine qm_G.s1 rfl (qm_x_iload rfl) ?_
        refine qm_G.cs rfl rfl rfl ?_
        refine qm_C.go (cd := qm_P134) (lv := [(0, qm_R (some (1, 27, 0))), (1, qm_I (qm_i (((x + 1) + 1) - x)))]) rfl rfl ?_
        refine qm_G.s1 rfl (qm_x_iload rfl) ?_
        refine qm_G.s1 rfl (qm_x_aload rfl) ?_
        refine qm_G.s1 rfl (qm_x_alen1 (len := 3) rfl) ?_
        refine qm_G.csv rfl rfl rfl ?_
        refine qm_C.go (cd := qm_P69) (lv := [(0, qm_I (qm_i (((x + 1) + 1) - x))), (1, qm_I (qm_i 3))]) rfl rfl ?_
        refine qm_G.s1 rfl (qm_x_iload rfl) ?_
        refine qm_G.s1 rfl (qm_x_iload rfl) ?_
        refine qm_G.s1 rfl (show qm_St (qm_o_sio 5) _ _ _ _ _ (qm_R (qm_sio X) :: _) _ from rfl) ?_
        refine qm_G.cs rfl rfl rfl ?_
        refine qm_C.go (cd := qm_P3) (lv := [(0, qm_I (qm_i (((x + 1) + 1) - x))), (1, qm_I (qm_i 3)), (2, qm_R ((qm_sio X)))]) rfl rfl ?_
        refine qm_G.s1 rfl (qm_x_iload rfl) ?_
        refine qm_G.s1 rfl (qm_x_if_lt_f ⟨by omega, by omega⟩ (by omega)) ?_
        refine qm_G.s1 rfl (qm_x_iload rfl) ?_
        refine qm_G.s1 rfl (qm_x_iload rfl) ?_
        refine qm_G.s1 rfl (qm_x_icmp_lt_t ⟨by omega, by omega⟩ ⟨by decide, by decide⟩ (by omega)) ?_
        refine qm_G.sp (lv1 := [(0, qm_I (qm_i (((x + 1) + 1) - x)))]) rfl rfl (qm_x_iload rfl) ?_
        refine qm_G.ret rfl rfl ⟨_, rfl, ?_⟩
        refine qm_G.s1 rfl (qm_x_popI) ?_
        refine qm_G.retv rfl ⟨rfl, ?_⟩
        refine qm_G.s1 rfl (qm_x_aload rfl) ?_
        refine qm_G.s1 rfl (qm_x_iload rfl) ?_
        refine qm_G.s1 rfl (qm_x_bald1 (len := 3) (v := 116) rfl rfl (by omega) (by omega) (by rw [show Int.toNat (((x + 1) + 1) - x) = 2 by omega]; rfl)) ?_
        refine qm_G.s1 rfl (qm_x_pushI 255 rfl) ?_
        refine qm_G.s1 rfl (qm_x_iand255 (by omega)) ?_
        refine qm_G.s1 rfl (qm_x_i2c (by omega)) ?_
        refine qm_G.ret rfl rfl ⟨_, rfl, ?_⟩
        refine qm_G.ret rfl rfl ⟨_, rfl, ?_⟩
        refine qm_y_icmp_eq rfl ⟨by omega, by omega⟩ ⟨by decide, by decide⟩ (fun c7 => ?_) (fun c7 => ?_)
        · refine qm_G.sp (lv1 := [(0, qm_R (some (1, 7, 0))), (1, qm_R (some (0, 43, 0))), (2, qm_I (qm_i x)), (3, qm_I (qm_i y)), (4, qm_I (qm_i ((x + 1) + 1)))]) rfl rfl (qm_x_iinc (lv' := [(4, qm_I (qm_i (((x + 1) + 1) + 1))), (0, qm_R (some (1, 7, 0))), (1, qm_R (some (0, 43, 0))), (2, qm_I (qm_i x)), (3, qm_I (qm_i y))]) 1 rfl rfl rfl) ?_
          refine qm_G.s1 rfl (qm_x_goto) ?_
          refine qm_G.sp (lv1 := [(0, qm_R (some (1, 7, 0))), (1, qm_R (some (0, 43, 0))), (2, qm_I (qm_i x)), (3, qm_I (qm_i y)), (4, qm_I (qm_i (((x + 1) + 1) + 1)))]) rfl rfl (qm_x_iload rfl) ?_
          refine qm_G.s1 rfl (qm_x_iload rfl) ?_
          refine qm_G.s1 rfl (qm_x_icmp_ge_t ⟨by omega, by omega⟩ ⟨by omega, by omega⟩ (by omega)) ?_
          refine qm_G.sp (lv1 := []) rfl rfl (qm_x_pushI 1 rfl) ?_
          refine qm_G.ret rfl rfl (k1 ?_)
          refine ⟨by show e = a + 3; omega, fun j hj => ?_⟩
          change j < 3 at hj
          rcases (show j = 0 ∨ j = 1 ∨ j = 2 by omega) with c9 | c9 | c9
          · subst c9; exact (show T (a + 0) = 104 by omega)
          · subst c9; exact (show T (a + 1) = 105 by omega)
          · subst c9; exact (show T (a + 2) = 116 by omega)
        · refine qm_G.s1 rfl (qm_x_pushI 0 rfl) ?_
          exact qm_G.ret rfl rfl (k0 (fun h => by have h9 : T (a + 2) = 116 := h.2 2 (by decide); omega))
      · refine qm_G.s1 rfl (qm_x_pushI 0 rfl) ?_
        exact qm_G.ret rfl rfl (k0 (fun h => by have h9 : T (a + 1) = 105 := h.2 1 (by decide); omega))
    · refine qm_G.s1 rfl (qm_x_pushI 0 rfl) ?_
      exact qm_G.ret rfl rfl (k0 (fun h => by have h9 : T (a + 0) = 104 := h.2 0 (by decide); omega))
  · refine qm_G.sp (lv1 := []) rfl rfl (qm_x_pushI 0 rfl) ?_
    exact qm_G.ret rfl rfl (k0 (fun h => by have h9 : e = a + 3 := h.1; omega))
theorem qm_d_isa3 {S : List qm_Sh} {K : qm_J} {L : qm_Ct Int64} {D : qm_Ct UInt64} {R : qm_Ct (Option qm_Rf)} {X : Nat × (Nat → Int32)} {Q : Option qm_V → qm_Hp → Prop} {T : Nat → Int} {ln : Int} {J : qm_J} {x y : Int} {a e : Nat} (hS : qm_Sd S) (hR : qm_Rd R) (hK : ∀ i, i < 100 → K 43 0 i = T i ∧ 0 ≤ T i ∧ T i ≤ 127) (rl : 0 ≤ ln ∧ ln ≤ 100) (hx : x = (a : Int)) (hy : y = (e : Int)) (h1 : a ≤ e ∧ e ≤ 100) (k1 : qm_isw T a e 3 → Q (some (qm_I (qm_i 1))) (qm_H S J K L D R X)) (k0 : ¬ qm_isw T a e 3 → Q (some (qm_I (qm_i 0))) (qm_H S J K L D R X)) : qm_C qm_P 177 [qm_R (some (1, 8, 0)), qm_R (some (0, 43, 0)), qm_I (qm_i x), qm_I (qm_i y)] (qm_H S J K L D R X) Q := by
  refine qm_C.go (cd := qm_P177) (lv := [(0, qm_R (some (1, 8, 0))), (1, qm_R (some (0, 43, 0))), (2, qm_I (qm_i x)), (3, qm_I (qm_i y))]) rfl rfl ?_
  refine qm_G.s1 rfl (qm_x_iload rfl) ?_
  refine qm_G.s1 rfl (qm_x_if_lt_f ⟨by omega, by omega⟩ (by omega)) ?_
  refine qm_G.s1 rfl (qm_x_iload rfl) ?_
  refine qm_G.s1 rfl (qm_x_aload rfl) ?_
  refine qm_G.s1 rfl (qm_x_alen (hS 43 rfl) rfl) ?_
  refine qm_G.s1 rfl (qm_x_icmp_gt_f ⟨by omega, by omega⟩ ⟨by decide, by decide⟩ (by omega)) ?_
  refine qm_G.s1 rfl (qm_x_iload rfl) ?_
  refine qm_G.s1 rfl (qm_x_iload rfl) ?_
  refine qm_G.s1 rfl (qm_x_isub) ?_
  refine qm_G.s1 rfl (qm_x_aload rfl) ?_
  refine qm_G.s1 rfl (qm_x_getgR rfl rfl) ?_
  refine qm_G.call rfl rfl rfl ?_
  refine qm_C.go (cd := qm_P53) (lv := [(0, qm_R (some (1, 15, 0)))]) rfl rfl ?_
  refine qm_G.s1 rfl (qm_x_aload rfl) ?_
  refine qm_G.s1 rfl (qm_x_getgR rfl rfl) ?_
  refine qm_G.s1 rfl (qm_x_alen1 (len := 4) rfl) ?_
  refine qm_G.s1 rfl (qm_x_aload rfl) ?_
  refine qm_G.call rfl rfl rfl ?_
  refine qm_C.go (cd := qm_P0) (lv := [(0, qm_R (some (1, 15, 0)))]) rfl rfl ?_
  refine qm_G.s1 rfl (qm_x_pushI 1 rfl) ?_
  refine qm_G.s1 rfl (qm_x_if_eq_f ⟨by decide, by decide⟩ (by decide)) ?_
  refine qm_G.s1 rfl (qm_x_aload rfl) ?_
  refine qm_G.s1 rfl (qm_x_getgI (v := 0) rfl rfl) ?_
  refine qm_G.s1 rfl (qm_x_goto) ?_
  refine qm_G.ret rfl rfl ⟨_, rfl, ?_⟩
  refine qm_G.s1 rfl (qm_x_ishr0) ?_
  refine qm_G.ret rfl rfl ⟨_, rfl, ?_⟩
  refine qm_y_icmp_eq rfl ⟨by omega, by omega⟩ ⟨by decide, by decide⟩ (fun c1 => ?_) (fun c1 => ?_)
  · refine qm_G.sp (lv1 := [(0, qm_R (some (1, 8, 0))), (1, qm_R (some (0, 43, 0))), (2, qm_I (qm_i x)), (3, qm_I (qm_i y))]) rfl rfl (qm_x_iload rfl) ?_
    refine qm_G.s1 rfl (qm_x_istore (lv' := [(4, qm_I (qm_i x)), (0, qm_R (some (1, 8, 0))), (1, qm_R (some (0, 43, 0))), (2, qm_I (qm_i x)), (3, qm_I (qm_i y))]) rfl) ?_
    refine qm_G.sp (lv1 := [(0, qm_R (some (1, 8, 0))), (1, qm_R (some (0, 43, 0))), (2, qm_I (qm_i x)), (3, qm_I (qm_i y)), (4, qm_I (qm_i x))]) rfl rfl (qm_x_iload rfl) ?_
    refine qm_G.s1 rfl (qm_x_iload rfl) ?_
    refine qm_G.s1 rfl (qm_x_icmp_ge_f ⟨by omega, by omega⟩ ⟨by omega, by omega⟩ (by omega)) ?_
    refine qm_G.s1 rfl (qm_x_aload rfl) ?_
    refine qm_G.s1 rfl (qm_x_iload rfl) ?_
    have gT2 := (hK (a + 0) (by omega)).2
    refine qm_G.s1 rfl (qm_x_bald (v := T (a + 0)) (qm_arS hS rfl rfl) rfl (by omega) (by omega) (by decide) (by rw [show Int.toNat x = (a + 0) by omega]; exact (hK (a + 0) (by omega)).1) (by omega)) ?_
    refine qm_G.s1 rfl (qm_x_aload rfl) ?_
    refine qm_G.s1 rfl (qm_x_getgR rfl rfl) ?_
    refine qm_G.s1 rfl (qm_x_iload rfl) ?_
    refine qm_G.s1 rfl (qm_x_iload rfl) ?_
    refine qm_G.s1 rfl (qm_x_isub) ?_
    refine qm_G.call rfl rfl rfl ?_
    refine qm_C.go (cd := qm_P162) (lv := [(0, qm_R (some (1, 15, 0))), (1, qm_I (qm_i (x - x)))]) rfl rfl ?_
    refine qm_G.s1 rfl (qm_x_aload rfl) ?_
    refine qm_G.call rfl rfl rfl ?_
    refine qm_C.go (cd := qm_P1) (lv := [(0, qm_R (some (1, 15, 0)))]) rfl rfl ?_
    refine qm_G.s1 rfl (qm_x_pushI 1 rfl) ?_
    refine qm_G.s1 rfl (qm_x_if_eq_f ⟨by decide, by decide⟩ (by decide)) ?_
    refine qm_G.s1 rfl (qm_x_aload rfl) ?_
    refine qm_G.s1 rfl (qm_x_getgI (v := 0) rfl rfl) ?_
    refine qm_G.s1 rfl (qm_x_if_ne_f ⟨by decide, by decide⟩ (by decide)) ?_
    refine qm_G.s1 rfl (qm_x_pushI 1 rfl) ?_
    refine qm_G.s1 rfl (qm_x_goto) ?_
    refine qm_G.ret rfl rfl ⟨_, rfl, ?_⟩
    refine qm_G.s1 rfl (qm_x_if_eq_f ⟨by decide, by decide⟩ (by decide)) ?_
    refine qm_G.s1 rfl (qm_x_aload rfl) ?_
    refine qm_G.s1 rfl (qm_x_getgR rfl rfl) ?_
    refine qm_G.s1 rfl (qm_x_iload rfl) ?_
    refine qm_G.cs rfl rfl rfl ?_
    refine qm_C.go (cd := qm_P134) (lv := [(0, qm_R (some (1, 28, 0))), (1, qm_I (qm_i (x - x)))]) rfl rfl ?_
    refine qm_G.s1 rfl (qm_x_iload rfl) ?_
    refine qm_G.s1 rfl (qm_x_aload rfl) ?_
    refine qm_G.s1 rfl (qm_x_alen1 (len := 4) rfl) ?_
    refine qm_G.csv rfl rfl rfl ?_
    refine qm_C.go (cd := qm_P69) (lv := [(0, qm_I (qm_i (x - x))), (1, qm_I (qm_i 4))]) rfl rfl ?_
    refine qm_G.s1 rfl (qm_x_iload rfl) ?_
    refine qm_G.s1 rfl (qm_x_iload rfl) ?_
    refine qm_G.s1 rfl (show qm_St (qm_o_sio 5) _ _ _ _ _ (qm_R (qm_sio X) :: _) _ from rfl) ?_
    refine qm_G.cs rfl rfl rfl ?_
    refine qm_C.go (cd := qm_P3) (lv := [(0, qm_I (qm_i (x - x))), (1, qm_I (qm_i 4)), (2, qm_R ((qm_sio X)))]) rfl rfl ?_
    refine qm_G.s1 rfl (qm_x_iload rfl) ?_
    refine qm_G.s1 rfl (qm_x_if_lt_f ⟨by omega, by omega⟩ (by omega)) ?_
    refine qm_G.s1 rfl (qm_x_iload rfl) ?_
    refine qm_G.s1 rfl (qm_x_iload rfl) ?_
    refine qm_G.s1 rfl (qm_x_icmp_lt_t ⟨by omega, by omega⟩ ⟨by decide, by decide⟩ (by omega)) ?_
    refine qm_G.sp (lv1 := [(0, qm_I (qm_i (x - x)))]) rfl rfl (qm_x_iload rfl) ?_
    refine qm_G.ret rfl rfl ⟨_, rfl, ?_⟩
    refine qm_G.s1 rfl (qm_x_popI) ?_
    refine qm_G.retv rfl ⟨rfl, ?_⟩
    refine qm_G.s1 rfl (qm_x_aload rfl) ?_
    refine qm_G.s1 rfl (qm_x_iload rfl) ?_
    refine qm_G.s1 rfl (qm_x_bald1 (len := 4) (v := 108) rfl rfl (by omega) (by omega) (by rw [show Int.toNat (x - x) = 0 by omega]; rfl)) ?_
    refine qm_G.s1 rfl (qm_x_pushI 255 rfl) ?_
    refine qm_G.s1 rfl (qm_x_iand255 (by omega)) ?_
    refine qm_G.s1 rfl (qm_x_i2c (by omega)) ?_
    refine qm_G.ret rfl rfl ⟨_, rfl, ?_⟩
    refine qm_G.ret rfl rfl ⟨_, rfl, ?_⟩
    refine qm_y_icmp_eq rfl ⟨by omega, by omega⟩ ⟨by decide, by decide⟩ (fun c3 => ?_) (fun c3 => ?_)
    · refine qm_G.sp (lv1 := [(0, qm_R (some (1, 8, 0))), (1, qm_R (some (0, 43, 0))), (2, qm_I (qm_i x)), (3, qm_I (qm_i y)), (4, qm_I (qm_i x))]) rfl rfl (qm_x_iinc (lv' := [(4, qm_I (qm_i (x + 1))), (0, qm_R (some (1, 8, 0))), (1, qm_R (some (0, 43, 0))), (2, qm_I (qm_i x)), (3, qm_I (qm_i y))]) 1 rfl rfl rfl) ?_
      refine qm_G.s1 rfl (qm_x_goto) ?_
      refine qm_G.sp (lv1 := [(0, qm_R (some (1, 8, 0))), (1, qm_R (some (0, 43, 0))), (2, qm_I (qm_i x)), (3, qm_I (qm_i y)), (4, qm_I (qm_i (x + 1)))]) rfl rfl (qm_x_iload rfl) ?_
      refine qm_G.s1 rfl (qm_x_iload rfl) ?_
      refine qm_G.s1 rfl (qm_x_icmp_ge_f ⟨by omega, by omega⟩ ⟨by omega, by omega⟩ (by omega)) ?_
      refine qm_G.s1 rfl (qm_x_aload rfl) ?_
      refine qm_G.s1 rfl (qm_x_iload rfl) ?_
      have gT4 := (hK (a + 1) (by omega)).2
      refine qm_G.s1 rfl (qm_x_bald (v := T (a + 1)) (qm_arS hS rfl rfl) rfl (by omega) (by omega) (by decide) (by rw [show Int.toNat (x + 1) = (a + 1) by omega]; exact (hK (a + 1) (by omega)).1) (by omega)) ?_
      refine qm_G.s1 rfl (qm_x_aload rfl) ?_
      refine qm_G.s1 rfl (qm_x_getgR rfl rfl) ?_
      refine qm_G.s1 rfl (qm_x_iload rfl) ?_
      refine qm_G.s1 rfl (qm_x_iload rfl) ?_
      refine qm_G.s1 rfl (qm_x_isub) ?_
      refine qm_G.call rfl rfl rfl ?_
      refine qm_C.go (cd := qm_P162) (lv := [(0, qm_R (some (1, 15, 0))), (1, qm_I (qm_i ((x + 1) - x)))]) rfl rfl ?_
      refine qm_G.s1 rfl (qm_x_aload rfl) ?_
      refine qm_G.call rfl rfl rfl ?_
      refine qm_C.go (cd := qm_P1) (lv := [(0, qm_R (some (1, 15, 0)))]) rfl rfl ?_
      refine qm_G.s1 rfl (qm_x_pushI 1 rfl) ?_
      refine qm_G.s1 rfl (qm_x_if_eq_f ⟨by decide, by decide⟩ (by decide)) ?_
      refine qm_G.s1 rfl (qm_x_aload rfl) ?_
      refine qm_G.s1 rfl (qm_x_getgI (v := 0) rfl rfl) ?_
      refine qm_G.s1 rfl (qm_x_if_ne_f ⟨by decide, by decide⟩ (by decide)) ?_
      refine qm_G.s1 rfl (qm_x_pushI 1 rfl) ?_
      refine qm_G.s1 rfl (qm_x_goto) ?_
      refine qm_G.ret rfl rfl ⟨_, rfl, ?_⟩
      refine qm_G.s1 rfl (qm_x_if_eq_f ⟨by decide, by decide⟩ (by decide)) ?_
      refine qm_G.s1 rfl (qm_x_aload rfl) ?_
      refine qm_G.s1 rfl (qm_x_getgR rfl rfl) ?_
      refine qm_G.s1 rfl (qm_x_iload rfl) ?_
      refine qm_G.cs rfl rfl rfl ?_
      refine qm_C.go (cd := qm_P134) (lv := [(0, qm_R (some (1, 28, 0))), (1, qm_I (qm_i ((x + 1) - x)))]) rfl rfl ?_
      refine qm_G.s1 rfl (qm_x_iload rfl) ?_
      refine qm_G.s1 rfl (qm_x_aload rfl) ?_
      refine qm_G.s1 rfl (qm_x_alen1 (len := 4) rfl) ?_
      refine qm_G.csv rfl rfl rfl ?_
      refine qm_C.go (cd := qm_P69) (lv := [(0, qm_I (qm_i ((x + 1) - x))), (1, qm_I (qm_i 4))]) rfl rfl ?_
      refine qm_G.s1 rfl (qm_x_iload rfl) ?_
      refine qm_G.s1 rfl (qm_x_iload rfl) ?_
      refine qm_G.s1 rfl (show qm_St (qm_o_sio 5) _ _ _ _ _ (qm_R (qm_sio X) :: _) _ from rfl) ?_
      refine qm_G.cs rfl rfl rfl ?_
      refine qm_C.go (cd := qm_P3) (lv := [(0, qm_I (qm_i ((x + 1) - x))), (1, qm_I (qm_i 4)), (2, qm_R ((qm_sio X)))]) rfl rfl ?_
      refine qm_G.s1 rfl (qm_x_iload rfl) ?_
      refine qm_G.s1 rfl (qm_x_if_lt_f ⟨by omega, by omega⟩ (by omega)) ?_
      refine qm_G.s1 rfl (qm_x_iload rfl) ?_
      refine qm_G.s1 rfl (qm_x_iload rfl) ?_
      refine qm_G.s1 rfl (qm_x_icmp_lt_t ⟨by omega, by omega⟩ ⟨by decide, by decide⟩ (by omega)) ?_
      refine qm_G.sp (lv1 := [(0, qm_I (qm_i ((x + 1) - x)))]) rfl rfl (qm_x_iload rfl) ?_
      refine qm_G.ret rfl rfl ⟨_, rfl, ?_⟩
      refine qm_G.s1 rfl (qm_x_popI) ?_
      refine qm_G.retv rfl ⟨rfl, ?_⟩
      refine qm_G.s1 rfl (qm_x_aload rfl) ?_
      refine qm_G.s1 rfl (qm_x_iload rfl) ?_
      refine qm_G.s1 rfl (qm_x_bald1 (len := 4) (v := 105) rfl rfl (by omega) (by omega) (by rw [show Int.toNat ((x + 1) - x) = 1 by omega]; rfl)) ?_
      refine qm_G.s1 rfl (qm_x_pushI 255 rfl) ?_
      refine qm_G.s1 rfl (qm_x_iand255 (by omega)) ?_
      refine qm_G.s1 rfl (qm_x_i2c (by omega)) ?_
      refine qm_G.ret rfl rfl ⟨_, rfl, ?_⟩
      refine qm_G.ret rfl rfl ⟨_, rfl, ?_⟩
      refine qm_y_icmp_eq rfl ⟨by omega, by omega⟩ ⟨by decide, by decide⟩ (fun c5 => ?_) (fun c5 => ?_)
      · refine qm_G.sp (lv1 := [(0, qm_R (some (1, 8, 0))), (1, qm_R (some (0, 43, 0))), (2, qm_I (qm_i x)), (3, qm_I (qm_i y)), (4, qm_I (qm_i (x + 1)))]) rfl rfl (qm_x_iinc (lv' := [(4, qm_I (qm_i ((x + 1) + 1))), (0, qm_R (some (1, 8, 0))), (1, qm_R (some (0, 43, 0))), (2, qm_I (qm_i x)), (3, qm_I (qm_i y))]) 1 rfl rfl rfl) ?_
        refine qm_G.s1 rfl (qm_x_goto) ?_
        refine qm_G.sp (lv1 := [(0, qm_R (some (1, 8, 0))), (1, qm_R (some (0, 43, 0))), (2, qm_I (qm_i x)), (3, qm_I (qm_i y)), (4, qm_I (qm_i ((x + 1) + 1)))]) rfl rfl (qm_x_iload rfl) ?_
        refine qm_G.s1 rfl (qm_x_iload rfl) ?_
        refine qm_G.s1 rfl (qm_x_icmp_ge_f ⟨by omega, by omega⟩ ⟨by omega, by omega⟩ (by omega)) ?_
        refine qm_G.s1 rfl (qm_x_aload rfl) ?_
        refine qm_G.s1 rfl (qm_x_iload rfl) ?_
        have gT6 := (hK (a + 2) (by omega)).2
        refine qm_G.s1 rfl (qm_x_bald (v := T (a + 2)) (qm_arS hS rfl rfl) rfl (by omega) (by omega) (by decide) (by rw [show Int.toNat ((x + 1) + 1) = (a + 2) by omega]; exact (hK (a + 2) (by omega)).1) (by omega)) ?_
        refine qm_G.s1 rfl (qm_x_aload rfl) ?_
        refine qm_G.s1 rfl (qm_x_getgR rfl rfl) ?_
        refine qm_G.s1 rfl (qm_x_iload rfl) ?_
        refine qm_G.s1 rfl (qm_x_iload rfl) ?_
        refine qm_G.s1 rfl (qm_x_isub) ?_
        refine qm_G.call rfl rfl rfl ?_
        refine qm_C.go (cd := qm_P162) (lv := [(0, qm_R (some (1, 15, 0))), (1, qm_I (qm_i (((x + 1) + 1) - x)))]) rfl rfl ?_
        refine qm_G.s1 rfl (qm_x_aload rfl) ?_
        refine qm_G.call rfl rfl rfl ?_
        refine qm_C.go (cd := qm_P1) (lv := [(0, qm_R (some (1, 15, 0)))]) rfl rfl ?_
        refine qm_G.s1 rfl (qm_x_pushI 1 rfl) ?_
        refine qm_G.s1 rfl (qm_x_if_eq_f ⟨by decide, by decide⟩ (by decide)) ?_
        refine qm_G.s1 rfl (qm_x_aload rfl) ?_
        refine qm_G.s1 rfl (qm_x_getgI (v := 0) rfl rfl) ?_
        refine qm_G.s1 rfl (qm_x_if_ne_f ⟨by decide, by decide⟩ (by decide)) ?_
        refine qm_G.s1 rfl (qm_x_pushI 1 rfl) ?_
        refine qm_G.s1 rfl (qm_x_goto) ?_
        refine qm_G.ret rfl rfl ⟨_, rfl, ?_⟩
        refine qm_G.s1 rfl (qm_x_if_eq_f ⟨by decide, by decide⟩ (by decide)) ?_
        refine qm_G.s1 rfl (qm_x_aload rfl) ?_
        refine qm_G.s1 rfl (qm_x_getgR rfl rfl) ?_
        refine qm_G.s1 rfl (qm_x_iload rfl) ?_
        refine qm_G.cs rfl rfl rfl ?_
        refine qm_C.go (cd := qm_P134) (lv := [(0, qm_R (some (1, 28, 0))), (1, qm_I (qm_i (((x + 1) + 1) - x)))]) rfl rfl ?_
        refine qm_G.s1 rfl (qm_x_iload rfl) ?_
        refine qm_G.s1 rfl (qm_x_aload rfl) ?_
        refine qm_G.s1 rfl (qm_x_alen1 (len := 4) rfl) ?_
        refine qm_G.csv rfl rfl rfl ?_
        refine qm_C.go (cd := qm_P69) (lv := [(0, qm_I (qm_i (((x + 1) + 1) - x))), (1, qm_I (qm_i 4))]) rfl rfl ?_
        refine qm_G.s1 rfl (qm_x_iload rfl) ?_
        refine qm_G.s1 rfl (qm_x_iload rfl) ?_
        refine qm_G.s1 rfl (show qm_St (qm_o_sio 5) _ _ _ _ _ (qm_R (qm_sio X) :: _) _ from rfl) ?_
        refine qm_G.cs rfl rfl rfl ?_
        refine qm_C.go (cd := qm_P3) (lv := [(0, qm_I (qm_i (((x + 1) + 1) - x))), (1, qm_I (qm_i 4)), (2, qm_R ((qm_sio X)))]) rfl rfl ?_
        refine qm_G.s1 rfl (qm_x_iload rfl) ?_
        refine qm_G.s1 rfl (qm_x_if_lt_f ⟨by omega, by omega⟩ (by omega)) ?_
        refine qm_G.s1 rfl (qm_x_iload rfl) ?_
        refine qm_G.s1 rfl (qm_x_iload rfl) ?_
        refine qm_G.s1 rfl (qm_x_icmp_lt_t ⟨by omega, by omega⟩ ⟨by decide, by decide⟩ (by omega)) ?_
        refine qm_G.sp (lv1 := [(0, qm_I (qm_i (((x + 1) + 1) - x)))]) rfl rfl (qm_x_iload rfl) ?_
        refine qm_G.ret rfl rfl ⟨_, rfl, ?_⟩
        refine qm_G.s1 rfl (qm_x_popI) ?_
        refine qm_G.retv rfl ⟨rfl, ?_⟩
        refine qm_G.s1 rfl (qm_x_aload rfl) ?_
        refine qm_G.s1 rfl (qm_x_iload rfl) ?_
        refine qm_G.s1 rfl (qm_x_bald1 (len := 4) (v := 102) rfl rfl (by omega) (by omega) (by rw [show Int.toNat (((x + 1) + 1) - x) = 2 by omega]; rfl)) ?_
        refine qm_G.s1 rfl (qm_x_pushI 255 rfl) ?_
        refine qm_G.s1 rfl (qm_x_iand255 (by omega)) ?_
        refine qm_G.s1 rfl (qm_x_i2c (by omega)) ?_
        refine qm_G.ret rfl rfl ⟨_, rfl, ?_⟩
        refine qm_G.ret rfl rfl ⟨_, rfl, ?_⟩
        refine qm_y_icmp_eq rfl ⟨by omega, by omega⟩ ⟨by decide, by decide⟩ (fun c7 => ?_) (fun c7 => ?_)
        · refine qm_G.sp (lv1 := [(0, qm_R (some (1, 8, 0))), (1, qm_R (some (0, 43, 0))), (2, qm_I (qm_i x)), (3, qm_I (qm_i y)), (4, qm_I (qm_i ((x + 1) + 1)))]) rfl rfl (qm_x_iinc (lv' := [(4, qm_I (qm_i (((x + 1) + 1) + 1))), (0, qm_R (some (1, 8, 0))), (1, qm_R (some (0, 43, 0))), (2, qm_I (qm_i x)), (3, qm_I (qm_i y))]) 1 rfl rfl rfl) ?_
          refine qm_G.s1 rfl (qm_x_goto) ?_
          refine qm_G.sp (lv1 := [(0, qm_R (some (1, 8, 0))), (1, qm_R (some (0, 43, 0))), (2, qm_I (qm_i x)), (3, qm_I (qm_i y)), (4, qm_I (qm_i (((x + 1) + 1) + 1)))]) rfl rfl (qm_x_iload rfl) ?_
          refine qm_G.s1 rfl (qm_x_iload rfl) ?_
          refine qm_G.s1 rfl (qm_x_icmp_ge_f ⟨by omega, by omega⟩ ⟨by omega, by omega⟩ (by omega)) ?_
          refine qm_G.s1 rfl (qm_x_aload rfl) ?_
          refine qm_G.s1 rfl (qm_x_iload rfl) ?_
          have gT8 := (hK (a + 3) (by omega)).2
          refine qm_G.s1 rfl (qm_x_bald (v := T (a + 3)) (qm_arS hS rfl rfl) rfl (by omega) (by omega) (by decide) (by rw [show Int.toNat (((x + 1) + 1) + 1) = (a + 3) by omega]; exact (hK (a + 3) (by omega)).1) (by omega)) ?_
          refine qm_G.s1 rfl (qm_x_aload rfl) ?_
          refine qm_G.s1 rfl (qm_x_getgR rfl rfl) ?_
          refine qm_G.s1 rfl (qm_x_iload rfl) ?_
          refine qm_G.s1 rfl (qm_x_iload rfl) ?_
          refine qm_G.s1 rfl (qm_x_isub) ?_
          refine qm_G.call rfl rfl rfl ?_
          refine qm_C.go (cd := qm_P162) (lv := [(0, qm_R (some (1, 15, 0))), (1, qm_I (qm_i ((((x + 1) + 1) + 1) - x)))]) rfl rfl ?_
          refine qm_G.s1 rfl (qm_x_aload rfl) ?_
          refine qm_G.call rfl rfl rfl ?_
          refine qm_C.go (cd := qm_P1) (lv := [(0, qm_R (some (1, 15, 0)))]) rfl rfl ?_
          refine qm_G.s1 rfl (qm_x_pushI 1 rfl) ?_
          refine qm_G.s1 rfl (qm_x_if_eq_f ⟨by decide, by decide⟩ (by decide)) ?_
          refine qm_G.s1 rfl (qm_x_aload rfl) ?_
          refine qm_G.s1 rfl (qm_x_getgI (v := 0) rfl rfl) ?_
          refine qm_G.s1 rfl (qm_x_if_ne_f ⟨by decide, by decide⟩ (by decide)) ?_
          refine qm_G.s1 rfl (qm_x_pushI 1 rfl) ?_
          refine qm_G.s1 rfl (qm_x_goto) ?_
          refine qm_G.ret rfl rfl ⟨_, rfl, ?_⟩
          refine qm_G.s1 rfl (qm_x_if_eq_f ⟨by decide, by decide⟩ (by decide)) ?_
          refine qm_G.s1 rfl (qm_x_aload rfl) ?_
          refine qm_G.s1 rfl (qm_x_getgR rfl rfl) ?_
          refine qm_G.s1 rfl (qm_x_iload rfl) ?_
          refine qm_G.cs rfl rfl rfl ?_
          refine qm_C.go (cd := qm_P134) (lv := [(0, qm_R (some (1, 28, 0))), (1, qm_I (qm_i ((((x + 1) + 1) + 1) - x)))]) rfl rfl ?_
          refine qm_G.s1 rfl (qm_x_iload rfl) ?_
          refine qm_G.s1 rfl (qm_x_aload rfl) ?_
          refine qm_G.s1 rfl (qm_x_alen1 (len := 4) rfl) ?_
          refine qm_G.csv rfl rfl rfl ?_
          refine qm_C.go (cd := qm_P69) (lv := [(0, qm_I (qm_i ((((x + 1) + 1) + 1) - x))), (1, qm_I (qm_i 4))]) rfl rfl ?_
          refine qm_G.s1 rfl (qm_x_iload rfl) ?_
          refine qm_G.s1 rfl (qm_x_iload rfl) ?_
          refine qm_G.s1 rfl (show qm_St (qm_o_sio 5) _ _ _ _ _ (qm_R (qm_sio X) :: _) _ from rfl) ?_
          refine qm_G.cs rfl rfl rfl ?_
          refine qm_C.go (cd := qm_P3) (lv := [(0, qm_I (qm_i ((((x + 1) + 1) + 1) - x))), (1, qm_I (qm_i 4)), (2, qm_R ((qm_sio X)))]) rfl rfl ?_
          refine qm_G.s1 rfl (qm_x_iload rfl) ?_
          refine qm_G.s1 rfl (qm_x_if_lt_f ⟨by omega, by omega⟩ (by omega)) ?_
          refine qm_G.s1 rfl (qm_x_iload rfl) ?_
          refine qm_G.s1 rfl (qm_x_iload rfl) ?_
          refine qm_G.s1 rfl (qm_x_icmp_lt_t ⟨by omega, by omega⟩ ⟨by decide, by decide⟩ (by omega)) ?_
          refine qm_G.sp (lv1 := [(0, qm_I (qm_i ((((x + 1) + 1) + 1) - x)))]) rfl rfl (qm_x_iload rfl) ?_
          refine qm_G.ret rfl rfl ⟨_, rfl, ?_⟩
          refine qm_G.s1 rfl (qm_x_popI) ?_
          refine qm_G.retv rfl ⟨rfl, ?_⟩
          refine qm_G.s1 rfl (qm_x_aload rfl) ?_
          refine qm_G.s1 rfl (qm_x_iload rfl) ?_
          refine qm_G.s1 rfl (qm_x_bald1 (len := 4) (v := 116) rfl rfl (by omega) (by omega) (by rw [show Int.toNat ((((x + 1) + 1) + 1) - x) = 3 by omega]; rfl)) ?_
          refine qm_G.s1 rfl (qm_x_pushI 255 rfl) ?_
          refine qm_G.s1 rfl (qm_x_iand255 (by omega)) ?_
          refine qm_G.s1 rfl (qm_x_i2c (by omega)) ?_
          refine qm_G.ret rfl rfl ⟨_, rfl, ?_⟩
          refine qm_G.ret rfl rfl ⟨_, rfl, ?_⟩
          refine qm_y_icmp_eq rfl ⟨by omega, by omega⟩ ⟨by decide, by decide⟩ (fun c9 => ?_) (fun c9 => ?_)
          · refine qm_G.sp (lv1 := [(0, qm_R (some (1, 8, 0))), (1, qm_R (some (0, 43, 0))), (2, qm_I (qm_i x)), (3, qm_I (qm_i y)), (4, qm_I (qm_i (((x + 1) + 1) + 1)))]) rfl rfl (qm_x_iinc (lv' := [(4, qm_I (qm_i ((((x + 1) + 1) + 1) + 1))), (0, qm_R (some (1, 8, 0))), (1, qm_R (some (0, 43, 0))), (2, qm_I (qm_i x)), (3, qm_I (qm_i y))]) 1 rfl rfl rfl) ?_
            refine qm_G.s1 rfl (qm_x_goto) ?_
            refine qm_G.sp (lv1 := [(0, qm_R (some (1, 8, 0))), (1, qm_R (some (0, 43, 0))), (2, qm_I (qm_i x)), (3, qm_I (qm_i y)), (4, qm_I (qm_i ((((x + 1) + 1) + 1) + 1)))]) rfl rfl (qm_x_iload rfl) ?_
            refine qm_G.s1 rfl (qm_x_iload rfl) ?_
            refine qm_G.s1 rfl (qm_x_icmp_ge_t ⟨by omega, by omega⟩ ⟨by omega, by omega⟩ (by omega)) ?_
            refine qm_G.sp (lv1 := []) rfl rfl (qm_x_pushI 1 rfl) ?_
            refine qm_G.ret rfl rfl (k1 ?_)
            refine ⟨by show e = a + 4; omega, fun j hj => ?_⟩
            change j < 4 at hj
            rcases (show j = 0 ∨ j = 1 ∨ j = 2 ∨ j = 3 by omega) with c9 | c9 | c9 | c9
            · subst c9; exact (show T (a + 0) = 108 by omega)
            · subst c9; exact (show T (a + 1) = 105 by omega)
            · subst c9; exact (show T (a + 2) = 102 by omega)
            · subst c9; exact (show T (a + 3) = 116 by omega)
          · refine qm_G.s1 rfl (qm_x_pushI 0 rfl) ?_
            exact qm_G.ret rfl rfl (k0 (fun h => by have h9 : T (a + 3) = 116 := h.2 3 (by decide); omega))
        · refine qm_G.s1 rfl (qm_x_pushI 0 rfl) ?_
          exact qm_G.ret rfl rfl (k0 (fun h => by have h9 : T (a + 2) = 102 := h.2 2 (by decide); omega))
      · refine qm_G.s1 rfl (qm_x_pushI 0 rfl) ?_
        exact qm_G.ret rfl rfl (k0 (fun h => by have h9 : T (a + 1) = 105 := h.2 1 (by decide); omega))
    · refine qm_G.s1 rfl (qm_x_pushI 0 rfl) ?_
      exact qm_G.ret rfl rfl (k0 (fun h => by have h9 : T (a + 0) = 108 := h.2 0 (by decide); omega))
  · refine qm_G.sp (lv1 := []) rfl rfl (qm_x_pushI 0 rfl) ?_
    exact qm_G.ret rfl rfl (k0 (fun h => by have h9 : e = a + 4 := h.1; omega))
theorem qm_d_isa4 {S : List qm_Sh} {K : qm_J} {L : qm_Ct Int64} {D : qm_Ct UInt64} {R : qm_Ct (Option qm_Rf)} {X : Nat × (Nat → Int32)} {Q : Option qm_V → qm_Hp → Prop} {T : Nat → Int} {ln : Int} {J : qm_J} {x y : Int} {a e : Nat} (hS : qm_Sd S) (hR : qm_Rd R) (hK : ∀ i, i < 100 → K 43 0 i = T i ∧ 0 ≤ T i ∧ T i ≤ 127) (rl : 0 ≤ ln ∧ ln ≤ 100) (hx : x = (a : Int)) (hy : y = (e : Int)) (h1 : a ≤ e ∧ e ≤ 100) (k1 : qm_isw T a e 4 → Q (some (qm_I (qm_i 1))) (qm_H S J K L D R X)) (k0 : ¬ qm_isw T a e 4 → Q (some (qm_I (qm_i 0))) (qm_H S J K L D R X)) : qm_C qm_P 177 [qm_R (some (1, 9, 0)), qm_R (some (0, 43, 0)), qm_I (qm_i x), qm_I (qm_i y)] (qm_H S J K L D R X) Q := by
  refine qm_C.go (cd := qm_P177) (lv := [(0, qm_R (some (1, 9, 0))), (1, qm_R (some (0, 43, 0))), (2, qm_I (qm_i x)), (3, qm_I (qm_i y))]) rfl rfl ?_
  refine qm_G.s1 rfl (qm_x_iload rfl) ?_
  refine qm_G.s1 rfl (qm_x_if_lt_f ⟨by omega, by omega⟩ (by omega)) ?_
  refine qm_G.s1 rfl (qm_x_iload rfl) ?_
  refine qm_G.s1 rfl (qm_x_aload rfl) ?_
  refine qm_G.s1 rfl (qm_x_alen (hS 43 rfl) rfl) ?_
  refine qm_G.s1 rfl (qm_x_icmp_gt_f ⟨by omega, by omega⟩ ⟨by decide, by decide⟩ (by omega)) ?_
  refine qm_G.s1 rfl (qm_x_iload rfl) ?_
  refine qm_G.s1 rfl (qm_x_iload rfl) ?_
  refine qm_G.s1 rfl (qm_x_isub) ?_
  refine qm_G.s1 rfl (qm_x_aload rfl) ?_
  refine qm_G.s1 rfl (qm_x_getgR rfl rfl) ?_
  refine qm_G.call rfl rfl rfl ?_
  refine qm_C.go (cd := qm_P53) (lv := [(0, qm_R (some (1, 16, 0)))]) rfl rfl ?_
  refine qm_G.s1 rfl (qm_x_aload rfl) ?_
  refine qm_G.s1 rfl (qm_x_getgR rfl rfl) ?_
  refine qm_G.s1 rfl (qm_x_alen1 (len := 4) rfl) ?_
  refine qm_G.s1 rfl (qm_x_aload rfl) ?_
  refine qm_G.call rfl rfl rfl ?_
  refine qm_C.go (cd := qm_P0) (lv := [(0, qm_R (some (1, 16, 0)))]) rfl rfl ?_
  refine qm_G.s1 rfl (qm_x_pushI 1 rfl) ?_
  refine qm_G.s1 rfl (qm_x_if_eq_f ⟨by decide, by decide⟩ (by decide)) ?_
  refine qm_G.s1 rfl (qm_x_aload rfl) ?_
  refine qm_G.s1 rfl (qm_x_getgI (v := 0) rfl rfl) ?_
  refine qm_G.s1 rfl (qm_x_goto) ?_
  refine qm_G.ret rfl rfl ⟨_, rfl, ?_⟩
  refine qm_G.s1 rfl (qm_x_ishr0) ?_
  refine qm_G.ret rfl rfl ⟨_, rfl, ?_⟩
  refine qm_y_icmp_eq rfl ⟨by omega, by omega⟩ ⟨by decide, by decide⟩ (fun c1 => ?_) (fun c1 => ?_)
  · refine qm_G.sp (lv1 := [(0, qm_R (some (1, 9, 0))), (1, qm_R (some (0, 43, 0))), (2, qm_I (qm_i x)), (3, qm_I (qm_i y))]) rfl rfl (qm_x_iload rfl) ?_
    refine qm_G.s1 rfl (qm_x_istore (lv' := [(4, qm_I (qm_i x)), (0, qm_R (some (1, 9, 0))), (1, qm_R (some (0, 43, 0))), (2, qm_I (qm_i x)), (3, qm_I (qm_i y))]) rfl) ?_
    refine qm_G.sp (lv1 := [(0, qm_R (some (1, 9, 0))), (1, qm_R (some (0, 43, 0))), (2, qm_I (qm_i x)), (3, qm_I (qm_i y)), (4, qm_I (qm_i x))]) rfl rfl (qm_x_iload rfl) ?_
    refine qm_G.s1 rfl (qm_x_iload rfl) ?_
    refine qm_G.s1 rfl (qm_x_icmp_ge_f ⟨by omega, by omega⟩ ⟨by omega, by omega⟩ (by omega)) ?_
    refine qm_G.s1 rfl (qm_x_aload rfl) ?_
    refine qm_G.s1 rfl (qm_x_iload rfl) ?_
    have gT2 := (hK (a + 0) (by omega)).2
    refine qm_G.s1 rfl (qm_x_bald (v := T (a + 0)) (qm_arS hS rfl rfl) rfl (by omega) (by omega) (by decide) (by rw [show Int.toNat x = (a + 0) by omega]; exact (hK (a + 0) (by omega)).1) (by omega)) ?_
    refine qm_G.s1 rfl (qm_x_aload rfl) ?_
    refine qm_G.s1 rfl (qm_x_getgR rfl rfl) ?_
    refine qm_G.s1 rfl (qm_x_iload rfl) ?_
    refine qm_G.s1 rfl (qm_x_iload rfl) ?_
    refine qm_G.s1 rfl (qm_x_isub) ?_
    refine qm_G.call rfl rfl rfl ?_
    refine qm_C.go (cd := qm_P162) (lv := [(0, qm_R (some (1, 16, 0))), (1, qm_I (qm_i (x - x)))]) rfl rfl ?_
    refine qm_G.s1 rfl (qm_x_aload rfl) ?_
    refine qm_G.call rfl rfl rfl ?_
    refine qm_C.go (cd := qm_P1) (lv := [(0, qm_R (some (1, 16, 0)))]) rfl rfl ?_
    refine qm_G.s1 rfl (qm_x_pushI 1 rfl) ?_
    refine qm_G.s1 rfl (qm_x_if_eq_f ⟨by decide, by decide⟩ (by decide)) ?_
    refine qm_G.s1 rfl (qm_x_aload rfl) ?_
    refine qm_G.s1 rfl (qm_x_getgI (v := 0) rfl rfl) ?_
    refine qm_G.s1 rfl (qm_x_if_ne_f ⟨by decide, by decide⟩ (by decide)) ?_
    refine qm_G.s1 rfl (qm_x_pushI 1 rfl) ?_
    refine qm_G.s1 rfl (qm_x_goto) ?_
    refine qm_G.ret rfl rfl ⟨_, rfl, ?_⟩
    refine qm_G.s1 rfl (qm_x_if_eq_f ⟨by decide, by decide⟩ (by decide)) ?_
    refine qm_G.s1 rfl (qm_x_aload rfl) ?_
    refine qm_G.s1 rfl (qm_x_getgR rfl rfl) ?_
    refine qm_G.s1 rfl (qm_x_iload rfl) ?_
    refine qm_G.cs rfl rfl rfl ?_
    refine qm_C.go (cd := qm_P134) (lv := [(0, qm_R (some (1, 29, 0))), (1, qm_I (qm_i (x - x)))]) rfl rfl ?_
    refine qm_G.s1 rfl (qm_x_iload rfl) ?_
    refine qm_G.s1 rfl (qm_x_aload rfl) ?_
    refine qm_G.s1 rfl (qm_x_alen1 (len := 4) rfl) ?_
    refine qm_G.csv rfl rfl rfl ?_
    refine qm_C.go (cd := qm_P69) (lv := [(0, qm_I (qm_i (x - x))), (1, qm_I (qm_i 4))]) rfl rfl ?_
    refine qm_G.s1 rfl (qm_x_iload rfl) ?_
    refine qm_G.s1 rfl (qm_x_iload rfl) ?_
    refine qm_G.s1 rfl (show qm_St (qm_o_sio 5) _ _ _ _ _ (qm_R (qm_sio X) :: _) _ from rfl) ?_
    refine qm_G.cs rfl rfl rfl ?_
    refine qm_C.go (cd := qm_P3) (lv := [(0, qm_I (qm_i (x - x))), (1, qm_I (qm_i 4)), (2, qm_R ((qm_sio X)))]) rfl rfl ?_
    refine qm_G.s1 rfl (qm_x_iload rfl) ?_
    refine qm_G.s1 rfl (qm_x_if_lt_f ⟨by omega, by omega⟩ (by omega)) ?_
    refine qm_G.s1 rfl (qm_x_iload rfl) ?_
    refine qm_G.s1 rfl (qm_x_iload rfl) ?_
    refine qm_G.s1 rfl (qm_x_icmp_lt_t ⟨by omega, by omega⟩ ⟨by decide, by decide⟩ (by omega)) ?_
    refine qm_G.sp (lv1 := [(0, qm_I (qm_i (x - x)))]) rfl rfl (qm_x_iload rfl) ?_
    refine qm_G.ret rfl rfl ⟨_, rfl, ?_⟩
    refine qm_G.s1 rfl (qm_x_popI) ?_
    refine qm_G.retv rfl ⟨rfl, ?_⟩
    refine qm_G.s1 rfl (qm_x_aload rfl) ?_
    refine qm_G.s1 rfl (qm_x_iload rfl) ?_
    refine qm_G.s1 rfl (qm_x_bald1 (len := 4) (v := 112) rfl rfl (by omega) (by omega) (by rw [show Int.toNat (x - x) = 0 by omega]; rfl)) ?_
    refine qm_G.s1 rfl (qm_x_pushI 255 rfl) ?_
    refine qm_G.s1 rfl (qm_x_iand255 (by omega)) ?_
    refine qm_G.s1 rfl (qm_x_i2c (by omega)) ?_
    refine qm_G.ret rfl rfl ⟨_, rfl, ?_⟩
    refine qm_G.ret rfl rfl ⟨_, rfl, ?_⟩
    refine qm_y_icmp_eq rfl ⟨by omega, by omega⟩ ⟨by decide, by decide⟩ (fun c3 => ?_) (fun c3 => ?_)
    · refine qm_G.sp (lv1 := [(0, qm_R (some (1, 9, 0))), (1, qm_R (some (0, 43, 0))), (2, qm_I (qm_i x)), (3, qm_I (qm_i y)), (4, qm_I (qm_i x))]) rfl rfl (qm_x_iinc (lv' := [(4, qm_I (qm_i (x + 1))), (0, qm_R (some (1, 9, 0))), (1, qm_R (some (0, 43, 0))), (2, qm_I (qm_i x)), (3, qm_I (qm_i y))]) 1 rfl rfl rfl) ?_
      refine qm_G.s1 rfl (qm_x_goto) ?_
      refine qm_G.sp (lv1 := [(0, qm_R (some (1, 9, 0))), (1, qm_R (some (0, 43, 0))), (2, qm_I (qm_i x)), (3, qm_I (qm_i y)), (4, qm_I (qm_i (x + 1)))]) rfl rfl (qm_x_iload rfl) ?_
      refine qm_G.s1 rfl (qm_x_iload rfl) ?_
      refine qm_G.s1 rfl (qm_x_icmp_ge_f ⟨by omega, by omega⟩ ⟨by omega, by omega⟩ (by omega)) ?_
      refine qm_G.s1 rfl (qm_x_aload rfl) ?_
      refine qm_G.s1 rfl (qm_x_iload rfl) ?_
      have gT4 := (hK (a + 1) (by omega)).2
      refine qm_G.s1 rfl (qm_x_bald (v := T (a + 1)) (qm_arS hS rfl rfl) rfl (by omega) (by omega) (by decide) (by rw [show Int.toNat (x + 1) = (a + 1) by omega]; exact (hK (a + 1) (by omega)).1) (by omega)) ?_
      refine qm_G.s1 rfl (qm_x_aload rfl) ?_
      refine qm_G.s1 rfl (qm_x_getgR rfl rfl) ?_
      refine qm_G.s1 rfl (qm_x_iload rfl) ?_
      refine qm_G.s1 rfl (qm_x_iload rfl) ?_
      refine qm_G.s1 rfl (qm_x_isub) ?_
      refine qm_G.call rfl rfl rfl ?_
      refine qm_C.go (cd := qm_P162) (lv := [(0, qm_R (some (1, 16, 0))), (1, qm_I (qm_i ((x + 1) - x)))]) rfl rfl ?_
      refine qm_G.s1 rfl (qm_x_aload rfl) ?_
      refine qm_G.call rfl rfl rfl ?_
      refine qm_C.go (cd := qm_P1) (lv := [(0, qm_R (some (1, 16, 0)))]) rfl rfl ?_
      refine qm_G.s1 rfl (qm_x_pushI 1 rfl) ?_
      refine qm_G.s1 rfl (qm_x_if_eq_f ⟨by decide, by decide⟩ (by decide)) ?_
      refine qm_G.s1 rfl (qm_x_aload rfl) ?_
      refine qm_G.s1 rfl (qm_x_getgI (v := 0) rfl rfl) ?_
      refine qm_G.s1 rfl (qm_x_if_ne_f ⟨by decide, by decide⟩ (by decide)) ?_
      refine qm_G.s1 rfl (qm_x_pushI 1 rfl) ?_
      refine qm_G.s1 rfl (qm_x_goto) ?_
      refine qm_G.ret rfl rfl ⟨_, rfl, ?_⟩
      refine qm_G.s1 rfl (qm_x_if_eq_f ⟨by decide, by decide⟩ (by decide)) ?_
      refine qm_G.s1 rfl (qm_x_aload rfl) ?_
      refine qm_G.s1 rfl (qm_x_getgR rfl rfl) ?_
      refine qm_G.s1 rfl (qm_x_iload rfl) ?_
      refine qm_G.cs rfl rfl rfl ?_
      refine qm_C.go (cd := qm_P134) (lv := [(0, qm_R (some (1, 29, 0))), (1, qm_I (qm_i ((x + 1) - x)))]) rfl rfl ?_
      refine qm_G.s1 rfl (qm_x_iload rfl) ?_
      refine qm_G.s1 rfl (qm_x_aload rfl) ?_
      refine qm_G.s1 rfl (qm_x_alen1 (len := 4) rfl) ?_
      refine qm_G.csv rfl rfl rfl ?_
      refine qm_C.go (cd := qm_P69) (lv := [(0, qm_I (qm_i ((x + 1) - x))), (1, qm_I (qm_i 4))]) rfl rfl ?_
      refine qm_G.s1 rfl (qm_x_iload rfl) ?_
      refine qm_G.s1 rfl (qm_x_iload rfl) ?_
      refine qm_G.s1 rfl (show qm_St (qm_o_sio 5) _ _ _ _ _ (qm_R (qm_sio X) :: _) _ from rfl) ?_
      refine qm_G.cs rfl rfl rfl ?_
      refine qm_C.go (cd := qm_P3) (lv := [(0, qm_I (qm_i ((x + 1) - x))), (1, qm_I (qm_i 4)), (2, qm_R ((qm_sio X)))]) rfl rfl ?_
      refine qm_G.s1 rfl (qm_x_iload rfl) ?_
      refine qm_G.s1 rfl (qm_x_if_lt_f ⟨by omega, by omega⟩ (by omega)) ?_
      refine qm_G.s1 rfl (qm_x_iload rfl) ?_
      refine qm_G.s1 rfl (qm_x_iload rfl) ?_
      refine qm_G.s1 rfl (qm_x_icmp_lt_t ⟨by omega, by omega⟩ ⟨by decide, by decide⟩ (by omega)) ?_
      refine qm_G.sp (lv1 := [(0, qm_I (qm_i ((x + 1) - x)))]) rfl rfl (qm_x_iload rfl) ?_
      refine qm_G.ret rfl rfl ⟨_, rfl, ?_⟩
      refine qm_G.s1 rfl (qm_x_popI) ?_
      refine qm_G.retv rfl ⟨rfl, ?_⟩
      refine qm_G.s1 rfl (qm_x_aload rfl) ?_
      refine qm_G.s1 rfl (qm_x_iload rfl) ?_
      refine qm_G.s1 rfl (qm_x_bald1 (len := 4) (v := 117) rfl rfl (by omega) (by omega) (by rw [show Int.toNat ((x + 1) - x) = 1 by omega]; rfl)) ?_
      refine qm_G.s1 rfl (qm_x_pushI 255 rfl) ?_
      refine qm_G.s1 rfl (qm_x_iand255 (by omega)) ?_
      refine qm_G.s1 rfl (qm_x_i2c (by omega)) ?_
      refine qm_G.ret rfl rfl ⟨_, rfl, ?_⟩
      refine qm_G.ret rfl rfl ⟨_, rfl, ?_⟩
      refine qm_y_icmp_eq rfl ⟨by omega, by omega⟩ ⟨by decide, by decide⟩ (fun c5 => ?_) (fun c5 => ?_)
      · refine qm_G.sp (lv1 := [(0, qm_R (some (1, 9, 0))), (1, qm_R (some (0, 43, 0))), (2, qm_I (qm_i x)), (3, qm_I (qm_i y)), (4, qm_I (qm_i (x + 1)))]) rfl rfl (qm_x_iinc (lv' := [(4, qm_I (qm_i ((x + 1) + 1))), (0, qm_R (some (1, 9, 0))), (1, qm_R (some (0, 43, 0))), (2, qm_I (qm_i x)), (3, qm_I (qm_i y))]) 1 rfl rfl rfl) ?_
        refine qm_G.s1 rfl (qm_x_goto) ?_
        refine qm_G.sp (lv1 := [(0, qm_R (some (1, 9, 0))), (1, qm_R (some (0, 43, 0))), (2, qm_I (qm_i x)), (3, qm_I (qm_i y)), (4, qm_I (qm_i ((x + 1) + 1)))]) rfl rfl (qm_x_iload rfl) ?_
        refine qm_G.s1 rfl (qm_x_iload rfl) ?_
        refine qm_G.s1 rfl (qm_x_icmp_ge_f ⟨by omega, by omega⟩ ⟨by omega, by omega⟩ (by omega)) ?_
        refine qm_G.s1 rfl (qm_x_aload rfl) ?_
        refine qm_G.s1 rfl (qm_x_iload rfl) ?_
        have gT6 := (hK (a + 2) (by omega)).2
        refine qm_G.s1 rfl (qm_x_bald (v := T (a + 2)) (qm_arS hS rfl rfl) rfl (by omega) (by omega) (by decide) (by rw [show Int.toNat ((x + 1) + 1) = (a + 2) by omega]; exact (hK (a + 2) (by omega)).1) (by omega)) ?_
        refine qm_G.s1 rfl (qm_x_aload rfl) ?_
        refine qm_G.s1 rfl (qm_x_getgR rfl rfl) ?_
        refine qm_G.s1 rfl (qm_x_iload rfl) ?_
        refine qm_G.s1 rfl (qm_x_iload rfl) ?_
        refine qm_G.s1 rfl (qm_x_isub) ?_
        refine qm_G.call rfl rfl rfl ?_
        refine qm_C.go (cd := qm_P162) (lv := [(0, qm_R (some (1, 16, 0))), (1, qm_I (qm_i (((x + 1) + 1) - x)))]) rfl rfl ?_
        refine qm_G.s1 rfl (qm_x_aload rfl) ?_
        refine qm_G.call rfl rfl rfl ?_
        refine qm_C.go (cd := qm_P1) (lv := [(0, qm_R (some (1, 16, 0)))]) rfl rfl ?_
        refine qm_G.s1 rfl (qm_x_pushI 1 rfl) ?_
        refine qm_G.s1 rfl (qm_x_if_eq_f ⟨by decide, by decide⟩ (by decide)) ?_
        refine qm_G.s1 rfl (qm_x_aload rfl) ?_
        refine qm_G.s1 rfl (qm_x_getgI (v := 0) rfl rfl) ?_
        refine qm_G.s1 rfl (qm_x_if_ne_f ⟨by decide, by decide⟩ (by decide)) ?_
        refine qm_G.s1 rfl (qm_x_pushI 1 rfl) ?_
        refine qm_G.s1 rfl (qm_x_goto) ?_
        refine qm_G.ret rfl rfl ⟨_, rfl, ?_⟩
        refine qm_G.s1 rfl (qm_x_if_eq_f ⟨by decide, by decide⟩ (by decide)) ?_
        refine qm_G.s1 rfl (qm_x_aload rfl) ?_
        refine qm_G.s1 rfl (qm_x_getgR rfl rfl) ?_
        refine qm_G.s1 rfl (qm_x_iload rfl) ?_
        refine qm_G.cs rfl rfl rfl ?_
        refine qm_C.go (cd := qm_P134) (lv := [(0, qm_R (some (1, 29, 0))), (1, qm_I (qm_i (((x + 1) + 1) - x)))]) rfl rfl ?_
        refine qm_G.s1 rfl (qm_x_iload rfl) ?_
        refine qm_G.s1 rfl (qm_x_aload rfl) ?_
        refine qm_G.s1 rfl (qm_x_alen1 (len := 4) rfl) ?_
        refine qm_G.csv rfl rfl rfl ?_
        refine qm_C.go (cd := qm_P69) (lv := [(0, qm_I (qm_i (((x + 1) + 1) - x))), (1, qm_I (qm_i 4))]) rfl rfl ?_
        refine qm_G.s1 rfl (qm_x_iload rfl) ?_
        refine qm_G.s1 rfl (qm_x_iload rfl) ?_
        refine qm_G.s1 rfl (show qm_St (qm_o_sio 5) _ _ _ _ _ (qm_R (qm_sio X) :: _) _ from rfl) ?_
        refine qm_G.cs rfl rfl rfl ?_
        refine qm_C.go (cd := qm_P3) (lv := [(0, qm_I (qm_i (((x + 1) + 1) - x))), (1, qm_I (qm_i 4)), (2, qm_R ((qm_sio X)))]) rfl rfl ?_
        refine qm_G.s1 rfl (qm_x_iload rfl) ?_
        refine qm_G.s1 rfl (qm_x_if_lt_f ⟨by omega, by omega⟩ (by omega)) ?_
        refine qm_G.s1 rfl (qm_x_iload rfl) ?_
        refine qm_G.s1 rfl (qm_x_iload rfl) ?_
        refine qm_G.s1 rfl (qm_x_icmp_lt_t ⟨by omega, by omega⟩ ⟨by decide, by decide⟩ (by omega)) ?_
        refine qm_G.sp (lv1 := [(0, qm_I (qm_i (((x + 1) + 1) - x)))]) rfl rfl (qm_x_iload rfl) ?_
        refine qm_G.ret rfl rfl ⟨_, rfl, ?_⟩
        refine qm_G.s1 rfl (qm_x_popI) ?_
        refine qm_G.retv rfl ⟨rfl, ?_⟩
        refine qm_G.s1 rfl (qm_x_aload rfl) ?_
        refine qm_G.s1 rfl (qm_x_iload rfl) ?_
        refine qm_G.s1 rfl (qm_x_bald1 (len := 4) (v := 108) rfl rfl (by omega) (by omega) (by rw [show Int.toNat (((x + 1) + 1) - x) = 2 by omega]; rfl)) ?_
        refine qm_G.s1 rfl (qm_x_pushI 255 rfl) ?_
        refine qm_G.s1 rfl (qm_x_iand255 (by omega)) ?_
        refine qm_G.s1 rfl (qm_x_i2c (by omega)) ?_
        refine qm_G.ret rfl rfl ⟨_, rfl, ?_⟩
        refine qm_G.ret rfl rfl ⟨_, rfl, ?_⟩
        refine qm_y_icmp_eq rfl ⟨by omega, by omega⟩ ⟨by decide, by decide⟩ (fun c7 => ?_) (fun c7 => ?_)
        · refine qm_G.sp (lv1 := [(0, qm_R (some (1, 9, 0))), (1, qm_R (some (0, 43, 0))), (2, qm_I (qm_i x)), (3, qm_I (qm_i y)), (4, qm_I (qm_i ((x + 1) + 1)))]) rfl rfl (qm_x_iinc (lv' := [(4, qm_I (qm_i (((x + 1) + 1) + 1))), (0, qm_R (some (1, 9, 0))), (1, qm_R (some (0, 43, 0))), (2, qm_I (qm_i x)), (3, qm_I (qm_i y))]) 1 rfl rfl rfl) ?_
          refine qm_G.s1 rfl (qm_x_goto) ?_
          refine qm_G.sp (lv1 := [(0, qm_R (some (1, 9, 0))), (1, qm_R (some (0, 43, 0))), (2, qm_I (qm_i x)), (3, qm_I (qm_i y)), (4, qm_I (qm_i (((x + 1) + 1) + 1)))]) rfl rfl (qm_x_iload rfl) ?_
          refine qm_G.s1 rfl (qm_x_iload rfl) ?_
          refine qm_G.s1 rfl (qm_x_icmp_ge_f ⟨by omega, by omega⟩ ⟨by omega, by omega⟩ (by omega)) ?_
          refine qm_G.s1 rfl (qm_x_aload rfl) ?_
          refine qm_G.s1 rfl (qm_x_iload rfl) ?_
          have gT8 := (hK (a + 3) (by omega)).2
          refine qm_G.s1 rfl (qm_x_bald (v := T (a + 3)) (qm_arS hS rfl rfl) rfl (by omega) (by omega) (by decide) (by rw [show Int.toNat (((x + 1) + 1) + 1) = (a + 3) by omega]; exact (hK (a + 3) (by omega)).1) (by omega)) ?_
          refine qm_G.s1 rfl (qm_x_aload rfl) ?_
          refine qm_G.s1 rfl (qm_x_getgR rfl rfl) ?_
          refine qm_G.s1 rfl (qm_x_iload rfl) ?_
          refine qm_G.s1 rfl (qm_x_iload rfl) ?_
          refine qm_G.s1 rfl (qm_x_isub) ?_
          refine qm_G.call rfl rfl rfl ?_
          refine qm_C.go (cd := qm_P162) (lv := [(0, qm_R (some (1, 16, 0))), (1, qm_I (qm_i ((((x + 1) + 1) + 1) - x)))]) rfl rfl ?_
          refine qm_G.s1 rfl (qm_x_aload rfl) ?_
          refine qm_G.call rfl rfl rfl ?_
          refine qm_C.go (cd := qm_P1) (lv := [(0, qm_R (some (1, 16, 0)))]) rfl rfl ?_
          refine qm_G.s1 rfl (qm_x_pushI 1 rfl) ?_
          refine qm_G.s1 rfl (qm_x_if_eq_f ⟨by decide, by decide⟩ (by decide)) ?_
          refine qm_G.s1 rfl (qm_x_aload rfl) ?_
          refine qm_G.s1 rfl (qm_x_getgI (v := 0) rfl rfl) ?_
          refine qm_G.s1 rfl (qm_x_if_ne_f ⟨by decide, by decide⟩ (by decide)) ?_
          refine qm_G.s1 rfl (qm_x_pushI 1 rfl) ?_
          refine qm_G.s1 rfl (qm_x_goto) ?_
          refine qm_G.ret rfl rfl ⟨_, rfl, ?_⟩
          refine qm_G.s1 rfl (qm_x_if_eq_f ⟨by decide, by decide⟩ (by decide)) ?_
          refine qm_G.s1 rfl (qm_x_aload rfl) ?_
          refine qm_G.s1 rfl (qm_x_getgR rfl rfl) ?_
          refine qm_G.s1 rfl (qm_x_iload rfl) ?_
          refine qm_G.cs rfl rfl rfl ?_
          refine qm_C.go (cd := qm_P134) (lv := [(0, qm_R (some (1, 29, 0))), (1, qm_I (qm_i ((((x + 1) + 1) + 1) - x)))]) rfl rfl ?_
          refine qm_G.s1 rfl (qm_x_iload rfl) ?_
          refine qm_G.s1 rfl (qm_x_aload rfl) ?_
          refine qm_G.s1 rfl (qm_x_alen1 (len := 4) rfl) ?_
          refine qm_G.csv rfl rfl rfl ?_
          refine qm_C.go (cd := qm_P69) (lv := [(0, qm_I (qm_i ((((x + 1) + 1) + 1) - x))), (1, qm_I (qm_i 4))]) rfl rfl ?_
          refine qm_G.s1 rfl (qm_x_iload rfl) ?_
          refine qm_G.s1 rfl (qm_x_iload rfl) ?_
          refine qm_G.s1 rfl (show qm_St (qm_o_sio 5) _ _ _ _ _ (qm_R (qm_sio X) :: _) _ from rfl) ?_
          refine qm_G.cs rfl rfl rfl ?_
          refine qm_C.go (cd := qm_P3) (lv := [(0, qm_I (qm_i ((((x + 1) + 1) + 1) - x))), (1, qm_I (qm_i 4)), (2, qm_R ((qm_sio X)))]) rfl rfl ?_
          refine qm_G.s1 rfl (qm_x_iload rfl) ?_
          refine qm_G.s1 rfl (qm_x_if_lt_f ⟨by omega, by omega⟩ (by omega)) ?_
          refine qm_G.s1 rfl (qm_x_iload rfl) ?_
          refine qm_G.s1 rfl (qm_x_iload rfl) ?_
          refine qm_G.s1 rfl (qm_x_icmp_lt_t ⟨by omega, by omega⟩ ⟨by decide, by decide⟩ (by omega)) ?_
          refine qm_G.sp (lv1 := [(0, qm_I (qm_i ((((x + 1) + 1) + 1) - x)))]) rfl rfl (qm_x_iload rfl) ?_
          refine qm_G.ret rfl rfl ⟨_, rfl, ?_⟩
          refine qm_G.s1 rfl (qm_x_popI) ?_
          refine qm_G.retv rfl ⟨rfl, ?_⟩
          refine qm_G.s1 rfl (qm_x_aload rfl) ?_
          refine qm_G.s1 rfl (qm_x_iload rfl) ?_
          refine qm_G.s1 rfl (qm_x_bald1 (len := 4) (v := 108) rfl rfl (by omega) (by omega) (by rw [show Int.toNat ((((x + 1) + 1) + 1) - x) = 3 by omega]; rfl)) ?_
          refine qm_G.s1 rfl (qm_x_pushI 255 rfl) ?_
          refine qm_G.s1 rfl (qm_x_iand255 (by omega)) ?_
          refine qm_G.s1 rfl (qm_x_i2c (by omega)) ?_
          refine qm_G.ret rfl rfl ⟨_, rfl, ?_⟩
          refine qm_G.ret rfl rfl ⟨_, rfl, ?_⟩
          refine qm_y_icmp_eq rfl ⟨by omega, by omega⟩ ⟨by decide, by decide⟩ (fun c9 => ?_) (fun c9 => ?_)
          · refine qm_G.sp (lv1 := [(0, qm_R (some (1, 9, 0))), (1, qm_R (some (0, 43, 0))), (2, qm_I (qm_i x)), (3, qm_I (qm_i y)), (4, qm_I (qm_i (((x + 1) + 1) + 1)))]) rfl rfl (qm_x_iinc (lv' := [(4, qm_I (qm_i ((((x + 1) + 1) + 1) + 1))), (0, qm_R (some (1, 9, 0))), (1, qm_R (some (0, 43, 0))), (2, qm_I (qm_i x)), (3, qm_I (qm_i y))]) 1 rfl rfl rfl) ?_
            refine qm_G.s1 rfl (qm_x_goto) ?_
            refine qm_G.sp (lv1 := [(0, qm_R (some (1, 9, 0))), (1, qm_R (some (0, 43, 0))), (2, qm_I (qm_i x)), (3, qm_I (qm_i y)), (4, qm_I (qm_i ((((x + 1) + 1) + 1) + 1)))]) rfl rfl (qm_x_iload rfl) ?_
            refine qm_G.s1 rfl (qm_x_iload rfl) ?_
            refine qm_G.s1 rfl (qm_x_icmp_ge_t ⟨by omega, by omega⟩ ⟨by omega, by omega⟩ (by omega)) ?_
            refine qm_G.sp (lv1 := []) rfl rfl (qm_x_pushI 1 rfl) ?_
            refine qm_G.ret rfl rfl (k1 ?_)
            refine ⟨by show e = a + 4; omega, fun j hj => ?_⟩
            change j < 4 at hj
            rcases (show j = 0 ∨ j = 1 ∨ j = 2 ∨ j = 3 by omega) with c9 | c9 | c9 | c9
            · subst c9; exact (show T (a + 0) = 112 by omega)
            · subst c9; exact (show T (a + 1) = 117 by omega)
            · subst c9; exact (show T (a + 2) = 108 by omega)
            · subst c9; exact (show T (a + 3) = 108 by omega)
          · refine qm_G.s1 rfl (qm_x_pushI 0 rfl) ?_
            exact qm_G.ret rfl rfl (k0 (fun h => by have h9 : T (a + 3) = 108 := h.2 3 (by decide); omega))
        · refine qm_G.s1 rfl (qm_x_pushI 0 rfl) ?_
          exact qm_G.ret rfl rfl (k0 (fun h => by have h9 : T (a + 2) = 108 := h.2 2 (by decide); omega))
      · refine qm_G.s1 rfl (qm_x_pushI 0 rfl) ?_
        exact qm_G.ret rfl rfl (k0 (fun h => by have h9 : T (a + 1) = 117 := h.2 1 (by decide); omega))
    · refine qm_G.s1 rfl (qm_x_pushI 0 rfl) ?_
      exact qm_G.ret rfl rfl (k0 (fun h => by have h9 : T (a + 0) = 112 := h.2 0 (by decide); omega))
  · refine qm_G.sp (lv1 := []) rfl rfl (qm_x_pushI 0 rfl) ?_
    exact qm_G.ret rfl rfl (k0 (fun h => by have h9 : e = a + 4 := h.1; omega))
theorem qm_d_isa5 {S : List qm_Sh} {K : qm_J} {L : qm_Ct Int64} {D : qm_Ct UInt64} {R : qm_Ct (Option qm_Rf)} {X : Nat × (Nat → Int32)} {Q : Option qm_V → qm_Hp → Prop} {T : Nat → Int} {ln : Int} {J : qm_J} {x y : Int} {a e : Nat} (hS : qm_Sd S) (hR : qm_Rd R) (hK : ∀ i, i < 100 → K 43 0 i = T i ∧ 0 ≤ T i ∧ T i ≤ 127) (rl : 0 ≤ ln ∧ ln ≤ 100) (hx : x = (a : Int)) (hy : y = (e : Int)) (h1 : a ≤ e ∧ e ≤ 100) (k1 : qm_isw T a e 5 → Q (some (qm_I (qm_i 1))) (qm_H S J K L D R X)) (k0 : ¬ qm_isw T a e 5 → Q (some (qm_I (qm_i 0))) (qm_H S J K L D R X)) : qm_C qm_P 177 [qm_R (some (1, 10, 0)), qm_R (some (0, 43, 0)), qm_I (qm_i x), qm_I (qm_i y)] (qm_H S J K L D R X) Q := by
  refine qm_C.go (cd := qm_P177) (lv := [(0, qm_R (some (1, 10, 0))), (1, qm_R (some (0, 43, 0))), (2, qm_I (qm_i x)), (3, qm_I (qm_i y))]) rfl rfl ?_
  refine qm_G.s1 rfl (qm_x_iload rfl) ?_
  refine qm_G.s1 rfl (qm_x_if_lt_f ⟨by omega, by omega⟩ (by omega)) ?_
  refine qm_G.s1 rfl (qm_x_iload rfl) ?_
  refine qm_G.s1 rfl (qm_x_aload rfl) ?_
  refine qm_G.s1 rfl (qm_x_alen (hS 43 rfl) rfl) ?_
  refine qm_G.s1 rfl (qm_x_icmp_gt_f ⟨by omega, by omega⟩ ⟨by decide, by decide⟩ (by omega)) ?_
  refine qm_G.s1 rfl (qm_x_iload rfl) ?_
  refine qm_G.s1 rfl (qm_x_iload rfl) ?_
  refine qm_G.s1 rfl (qm_x_isub) ?_
  refine qm_G.s1 rfl (qm_x_aload rfl) ?_
  refine qm_G.s1 rfl (qm_x_getgR rfl rfl) ?_
  refine qm_G.call rfl rfl rfl ?_
  refine qm_C.go (cd := qm_P53) (lv := [(0, qm_R (some (1, 17, 0)))]) rfl rfl ?_
  refine qm_G.s1 rfl (qm_x_aload rfl) ?_
  refine qm_G.s1 rfl (qm_x_getgR rfl rfl) ?_
  refine qm_G.s1 rfl (qm_x_alen1 (len := 4) rfl) ?_
  refine qm_G.s1 rfl (qm_x_aload rfl) ?_
  refine qm_G.call rfl rfl rfl ?_
  refine qm_C.go (cd := qm_P0) (lv := [(0, qm_R (some (1, 17, 0)))]) rfl rfl ?_
  refine qm_G.s1 rfl (qm_x_pushI 1 rfl) ?_
  refine qm_G.s1 rfl (qm_x_if_eq_f ⟨by decide, by decide⟩ (by decide)) ?_
  refine qm_G.s1 rfl (qm_x_aload rfl) ?_
  refine qm_G.s1 rfl (qm_x_getgI (v := 0) rfl rfl) ?_
  refine qm_G.s1 rfl (qm_x_goto) ?_
  refine qm_G.ret rfl rfl ⟨_, rfl, ?_⟩
  refine qm_G.s1 rfl (qm_x_ishr0) ?_
  refine qm_G.ret rfl rfl ⟨_, rfl, ?_⟩
  refine qm_y_icmp_eq rfl ⟨by omega, by omega⟩ ⟨by decide, by decide⟩ (fun c1 => ?_) (fun c1 => ?_)
  · refine qm_G.sp (lv1 := [(0, qm_R (some (1, 10, 0))), (1, qm_R (some (0, 43, 0))), (2, qm_I (qm_i x)), (3, qm_I (qm_i y))]) rfl rfl (qm_x_iload rfl) ?_
    refine qm_G.s1 rfl (qm_x_istore (lv' := [(4, qm_I (qm_i x)), (0, qm_R (some (1, 10, 0))), (1, qm_R (some (0, 43, 0))), (2, qm_I (qm_i x)), (3, qm_I (qm_i y))]) rfl) ?_
    refine qm_G.sp (lv1 := [(0, qm_R (some (1, 10, 0))), (1, qm_R (some (0, 43, 0))), (2, qm_I (qm_i x)), (3, qm_I (qm_i y)), (4, qm_I (qm_i x))]) rfl rfl (qm_x_iload rfl) ?_
    refine qm_G.s1 rfl (qm_x_iload rfl) ?_
    refine qm_G.s1 rfl (qm_x_icmp_ge_f ⟨by omega, by omega⟩ ⟨by omega, by omega⟩ (by omega)) ?_
    refine qm_G.s1 rfl (qm_x_aload rfl) ?_
    refine qm_G.s1 rfl (qm_x_iload rfl) ?_
    have gT2 := (hK (a + 0) (by omega)).2
    refine qm_G.s1 rfl (qm_x_bald (v := T (a + 0)) (qm_arS hS rfl rfl) rfl (by omega) (by omega) (by decide) (by rw [show Int.toNat x = (a + 0) by omega]; exact (hK (a + 0) (by omega)).1) (by omega)) ?_
    refine qm_G.s1 rfl (qm_x_aload rfl) ?_
    refine qm_G.s1 rfl (qm_x_getgR rfl rfl) ?_
    refine qm_G.s1 rfl (qm_x_iload rfl) ?_
    refine qm_G.s1 rfl (qm_x_iload rfl) ?_
    refine qm_G.s1 rfl (qm_x_isub) ?_
    refine qm_G.call rfl rfl rfl ?_
    refine qm_C.go (cd := qm_P162) (lv := [(0, qm_R (some (1, 17, 0))), (1, qm_I (qm_i (x - x)))]) rfl rfl ?_
    refine qm_G.s1 rfl (qm_x_aload rfl) ?_
    refine qm_G.call rfl rfl rfl ?_
    refine qm_C.go (cd := qm_P1) (lv := [(0, qm_R (some (1, 17, 0)))]) rfl rfl ?_
    refine qm_G.s1 rfl (qm_x_pushI 1 rfl) ?_
    refine qm_G.s1 rfl (qm_x_if_eq_f ⟨by decide, by decide⟩ (by decide)) ?_
    refine qm_G.s1 rfl (qm_x_aload rfl) ?_
    refine qm_G.s1 rfl (qm_x_getgI (v := 0) rfl rfl) ?_
    refine qm_G.s1 rfl (qm_x_if_ne_f ⟨by decide, by decide⟩ (by decide)) ?_
    refine qm_G.s1 rfl (qm_x_pushI 1 rfl) ?_
    refine qm_G.s1 rfl (qm_x_goto) ?_
    refine qm_G.ret rfl rfl ⟨_, rfl, ?_⟩
    refine qm_G.s1 rfl (qm_x_if_eq_f ⟨by decide, by decide⟩ (by decide)) ?_
    refine qm_G.s1 rfl (qm_x_aload rfl) ?_
    refine qm_G.s1 rfl (qm_x_getgR rfl rfl) ?_
    refine qm_G.s1 rfl (qm_x_iload rfl) ?_
    refine qm_G.cs rfl rfl rfl ?_
    refine qm_C.go (cd := qm_P134) (lv := [(0, qm_R (some (1, 30, 0))), (1, qm_I (qm_i (x - x)))]) rfl rfl ?_
    refine qm_G.s1 rfl (qm_x_iload rfl) ?_
    refine qm_G.s1 rfl (qm_x_aload rfl) ?_
    refine qm_G.s1 rfl (qm_x_alen1 (len := 4) rfl) ?_
    refine qm_G.csv rfl rfl rfl ?_
    refine qm_C.go (cd := qm_P69) (lv := [(0, qm_I (qm_i (x - x))), (1, qm_I (qm_i 4))]) rfl rfl ?_
    refine qm_G.s1 rfl (qm_x_iload rfl) ?_
    refine qm_G.s1 rfl (qm_x_iload rfl) ?_
    refine qm_G.s1 rfl (show qm_St (qm_o_sio 5) _ _ _ _ _ (qm_R (qm_sio X) :: _) _ from rfl) ?_
    refine qm_G.cs rfl rfl rfl ?_
    refine qm_C.go (cd := qm_P3) (lv := [(0, qm_I (qm_i (x - x))), (1, qm_I (qm_i 4)), (2, qm_R ((qm_sio X)))]) rfl rfl ?_
    refine qm_G.s1 rfl (qm_x_iload rfl) ?_
    refine qm_G.s1 rfl (qm_x_if_lt_f ⟨by omega, by omega⟩ (by omega)) ?_
    refine qm_G.s1 rfl (qm_x_iload rfl) ?_
    refine qm_G.s1 rfl (qm_x_iload rfl) ?_
    refine qm_G.s1 rfl (qm_x_icmp_lt_t ⟨by omega, by omega⟩ ⟨by decide, by decide⟩ (by omega)) ?_
    refine qm_G.sp (lv1 := [(0, qm_I (qm_i (x - x)))]) rfl rfl (qm_x_iload rfl) ?_
    refine qm_G.ret rfl rfl ⟨_, rfl, ?_⟩
    refine qm_G.s1 rfl (qm_x_popI) ?_
    refine qm_G.retv rfl ⟨rfl, ?_⟩
    refine qm_G.s1 rfl (qm_x_aload rfl) ?_
    refine qm_G.s1 rfl (qm_x_iload rfl) ?_
    refine qm_G.s1 rfl (qm_x_bald1 (len := 4) (v := 102) rfl rfl (by omega) (by omega) (by rw [show Int.toNat (x - x) = 0 by omega]; rfl)) ?_
    refine qm_G.s1 rfl (qm_x_pushI 255 rfl) ?_
    refine qm_G.s1 rfl (qm_x_iand255 (by omega)) ?_
    refine qm_G.s1 rfl (qm_x_i2c (by omega)) ?_
    refine qm_G.ret rfl rfl ⟨_, rfl, ?_⟩
    refine qm_G.ret rfl rfl ⟨_, rfl, ?_⟩
    refine qm_y_icmp_eq rfl ⟨by omega, by omega⟩ ⟨by decide, by decide⟩ (fun c3 => ?_) (fun c3 => ?_)
    · refine qm_G.sp (lv1 := [(0, qm_R (some (1, 10, 0))), (1, qm_R (some (0, 43, 0))), (2, qm_I (qm_i x)), (3, qm_I (qm_i y)), (4, qm_I (qm_i x))]) rfl rfl (qm_x_iinc (lv' := [(4, qm_I (qm_i (x + 1))), (0, qm_R (some (1, 10, 0))), (1, qm_R (some (0, 43, 0))), (2, qm_I (qm_i x)), (3, qm_I (qm_i y))]) 1 rfl rfl rfl) ?_
      refine qm_G.s1 rfl (qm_x_goto) ?_
      refine qm_G.sp (lv1 := [(0, qm_R (some (1, 10, 0))), (1, qm_R (some (0, 43, 0))), (2, qm_I (qm_i x)), (3, qm_I (qm_i y)), (4, qm_I (qm_i (x + 1)))]) rfl rfl (qm_x_iload rfl) ?_
      refine qm_G.s1 rfl (qm_x_iload rfl) ?_
      refine qm_G.s1 rfl (qm_x_icmp_ge_f ⟨by omega, by omega⟩ ⟨by omega, by omega⟩ (by omega)) ?_
      refine qm_G.s1 rfl (qm_x_aload rfl) ?_
      refine qm_G.s1 rfl (qm_x_iload rfl) ?_
      have gT4 := (hK (a + 1) (by omega)).2
      refine qm_G.s1 rfl (qm_x_bald (v := T (a + 1)) (qm_arS hS rfl rfl) rfl (by omega) (by omega) (by decide) (by rw [show Int.toNat (x + 1) = (a + 1) by omega]; exact (hK (a + 1) (by omega)).1) (by omega)) ?_
      refine qm_G.s1 rfl (qm_x_aload rfl) ?_
      refine qm_G.s1 rfl (qm_x_getgR rfl rfl) ?_
      refine qm_G.s1 rfl (qm_x_iload rfl) ?_
      refine qm_G.s1 rfl (qm_x_iload rfl) ?_
      refine qm_G.s1 rfl (qm_x_isub) ?_
      refine qm_G.call rfl rfl rfl ?_
      refine qm_C.go (cd := qm_P162) (lv := [(0, qm_R (some (1, 17, 0))), (1, qm_I (qm_i ((x + 1) - x)))]) rfl rfl ?_
      refine qm_G.s1 rfl (qm_x_aload rfl) ?_
      refine qm_G.call rfl rfl rfl ?_
      refine qm_C.go (cd := qm_P1) (lv := [(0, qm_R (some (1, 17, 0)))]) rfl rfl ?_
      refine qm_G.s1 rfl (qm_x_pushI 1 rfl) ?_
      refine qm_G.s1 rfl (qm_x_if_eq_f ⟨by decide, by decide⟩ (by decide)) ?_
      refine qm_G.s1 rfl (qm_x_aload rfl) ?_
      refine qm_G.s1 rfl (qm_x_getgI (v := 0) rfl rfl) ?_
      refine qm_G.s1 rfl (qm_x_if_ne_f ⟨by decide, by decide⟩ (by decide)) ?_
      refine qm_G.s1 rfl (qm_x_pushI 1 rfl) ?_
      refine qm_G.s1 rfl (qm_x_goto) ?_
      refine qm_G.ret rfl rfl ⟨_, rfl, ?_⟩
      refine qm_G.s1 rfl (qm_x_if_eq_f ⟨by decide, by decide⟩ (by decide)) ?_
      refine qm_G.s1 rfl (qm_x_aload rfl) ?_
      refine qm_G.s1 rfl (qm_x_getgR rfl rfl) ?_
      refine qm_G.s1 rfl (qm_x_iload rfl) ?_
      refine qm_G.cs rfl rfl rfl ?_
      refine qm_C.go (cd := qm_P134) (lv := [(0, qm_R (some (1, 30, 0))), (1, qm_I (qm_i ((x + 1) - x)))]) rfl rfl ?_
      refine qm_G.s1 rfl (qm_x_iload rfl) ?_
      refine qm_G.s1 rfl (qm_x_aload rfl) ?_
      refine qm_G.s1 rfl (qm_x_alen1 (len := 4) rfl) ?_
      refine qm_G.csv rfl rfl rfl ?_
      refine qm_C.go (cd := qm_P69) (lv := [(0, qm_I (qm_i ((x + 1) - x))), (1, qm_I (qm_i 4))]) rfl rfl ?_
      refine qm_G.s1 rfl (qm_x_iload rfl) ?_
      refine qm_G.s1 rfl (qm_x_iload rfl) ?_
      refine qm_G.s1 rfl (show qm_St (qm_o_sio 5) _ _ _ _ _ (qm_R (qm_sio X) :: _) _ from rfl) ?_
      refine qm_G.cs rfl rfl rfl ?_
      refine qm_C.go (cd := qm_P3) (lv := [(0, qm_I (qm_i ((x + 1) - x))), (1, qm_I (qm_i 4)), (2, qm_R ((qm_sio X)))]) rfl rfl ?_
      refine qm_G.s1 rfl (qm_x_iload rfl) ?_
      refine qm_G.s1 rfl (qm_x_if_lt_f ⟨by omega, by omega⟩ (by omega)) ?_
      refine qm_G.s1 rfl (qm_x_iload rfl) ?_
      refine qm_G.s1 rfl (qm_x_iload rfl) ?_
      refine qm_G.s1 rfl (qm_x_icmp_lt_t ⟨by omega, by omega⟩ ⟨by decide, by decide⟩ (by omega)) ?_
      refine qm_G.sp (lv1 := [(0, qm_I (qm_i ((x + 1) - x)))]) rfl rfl (qm_x_iload rfl) ?_
      refine qm_G.ret rfl rfl ⟨_, rfl, ?_⟩
      refine qm_G.s1 rfl (qm_x_popI) ?_
      refine qm_G.retv rfl ⟨rfl, ?_⟩
      refine qm_G.s1 rfl (qm_x_aload rfl) ?_
      refine qm_G.s1 rfl (qm_x_iload rfl) ?_
      refine qm_G.s1 rfl (qm_x_bald1 (len := 4) (v := 97) rfl rfl (by omega) (by omega) (by rw [show Int.toNat ((x + 1) - x) = 1 by omega]; rfl)) ?_
      refine qm_G.s1 rfl (qm_x_pushI 255 rfl) ?_
      refine qm_G.s1 rfl (qm_x_iand255 (by omega)) ?_
      refine qm_G.s1 rfl (qm_x_i2c (by omega)) ?_
      refine qm_G.ret rfl rfl ⟨_, rfl, ?_⟩
      refine qm_G.ret rfl rfl ⟨_, rfl, ?_⟩
      refine qm_y_icmp_eq rfl ⟨by omega, by omega⟩ ⟨by decide, by decide⟩ (fun c5 => ?_) (fun c5 => ?_)
      · refine qm_G.sp (lv1 := [(0, qm_R (some (1, 10, 0))), (1, qm_R (some (0, 43, 0))), (2, qm_I (qm_i x)), (3, qm_I (qm_i y)), (4, qm_I (qm_i (x + 1)))]) rfl rfl (qm_x_iinc (lv' := [(4, qm_I (qm_i ((x + 1) + 1))), (0, qm_R (some (1, 10, 0))), (1, qm_R (some (0, 43, 0))), (2, qm_I (qm_i x)), (3, qm_I (qm_i y))]) 1 rfl rfl rfl) ?_
        refine qm_G.s1 rfl (qm_x_goto) ?_
        refine qm_G.sp (lv1 := [(0, qm_R (some (1, 10, 0))), (1, qm_R (some (0, 43, 0))), (2, qm_I (qm_i x)), (3, qm_I (qm_i y)), (4, qm_I (qm_i ((x + 1) + 1)))]) rfl rfl (qm_x_iload rfl) ?_
        refine qm_G.s1 rfl (qm_x_iload rfl) ?_
        refine qm_G.s1 rfl (qm_x_icmp_ge_f ⟨by omega, by omega⟩ ⟨by omega, by omega⟩ (by omega)) ?_
        refine qm_G.s1 rfl (qm_x_aload rfl) ?_
        refine qm_G.s1 rfl (qm_x_iload rfl) ?_
        have gT6 := (hK (a + 2) (by omega)).2
        refine qm_G.s1 rfl (qm_x_bald (v := T (a + 2)) (qm_arS hS rfl rfl) rfl (by omega) (by omega) (by decide) (by rw [show Int.toNat ((x + 1) + 1) = (a + 2) by omega]; exact (hK (a + 2) (by omega)).1) (by omega)) ?_
        refine qm_G.s1 rfl (qm_x_aload rfl) ?_
        refine qm_G.s1 rfl (qm_x_getgR rfl rfl) ?_
        refine qm_G.s1 rfl (qm_x_iload rfl) ?_
        refine qm_G.s1 rfl (qm_x_iload rfl) ?_
        refine qm_G.s1 rfl (qm_x_isub) ?_
        refine qm_G.call rfl rfl rfl ?_
        refine qm_C.go (cd := qm_P162) (lv := [(0, qm_R (some (1, 17, 0))), (1, qm_I (qm_i (((x + 1) + 1) - x)))]) rfl rfl ?_
        refine qm_G.s1 rfl (qm_x_aload rfl) ?_
        refine qm_G.call rfl rfl rfl ?_
        refine qm_C.go (cd := qm_P1) (lv := [(0, qm_R (some (1, 17, 0)))]) rfl rfl ?_
        refine qm_G.s1 rfl (qm_x_pushI 1 rfl) ?_
        refine qm_G.s1 rfl (qm_x_if_eq_f ⟨by decide, by decide⟩ (by decide)) ?_
        refine qm_G.s1 rfl (qm_x_aload rfl) ?_
        refine qm_G.s1 rfl (qm_x_getgI (v := 0) rfl rfl) ?_
        refine qm_G.s1 rfl (qm_x_if_ne_f ⟨by decide, by decide⟩ (by decide)) ?_
        refine qm_G.s1 rfl (qm_x_pushI 1 rfl) ?_
        refine qm_G.s1 rfl (qm_x_goto) ?_
        refine qm_G.ret rfl rfl ⟨_, rfl, ?_⟩
        refine qm_G.s1 rfl (qm_x_if_eq_f ⟨by decide, by decide⟩ (by decide)) ?_
        refine qm_G.s1 rfl (qm_x_aload rfl) ?_
        refine qm_G.s1 rfl (qm_x_getgR rfl rfl) ?_
        refine qm_G.s1 rfl (qm_x_iload rfl) ?_
        refine qm_G.cs rfl rfl rfl ?_
        refine qm_C.go (cd := qm_P134) (lv := [(0, qm_R (some (1, 30, 0))), (1, qm_I (qm_i (((x + 1) + 1) - x)))]) rfl rfl ?_
        refine qm_G.s1 rfl (qm_x_iload rfl) ?_
        refine qm_G.s1 rfl (qm_x_aload rfl) ?_
        refine qm_G.s1 rfl (qm_x_alen1 (len := 4) rfl) ?_
        refine qm_G.csv rfl rfl rfl ?_
        refine qm_C.go (cd := qm_P69) (lv := [(0, qm_I (qm_i (((x + 1) + 1) - x))), (1, qm_I (qm_i 4))]) rfl rfl ?_
        refine qm_G.s1 rfl (qm_x_iload rfl) ?_
        refine qm_G.s1 rfl (qm_x_iload rfl) ?_
        refine qm_G.s1 rfl (show qm_St (qm_o_sio 5) _ _ _ _ _ (qm_R (qm_sio X) :: _) _ from rfl) ?_
        refine qm_G.cs rfl rfl rfl ?_
        refine qm_C.go (cd := qm_P3) (lv := [(0, qm_I (qm_i (((x + 1) + 1) - x))), (1, qm_I (qm_i 4)), (2, qm_R ((qm_sio X)))]) rfl rfl ?_
        refine qm_G.s1 rfl (qm_x_iload rfl) ?_
        refine qm_G.s1 rfl (qm_x_if_lt_f ⟨by omega, by omega⟩ (by omega)) ?_
        refine qm_G.s1 rfl (qm_x_iload rfl) ?_
        refine qm_G.s1 rfl (qm_x_iload rfl) ?_
        refine qm_G.s1 rfl (qm_x_icmp_lt_t ⟨by omega, by omega⟩ ⟨by decide, by decide⟩ (by omega)) ?_
        refine qm_G.sp (lv1 := [(0, qm_I (qm_i (((x + 1) + 1) - x)))]) rfl rfl (qm_x_iload rfl) ?_
        refine qm_G.ret rfl rfl ⟨_, rfl, ?_⟩
        refine qm_G.s1 rfl (qm_x_popI) ?_
        refine qm_G.retv rfl ⟨rfl, ?_⟩
        refine qm_G.s1 rfl (qm_x_aload rfl) ?_
        refine qm_G.s1 rfl (qm_x_iload rfl) ?_
        refine qm_G.s1 rfl (qm_x_bald1 (len := 4) (v := 105) rfl rfl (by omega) (by omega) (by rw [show Int.toNat (((x + 1) + 1) - x) = 2 by omega]; rfl)) ?_
        refine qm_G.s1 rfl (qm_x_pushI 255 rfl) ?_
        refine qm_G.s1 rfl (qm_x_iand255 (by omega)) ?_
        refine qm_G.s1 rfl (qm_x_i2c (by omega)) ?_
        refine qm_G.ret rfl rfl ⟨_, rfl, ?_⟩
        refine qm_G.ret rfl rfl ⟨_, rfl, ?_⟩
        refine qm_y_icmp_eq rfl ⟨by omega, by omega⟩ ⟨by decide, by decide⟩ (fun c7 => ?_) (fun c7 => ?_)
        · refine qm_G.sp (lv1 := [(0, qm_R (some (1, 10, 0))), (1, qm_R (some (0, 43, 0))), (2, qm_I (qm_i x)), (3, qm_I (qm_i y)), (4, qm_I (qm_i ((x + 1) + 1)))]) rfl rfl (qm_x_iinc (lv' := [(4, qm_I (qm_i (((x + 1) + 1) + 1))), (0, qm_R (some (1, 10, 0))), (1, qm_R (some (0, 43, 0))), (2, qm_I (qm_i x)), (3, qm_I (qm_i y))]) 1 rfl rfl rfl) ?_
          refine qm_G.s1 rfl (qm_x_goto) ?_
          refine qm_G.sp (lv1 := [(0, qm_R (some (1, 10, 0))), (1, qm_R (some (0, 43, 0))), (2, qm_I (qm_i x)), (3, qm_I (qm_i y)), (4, qm_I (qm_i (((x + 1) + 1) + 1)))]) rfl rfl (qm_x_iload rfl) ?_
          refine qm_G.s1 rfl (qm_x_iload rfl) ?_
          refine qm_G.s1 rfl (qm_x_icmp_ge_f ⟨by omega, by omega⟩ ⟨by omega, by omega⟩ (by omega)) ?_
          refine qm_G.s1 rfl (qm_x_aload rfl) ?_
          refine qm_G.s1 rfl (qm_x_iload rfl) ?_
          have gT8 := (hK (a + 3) (by omega)).2
          refine qm_G.s1 rfl (qm_x_bald (v := T (a + 3)) (qm_arS hS rfl rfl) rfl (by omega) (by omega) (by decide) (by rw [show Int.toNat (((x + 1) + 1) + 1) = (a + 3) by omega]; exact (hK (a + 3) (by omega)).1) (by omega)) ?_
          refine qm_G.s1 rfl (qm_x_aload rfl) ?_
          refine qm_G.s1 rfl (qm_x_getgR rfl rfl) ?_
          refine qm_G.s1 rfl (qm_x_iload rfl) ?_
          refine qm_G.s1 rfl (qm_x_iload rfl) ?_
          refine qm_G.s1 rfl (qm_x_isub) ?_
          refine qm_G.call rfl rfl rfl ?_
          refine qm_C.go (cd := qm_P162) (lv := [(0, qm_R (some (1, 17, 0))), (1, qm_I (qm_i ((((x + 1) + 1) + 1) - x)))]) rfl rfl ?_
          refine qm_G.s1 rfl (qm_x_aload rfl) ?_
          refine qm_G.call rfl rfl rfl ?_
          refine qm_C.go (cd := qm_P1) (lv := [(0, qm_R (some (1, 17, 0)))]) rfl rfl ?_
          refine qm_G.s1 rfl (qm_x_pushI 1 rfl) ?_
          refine qm_G.s1 rfl (qm_x_if_eq_f ⟨by decide, by decide⟩ (by decide)) ?_
          refine qm_G.s1 rfl (qm_x_aload rfl) ?_
          refine qm_G.s1 rfl (qm_x_getgI (v := 0) rfl rfl) ?_
          refine qm_G.s1 rfl (qm_x_if_ne_f ⟨by decide, by decide⟩ (by decide)) ?_
          refine qm_G.s1 rfl (qm_x_pushI 1 rfl) ?_
          refine qm_G.s1 rfl (qm_x_goto) ?_
          refine qm_G.ret rfl rfl ⟨_, rfl, ?_⟩
          refine qm_G.s1 rfl (qm_x_if_eq_f ⟨by decide, by decide⟩ (by decide)) ?_
          refine qm_G.s1 rfl (qm_x_aload rfl) ?_
          refine qm_G.s1 rfl (qm_x_getgR rfl rfl) ?_
          refine qm_G.s1 rfl (qm_x_iload rfl) ?_
          refine qm_G.cs rfl rfl rfl ?_
          refine qm_C.go (cd := qm_P134) (lv := [(0, qm_R (some (1, 30, 0))), (1, qm_I (qm_i ((((x + 1) + 1) + 1) - x)))]) rfl rfl ?_
          refine qm_G.s1 rfl (qm_x_iload rfl) ?_
          refine qm_G.s1 rfl (qm_x_aload rfl) ?_
          refine qm_G.s1 rfl (qm_x_alen1 (len := 4) rfl) ?_
          refine qm_G.csv rfl rfl rfl ?_
          refine qm_C.go (cd := qm_P69) (lv := [(0, qm_I (qm_i ((((x + 1) + 1) + 1) - x))), (1, qm_I (qm_i 4))]) rfl rfl ?_
          refine qm_G.s1 rfl (qm_x_iload rfl) ?_
          refine qm_G.s1 rfl (qm_x_iload rfl) ?_
          refine qm_G.s1 rfl (show qm_St (qm_o_sio 5) _ _ _ _ _ (qm_R (qm_sio X) :: _) _ from rfl) ?_
          refine qm_G.cs rfl rfl rfl ?_
          refine qm_C.go (cd := qm_P3) (lv := [(0, qm_I (qm_i ((((x + 1) + 1) + 1) - x))), (1, qm_I (qm_i 4)), (2, qm_R ((qm_sio X)))]) rfl rfl ?_
          refine qm_G.s1 rfl (qm_x_iload rfl) ?_
          refine qm_G.s1 rfl (qm_x_if_lt_f ⟨by omega, by omega⟩ (by omega)) ?_
          refine qm_G.s1 rfl (qm_x_iload rfl) ?_
          refine qm_G.s1 rfl (qm_x_iload rfl) ?_
          refine qm_G.s1 rfl (qm_x_icmp_lt_t ⟨by omega, by omega⟩ ⟨by decide, by decide⟩ (by omega)) ?_
          refine qm_G.sp (lv1 := [(0, qm_I (qm_i ((((x + 1) + 1) + 1) - x)))]) rfl rfl (qm_x_iload rfl) ?_
          refine qm_G.ret rfl rfl ⟨_, rfl, ?_⟩
          refine qm_G.s1 rfl (qm_x_popI) ?_
          refine qm_G.retv rfl ⟨rfl, ?_⟩
          refine qm_G.s1 rfl (qm_x_aload rfl) ?_
          refine qm_G.s1 rfl (qm_x_iload rfl) ?_
          refine qm_G.s1 rfl (qm_x_bald1 (len := 4) (v := 114) rfl rfl (by omega) (by omega) (by rw [show Int.toNat ((((x + 1) + 1) + 1) - x) = 3 by omega]; rfl)) ?_
          refine qm_G.s1 rfl (qm_x_pushI 255 rfl) ?_
          refine qm_G.s1 rfl (qm_x_iand255 (by omega)) ?_
          refine qm_G.s1 rfl (qm_x_i2c (by omega)) ?_
          refine qm_G.ret rfl rfl ⟨_, rfl, ?_⟩
          refine qm_G.ret rfl rfl ⟨_, rfl, ?_⟩
          refine qm_y_icmp_eq rfl ⟨by omega, by omega⟩ ⟨by decide, by decide⟩ (fun c9 => ?_) (fun c9 => ?_)
          · refine qm_G.sp (lv1 := [(0, qm_R (some (1, 10, 0))), (1, qm_R (some (0, 43, 0))), (2, qm_I (qm_i x)), (3, qm_I (qm_i y)), (4, qm_I (qm_i (((x + 1) + 1) + 1)))]) rfl rfl (qm_x_iinc (lv' := [(4, qm_I (qm_i ((((x + 1) + 1) + 1) + 1))), (0, qm_R (some (1, 10, 0))), (1, qm_R (some (0, 43, 0))), (2, qm_I (qm_i x)), (3, qm_I (qm_i y))]) 1 rfl rfl rfl) ?_
            refine qm_G.s1 rfl (qm_x_goto) ?_
            refine qm_G.sp (lv1 := [(0, qm_R (some (1, 10, 0))), (1, qm_R (some (0, 43, 0))), (2, qm_I (qm_i x)), (3, qm_I (qm_i y)), (4, qm_I (qm_i ((((x + 1) + 1) + 1) + 1)))]) rfl rfl (qm_x_iload rfl) ?_
            refine qm_G.s1 rfl (qm_x_iload rfl) ?_
            refine qm_G.s1 rfl (qm_x_icmp_ge_t ⟨by omega, by omega⟩ ⟨by omega, by omega⟩ (by omega)) ?_
            refine qm_G.sp (lv1 := []) rfl rfl (qm_x_pushI 1 rfl) ?_
            refine qm_G.ret rfl rfl (k1 ?_)
            refine ⟨by show e = a + 4; omega, fun j hj => ?_⟩
            change j < 4 at hj
            rcases (show j = 0 ∨ j = 1 ∨ j = 2 ∨ j = 3 by omega) with c9 | c9 | c9 | c9
            · subst c9; exact (show T (a + 0) = 102 by omega)
            · subst c9; exact (show T (a + 1) = 97 by omega)
            · subst c9; exact (show T (a + 2) = 105 by omega)
            · subst c9; exact (show T (a + 3) = 114 by omega)
          · refine qm_G.s1 rfl (qm_x_pushI 0 rfl) ?_
            exact qm_G.ret rfl rfl (k0 (fun h => by have h9 : T (a + 3) = 114 := h.2 3 (by decide); omega))
        · refine qm_G.s1 rfl (qm_x_pushI 0 rfl) ?_
          exact qm_G.ret rfl rfl (k0 (fun h => by have h9 : T (a + 2) = 105 := h.2 2 (by decide); omega))
      · refine qm_G.s1 rfl (qm_x_pushI 0 rfl) ?_
        exact qm_G.ret rfl rfl (k0 (fun h => by have h9 : T (a + 1) = 97 := h.2 1 (by decide); omega))
    · refine qm_G.s1 rfl (qm_x_pushI 0 rfl) ?_
      exact qm_G.ret rfl rfl (k0 (fun h => by have h9 : T (a + 0) = 102 := h.2 0 (by decide); omega))
  · refine qm_G.sp (lv1 := []) rfl rfl (qm_x_pushI 0 rfl) ?_
    exact qm_G.ret rfl rfl (k0 (fun h => by have h9 : e = a + 4 := h.1; omega))
theorem qm_d_isa6 {S : List qm_Sh} {K : qm_J} {L : qm_Ct Int64} {D : qm_Ct UInt64} {R : qm_Ct (Option qm_Rf)} {X : Nat × (Nat → Int32)} {Q : Option qm_V → qm_Hp → Prop} {T : Nat → Int} {ln : Int} {J : qm_J} {x y : Int} {a e : Nat} (hS : qm_Sd S) (hR : qm_Rd R) (hK : ∀ i, i < 100 → K 43 0 i = T i ∧ 0 ≤ T i ∧ T i ≤ 127) (rl : 0 ≤ ln ∧ ln ≤ 100) (hx : x = (a : Int)) (hy : y = (e : Int)) (h1 : a ≤ e ∧ e ≤ 100) (k1 : qm_isw T a e 6 → Q (some (qm_I (qm_i 1))) (qm_H S J K L D R X)) (k0 : ¬ qm_isw T a e 6 → Q (some (qm_I (qm_i 0))) (qm_H S J K L D R X)) : qm_C qm_P 177 [qm_R (some (1, 11, 0)), qm_R (some (0, 43, 0)), qm_I (qm_i x), qm_I (qm_i y)] (qm_H S J K L D R X) Q := by
  refine qm_C.go (cd := qm_P177) (lv := [(0, qm_R (some (1, 11, 0))), (1, qm_R (some (0, 43, 0))), (2, qm_I (qm_i x)), (3, qm_I (qm_i y))]) rfl rfl ?_
  refine qm_G.s1 rfl (qm_x_iload rfl) ?_
  refine qm_G.s1 rfl (qm_x_if_lt_f ⟨by omega, by omega⟩ (by omega)) ?_
  refine qm_G.s1 rfl (qm_x_iload rfl) ?_
  refine qm_G.s1 rfl (qm_x_aload rfl) ?_
  refine qm_G.s1 rfl (qm_x_alen (hS 43 rfl) rfl) ?_
  refine qm_G.s1 rfl (qm_x_icmp_gt_f ⟨by omega, by omega⟩ ⟨by decide, by decide⟩ (by omega)) ?_
  refine qm_G.s1 rfl (qm_x_iload rfl) ?_
  refine qm_G.s1 rfl (qm_x_iload rfl) ?_
  refine qm_G.s1 rfl (qm_x_isub) ?_
  refine qm_G.s1 rfl (qm_x_aload rfl) ?_
  refine qm_G.s1 rfl (qm_x_getgR rfl rfl) ?_
  refine qm_G.call rfl rfl rfl ?_
  refine qm_C.go (cd := qm_P53) (lv := [(0, qm_R (some (1, 18, 0)))]) rfl rfl ?_
  refine qm_G.s1 rfl (qm_x_aload rfl) ?_
  refine qm_G.s1 rfl (qm_x_getgR rfl rfl) ?_
  refine qm_G.s1 rfl (qm_x_alen1 (len := 6) rfl) ?_
  refine qm_G.s1 rfl (qm_x_aload rfl) ?_
  refine qm_G.call rfl rfl rfl ?_
  refine qm_C.go (cd := qm_P0) (lv := [(0, qm_R (some (1, 18, 0)))]) rfl rfl ?_
  refine qm_G.s1 rfl (qm_x_pushI 1 rfl) ?_
  refine qm_G.s1 rfl (qm_x_if_eq_f ⟨by decide, by decide⟩ (by decide)) ?_
  refine qm_G.s1 rfl (qm_x_aload rfl) ?_
  refine qm_G.s1 rfl (qm_x_getgI (v := 0) rfl rfl) ?_
  refine qm_G.s1 rfl (qm_x_goto) ?_
  refine qm_G.ret rfl rfl ⟨_, rfl, ?_⟩
  refine qm_G.s1 rfl (qm_x_ishr0) ?_
  refine qm_G.ret rfl rfl ⟨_, rfl, ?_⟩
  refine qm_y_icmp_eq rfl ⟨by omega, by omega⟩ ⟨by decide, by decide⟩ (fun c1 => ?_) (fun c1 => ?_)
  · refine qm_G.sp (lv1 := [(0, qm_R (some (1, 11, 0))), (1, qm_R (some (0, 43, 0))), (2, qm_I (qm_i x)), (3, qm_I (qm_i y))]) rfl rfl (qm_x_iload rfl) ?_
    refine qm_G.s1 rfl (qm_x_istore (lv' := [(4, qm_I (qm_i x)), (0, qm_R (some (1, 11, 0))), (1, qm_R (some (0, 43, 0))), (2, qm_I (qm_i x)), (3, qm_I (qm_i y))]) rfl) ?_
    refine qm_G.sp (lv1 := [(0, qm_R (some (1, 11, 0))), (1, qm_R (some (0, 43, 0))), (2, qm_I (qm_i x)), (3, qm_I (qm_i y)), (4, qm_I (qm_i x))]) rfl rfl (qm_x_iload rfl) ?_
    refine qm_G.s1 rfl (qm_x_iload rfl) ?_
    refine qm_G.s1 rfl (qm_x_icmp_ge_f ⟨by omega, by omega⟩ ⟨by omega, by omega⟩ (by omega)) ?_
    refine qm_G.s1 rfl (qm_x_aload rfl) ?_
    refine qm_G.s1 rfl (qm_x_iload rfl) ?_
    have gT2 := (hK (a + 0) (by omega)).2
    refine qm_G.s1 rfl (qm_x_bald (v := T (a + 0)) (qm_arS hS rfl rfl) rfl (by omega) (by omega) (by decide) (by rw [show Int.toNat x = (a + 0) by omega]; exact (hK (a + 0) (by omega)).1) (by omega)) ?_
    refine qm_G.s1 rfl (qm_x_aload rfl) ?_
    refine qm_G.s1 rfl (qm_x_getgR rfl rfl) ?_
    refine qm_G.s1 rfl (qm_x_iload rfl) ?_
    refine qm_G.s1 rfl (qm_x_iload rfl) ?_
    refine qm_G.s1 rfl (qm_x_isub) ?_
    refine qm_G.call rfl rfl rfl ?_
    refine qm_C.go (cd := qm_P162) (lv := [(0, qm_R (some (1, 18, 0))), (1, qm_I (qm_i (x - x)))]) rfl rfl ?_
    refine qm_G.s1 rfl (qm_x_aload rfl) ?_
    refine qm_G.call rfl rfl rfl ?_
    refine qm_C.go (cd := qm_P1) (lv := [(0, qm_R (some (1, 18, 0)))]) rfl rfl ?_
    refine qm_G.s1 rfl (qm_x_pushI 1 rfl) ?_
    refine qm_G.s1 rfl (qm_x_if_eq_f ⟨by decide, by decide⟩ (by decide)) ?_
    refine qm_G.s1 rfl (qm_x_aload rfl) ?_
    refine qm_G.s1 rfl (qm_x_getgI (v := 0) rfl rfl) ?_
    refine qm_G.s1 rfl (qm_x_if_ne_f ⟨by decide, by decide⟩ (by decide)) ?_
    refine qm_G.s1 rfl (qm_x_pushI 1 rfl) ?_
    refine qm_G.s1 rfl (qm_x_goto) ?_
    refine qm_G.ret rfl rfl ⟨_, rfl, ?_⟩
    refine qm_G.s1 rfl (qm_x_if_eq_f ⟨by decide, by decide⟩ (by decide)) ?_
    refine qm_G.s1 rfl (qm_x_aload rfl) ?_
    refine qm_G.s1 rfl (qm_x_getgR rfl rfl) ?_
    refine qm_G.s1 rfl (qm_x_iload rfl) ?_
    refine qm_G.cs rfl rfl rfl ?_
    refine qm_C.go (cd := qm_P134) (lv := [(0, qm_R (some (1, 31, 0))), (1, qm_I (qm_i (x - x)))]) rfl rfl ?_
    refine qm_G.s1 rfl (qm_x_iload rfl) ?_
    refine qm_G.s1 rfl (qm_x_aload rfl) ?_
    refine qm_G.s1 rfl (qm_x_alen1 (len := 6) rfl) ?_
    refine qm_G.csv rfl rfl rfl ?_
    refine qm_C.go (cd := qm_P69) (lv := [(0, qm_I (qm_i (x - x))), (1, qm_I (qm_i 6))]) rfl rfl ?_
    refine qm_G.s1 rfl (qm_x_iload rfl) ?_
    refine qm_G.s1 rfl (qm_x_iload rfl) ?_
    refine qm_G.s1 rfl (show qm_St (qm_o_sio 5) _ _ _ _ _ (qm_R (qm_sio X) :: _) _ from rfl) ?_
    refine qm_G.cs rfl rfl rfl ?_
    refine qm_C.go (cd := qm_P3) (lv := [(0, qm_I (qm_i (x - x))), (1, qm_I (qm_i 6)), (2, qm_R ((qm_sio X)))]) rfl rfl ?_
    refine qm_G.s1 rfl (qm_x_iload rfl) ?_
    refine qm_G.s1 rfl (qm_x_if_lt_f ⟨by omega, by omega⟩ (by omega)) ?_
    refine qm_G.s1 rfl (qm_x_iload rfl) ?_
    refine qm_G.s1 rfl (qm_x_iload rfl) ?_
    refine qm_G.s1 rfl (qm_x_icmp_lt_t ⟨by omega, by omega⟩ ⟨by decide, by decide⟩ (by omega)) ?_
    refine qm_G.sp (lv1 := [(0, qm_I (qm_i (x - x)))]) rfl rfl (qm_x_iload rfl) ?_
    refine qm_G.ret rfl rfl ⟨_, rfl, ?_⟩
    refine qm_G.s1 rfl (qm_x_popI) ?_
    refine qm_G.retv rfl ⟨rfl, ?_⟩
    refine qm_G.s1 rfl (qm_x_aload rfl) ?_
    refine qm_G.s1 rfl (qm_x_iload rfl) ?_
    refine qm_G.s1 rfl (qm_x_bald1 (len := 6) (v := 115) rfl rfl (by omega) (by omega) (by rw [show Int.toNat (x - x) = 0 by omega]; rfl)) ?_
    refine qm_G.s1 rfl (qm_x_pushI 255 rfl) ?_
    refine qm_G.s1 rfl (qm_x_iand255 (by omega)) ?_
    refine qm_G.s1 rfl (qm_x_i2c (by omega)) ?_
    refine qm_G.ret rfl rfl ⟨_, rfl, ?_⟩
    refine qm_G.ret rfl rfl ⟨_, rfl, ?_⟩
    refine qm_y_icmp_eq rfl ⟨by omega, by omega⟩ ⟨by decide, by decide⟩ (fun c3 => ?_) (fun c3 => ?_)
    · refine qm_G.sp (lv1 := [(0, qm_R (some (1, 11, 0))), (1, qm_R (some (0, 43, 0))), (2, qm_I (qm_i x)), (3, qm_I (qm_i y)), (4, qm_I (qm_i x))]) rfl rfl (qm_x_iinc (lv' := [(4, qm_I (qm_i (x + 1))), (0, qm_R (some (1, 11, 0))), (1, qm_R (some (0, 43, 0))), (2, qm_I (qm_i x)), (3, qm_I (qm_i y))]) 1 rfl rfl rfl) ?_
      refine qm_G.s1 rfl (qm_x_goto) ?_
      refine qm_G.sp (lv1 := [(0, qm_R (some (1, 11, 0))), (1, qm_R (some (0, 43, 0))), (2, qm_I (qm_i x)), (3, qm_I (qm_i y)), (4, qm_I (qm_i (x + 1)))]) rfl rfl (qm_x_iload rfl) ?_
      refine qm_G.s1 rfl (qm_x_iload rfl) ?_
      refine qm_G.s1 rfl (qm_x_icmp_ge_f ⟨by omega, by omega⟩ ⟨by omega, by omega⟩ (by omega)) ?_
      refine qm_G.s1 rfl (qm_x_aload rfl) ?_
      refine qm_G.s1 rfl (qm_x_iload rfl) ?_
      have gT4 := (hK (a + 1) (by omega)).2
      refine qm_G.s1 rfl (qm_x_bald (v := T (a + 1)) (qm_arS hS rfl rfl) rfl (by omega) (by omega) (by decide) (by rw [show Int.toNat (x + 1) = (a + 1) by omega]; exact (hK (a + 1) (by omega)).1) (by omega)) ?_
      refine qm_G.s1 rfl (qm_x_aload rfl) ?_
      refine qm_G.s1 rfl (qm_x_getgR rfl rfl) ?_
      refine qm_G.s1 rfl (qm_x_iload rfl) ?_
      refine qm_G.s1 rfl (qm_x_iload rfl) ?_
      refine qm_G.s1 rfl (qm_x_isub) ?_
      refine qm_G.call rfl rfl rfl ?_
      refine qm_C.go (cd := qm_P162) (lv := [(0, qm_R (some (1, 18, 0))), (1, qm_I (qm_i ((x + 1) - x)))]) rfl rfl ?_
      refine qm_G.s1 rfl (qm_x_aload rfl) ?_
      refine qm_G.call rfl rfl rfl ?_
      refine qm_C.go (cd := qm_P1) (lv := [(0, qm_R (some (1, 18, 0)))]) rfl rfl ?_
      refine qm_G.s1 rfl (qm_x_pushI 1 rfl) ?_
      refine qm_G.s1 rfl (qm_x_if_eq_f ⟨by decide, by decide⟩ (by decide)) ?_
      refine qm_G.s1 rfl (qm_x_aload rfl) ?_
      refine qm_G.s1 rfl (qm_x_getgI (v := 0) rfl rfl) ?_
      refine qm_G.s1 rfl (qm_x_if_ne_f ⟨by decide, by decide⟩ (by decide)) ?_
      refine qm_G.s1 rfl (qm_x_pushI 1 rfl) ?_
      refine qm_G.s1 rfl (qm_x_goto) ?_
      refine qm_G.ret rfl rfl ⟨_, rfl, ?_⟩
      refine qm_G.s1 rfl (qm_x_if_eq_f ⟨by decide, by decide⟩ (by decide)) ?_
      refine qm_G.s1 rfl (qm_x_aload rfl) ?_
      refine qm_G.s1 rfl (qm_x_getgR rfl rfl) ?_
      refine qm_G.s1 rfl (qm_x_iload rfl) ?_
      refine qm_G.cs rfl rfl rfl ?_
      refine qm_C.go (cd := qm_P134) (lv := [(0, qm_R (some (1, 31, 0))), (1, qm_I (qm_i ((x + 1) - x)))]) rfl rfl ?_
      refine qm_G.s1 rfl (qm_x_iload rfl) ?_
      refine qm_G.s1 rfl (qm_x_aload rfl) ?_
      refine qm_G.s1 rfl (qm_x_alen1 (len := 6) rfl) ?_
      refine qm_G.csv rfl rfl rfl ?_
      refine qm_C.go (cd := qm_P69) (lv := [(0, qm_I (qm_i ((x + 1) - x))), (1, qm_I (qm_i 6))]) rfl rfl ?_
      refine qm_G.s1 rfl (qm_x_iload rfl) ?_
      refine qm_G.s1 rfl (qm_x_iload rfl) ?_
      refine qm_G.s1 rfl (show qm_St (qm_o_sio 5) _ _ _ _ _ (qm_R (qm_sio X) :: _) _ from rfl) ?_
      refine qm_G.cs rfl rfl rfl ?_
      refine qm_C.go (cd := qm_P3) (lv := [(0, qm_I (qm_i ((x + 1) - x))), (1, qm_I (qm_i 6)), (2, qm_R ((qm_sio X)))]) rfl rfl ?_
      refine qm_G.s1 rfl (qm_x_iload rfl) ?_
      refine qm_G.s1 rfl (qm_x_if_lt_f ⟨by omega, by omega⟩ (by omega)) ?_
      refine qm_G.s1 rfl (qm_x_iload rfl) ?_
      refine qm_G.s1 rfl (qm_x_iload rfl) ?_
      refine qm_G.s1 rfl (qm_x_icmp_lt_t ⟨by omega, by omega⟩ ⟨by decide, by decide⟩ (by omega)) ?_
      refine qm_G.sp (lv1 := [(0, qm_I (qm_i ((x + 1) - x)))]) rfl rfl (qm_x_iload rfl) ?_
      refine qm_G.ret rfl rfl ⟨_, rfl, ?_⟩
      refine qm_G.s1 rfl (qm_x_popI) ?_
      refine qm_G.retv rfl ⟨rfl, ?_⟩
      refine qm_G.s1 rfl (qm_x_aload rfl) ?_
      refine qm_G.s1 rfl (qm_x_iload rfl) ?_
      refine qm_G.s1 rfl (qm_x_bald1 (len := 6) (v := 116) rfl rfl (by omega) (by omega) (by rw [show Int.toNat ((x + 1) - x) = 1 by omega]; rfl)) ?_
      refine qm_G.s1 rfl (qm_x_pushI 255 rfl) ?_
      refine qm_G.s1 rfl (qm_x_iand255 (by omega)) ?_
      refine qm_G.s1 rfl (qm_x_i2c (by omega)) ?_
      refine qm_G.ret rfl rfl ⟨_, rfl, ?_⟩
      refine qm_G.ret rfl rfl ⟨_, rfl, ?_⟩
      refine qm_y_icmp_eq rfl ⟨by omega, by omega⟩ ⟨by decide, by decide⟩ (fun c5 => ?_) (fun c5 => ?_)
      · refine qm_G.sp (lv1 := [(0, qm_R (some (1, 11, 0))), (1, qm_R (some (0, 43, 0))), (2, qm_I (qm_i x)), (3, qm_I (qm_i y)), (4, qm_I (qm_i (x + 1)))]) rfl rfl (qm_x_iinc (lv' := [(4, qm_I (qm_i ((x + 1) + 1))), (0, qm_R (some (1, 11, 0))), (1, qm_R (some (0, 43, 0))), (2, qm_I (qm_i x)), (3, qm_I (qm_i y))]) 1 rfl rfl rfl) ?_
        refine qm_G.s1 rfl (qm_x_goto) ?_
        refine qm_G.sp (lv1 := [(0, qm_R (some (1, 11, 0))), (1, qm_R (some (0, 43, 0))), (2, qm_I (qm_i x)), (3, qm_I (qm_i y)), (4, qm_I (qm_i ((x + 1) + 1)))]) rfl rfl (qm_x_iload rfl) ?_
        refine qm_G.s1 rfl (qm_x_iload rfl) ?_
        refine qm_G.s1 rfl (qm_x_icmp_ge_f ⟨by omega, by omega⟩ ⟨by omega, by omega⟩ (by omega)) ?_
        refine qm_G.s1 rfl (qm_x_aload rfl) ?_
        refine qm_G.s1 rfl (qm_x_iload rfl) ?_
        have gT6 := (hK (a + 2) (by omega)).2
        refine qm_G.s1 rfl (qm_x_bald (v := T (a + 2)) (qm_arS hS rfl rfl) rfl (by omega) (by omega) (by decide) (by rw [show Int.toNat ((x + 1) + 1) = (a + 2) by omega]; exact (hK (a + 2) (by omega)).1) (by omega)) ?_
        refine qm_G.s1 rfl (qm_x_aload rfl) ?_
        refine qm_G.s1 rfl (qm_x_getgR rfl rfl) ?_
        refine qm_G.s1 rfl (qm_x_iload rfl) ?_
        refine qm_G.s1 rfl (qm_x_iload rfl) ?_
        refine qm_G.s1 rfl (qm_x_isub) ?_
        refine qm_G.call rfl rfl rfl ?_
        refine qm_C.go (cd := qm_P162) (lv := [(0, qm_R (some (1, 18, 0))), (1, qm_I (qm_i (((x + 1) + 1) - x)))]) rfl rfl ?_
        refine qm_G.s1 rfl (qm_x_aload rfl) ?_
        refine qm_G.call rfl rfl rfl ?_
        refine qm_C.go (cd := qm_P1) (lv := [(0, qm_R (some (1, 18, 0)))]) rfl rfl ?_
        refine qm_G.s1 rfl (qm_x_pushI 1 rfl) ?_
        refine qm_G.s1 rfl (qm_x_if_eq_f ⟨by decide, by decide⟩ (by decide)) ?_
        refine qm_G.s1 rfl (qm_x_aload rfl) ?_
        refine qm_G.s1 rfl (qm_x_getgI (v := 0) rfl rfl) ?_
        refine qm_G.s1 rfl (qm_x_if_ne_f ⟨by decide, by decide⟩ (by decide)) ?_
        refine qm_G.s1 rfl (qm_x_pushI 1 rfl) ?_
        refine qm_G.s1 rfl (qm_x_goto) ?_
        refine qm_G.ret rfl rfl ⟨_, rfl, ?_⟩
        refine qm_G.s1 rfl (qm_x_if_eq_f ⟨by decide, by decide⟩ (by decide)) ?_
        refine qm_G.s1 rfl (qm_x_aload rfl) ?_
        refine qm_G.s1 rfl (qm_x_getgR rfl rfl) ?_
        refine qm_G.s1 rfl (qm_x_iload rfl) ?_
        refine qm_G.cs rfl rfl rfl ?_
        refine qm_C.go (cd := qm_P134) (lv := [(0, qm_R (some (1, 31, 0))), (1, qm_I (qm_i (((x + 1) + 1) - x)))]) rfl rfl ?_
        refine qm_G.s1 rfl (qm_x_iload rfl) ?_
        refine qm_G.s1 rfl (qm_x_aload rfl) ?_
        refine qm_G.s1 rfl (qm_x_alen1 (len := 6) rfl) ?_
        refine qm_G.csv rfl rfl rfl ?_
        refine qm_C.go (cd := qm_P69) (lv := [(0, qm_I (qm_i (((x + 1) + 1) - x))), (1, qm_I (qm_i 6))]) rfl rfl ?_
        refine qm_G.s1 rfl (qm_x_iload rfl) ?_
        refine qm_G.s1 rfl (qm_x_iload rfl) ?_
        refine qm_G.s1 rfl (show qm_St (qm_o_sio 5) _ _ _ _ _ (qm_R (qm_sio X) :: _) _ from rfl) ?_
        refine qm_G.cs rfl rfl rfl ?_
        refine qm_C.go (cd := qm_P3) (lv := [(0, qm_I (qm_i (((x + 1) + 1) - x))), (1, qm_I (qm_i 6)), (2, qm_R ((qm_sio X)))]) rfl rfl ?_
        refine qm_G.s1 rfl (qm_x_iload rfl) ?_
        refine qm_G.s1 rfl (qm_x_if_lt_f ⟨by omega, by omega⟩ (by omega)) ?_
        refine qm_G.s1 rfl (qm_x_iload rfl) ?_
        refine qm_G.s1 rfl (qm_x_iload rfl) ?_
        refine qm_G.s1 rfl (qm_x_icmp_lt_t ⟨by omega, by omega⟩ ⟨by decide, by decide⟩ (by omega)) ?_
        refine qm_G.sp (lv1 := [(0, qm_I (qm_i (((x + 1) + 1) - x)))]) rfl rfl (qm_x_iload rfl) ?_
        refine qm_G.ret rfl rfl ⟨_, rfl, ?_⟩
        refine qm_G.s1 rfl (qm_x_popI) ?_
        refine qm_G.retv rfl ⟨rfl, ?_⟩
        refine qm_G.s1 rfl (qm_x_aload rfl) ?_
        refine qm_G.s1 rfl (qm_x_iload rfl) ?_
        refine qm_G.s1 rfl (qm_x_bald1 (len := 6) (v := 114) rfl rfl (by omega) (by omega) (by rw [show Int.toNat (((x + 1) + 1) - x) = 2 by omega]; rfl)) ?_
        refine qm_G.s1 rfl (qm_x_pushI 255 rfl) ?_
        refine qm_G.s1 rfl (qm_x_iand255 (by omega)) ?_
        refine qm_G.s1 rfl (qm_x_i2c (by omega)) ?_
        refine qm_G.ret rfl rfl ⟨_, rfl, ?_⟩
        refine qm_G.ret rfl rfl ⟨_, rfl, ?_⟩
        refine qm_y_icmp_eq rfl ⟨by omega, by omega⟩ ⟨by decide, by decide⟩ (fun c7 => ?_) (fun c7 => ?_)
        · refine qm_G.sp (lv1 := [(0, qm_R (some (1, 11, 0))), (1, qm_R (some (0, 43, 0))), (2, qm_I (qm_i x)), (3, qm_I (qm_i y)), (4, qm_I (qm_i ((x + 1) + 1)))]) rfl rfl (qm_x_iinc (lv' := [(4, qm_I (qm_i (((x + 1) + 1) + 1))), (0, qm_R (some (1, 11, 0))), (1, qm_R (some (0, 43, 0))), (2, qm_I (qm_i x)), (3, qm_I (qm_i y))]) 1 rfl rfl rfl) ?_
          refine qm_G.s1 rfl (qm_x_goto) ?_
          refine qm_G.sp (lv1 := [(0, qm_R (some (1, 11, 0))), (1, qm_R (some (0, 43, 0))), (2, qm_I (qm_i x)), (3, qm_I (qm_i y)), (4, qm_I (qm_i (((x + 1) + 1) + 1)))]) rfl rfl (qm_x_iload rfl) ?_
          refine qm_G.s1 rfl (qm_x_iload rfl) ?_
          refine qm_G.s1 rfl (qm_x_icmp_ge_f ⟨by omega, by omega⟩ ⟨by omega, by omega⟩ (by omega)) ?_
          refine qm_G.s1 rfl (qm_x_aload rfl) ?_
          refine qm_G.s1 rfl (qm_x_iload rfl) ?_
          have gT8 := (hK (a + 3) (by omega)).2
          refine qm_G.s1 rfl (qm_x_bald (v := T (a + 3)) (qm_arS hS rfl rfl) rfl (by omega) (by omega) (by decide) (by rw [show Int.toNat (((x + 1) + 1) + 1) = (a + 3) by omega]; exact (hK (a + 3) (by omega)).1) (by omega)) ?_
          refine qm_G.s1 rfl (qm_x_aload rfl) ?_
          refine qm_G.s1 rfl (qm_x_getgR rfl rfl) ?_
          refine qm_G.s1 rfl (qm_x_iload rfl) ?_
          refine qm_G.s1 rfl (qm_x_iload rfl) ?_
          refine qm_G.s1 rfl (qm_x_isub) ?_
          refine qm_G.call rfl rfl rfl ?_
          refine qm_C.go (cd := qm_P162) (lv := [(0, qm_R (some (1, 18, 0))), (1, qm_I (qm_i ((((x + 1) + 1) + 1) - x)))]) rfl rfl ?_
          refine qm_G.s1 rfl (qm_x_aload rfl) ?_
          refine qm_G.call rfl rfl rfl ?_
          refine qm_C.go (cd := qm_P1) (lv := [(0, qm_R (some (1, 18, 0)))]) rfl rfl ?_
          refine qm_G.s1 rfl (qm_x_pushI 1 rfl) ?_
          refine qm_G.s1 rfl (qm_x_if_eq_f ⟨by decide, by decide⟩ (by decide)) ?_
          refine qm_G.s1 rfl (qm_x_aload rfl) ?_
          refine qm_G.s1 rfl (qm_x_getgI (v := 0) rfl rfl) ?_
          refine qm_G.s1 rfl (qm_x_if_ne_f ⟨by decide, by decide⟩ (by decide)) ?_
          refine qm_G.s1 rfl (qm_x_pushI 1 rfl) ?_
          refine qm_G.s1 rfl (qm_x_goto) ?_
          refine qm_G.ret rfl rfl ⟨_, rfl, ?_⟩
          refine qm_G.s1 rfl (qm_x_if_eq_f ⟨by decide, by decide⟩ (by decide)) ?_
          refine qm_G.s1 rfl (qm_x_aload rfl) ?_
          refine qm_G.s1 rfl (qm_x_getgR rfl rfl) ?_
          refine qm_G.s1 rfl (qm_x_iload rfl) ?_
          refine qm_G.cs rfl rfl rfl ?_
          refine qm_C.go (cd := qm_P134) (lv := [(0, qm_R (some (1, 31, 0))), (1, qm_I (qm_i ((((x + 1) + 1) + 1) - x)))]) rfl rfl ?_
          refine qm_G.s1 rfl (qm_x_iload rfl) ?_
          refine qm_G.s1 rfl (qm_x_aload rfl) ?_
          refine qm_G.s1 rfl (qm_x_alen1 (len := 6) rfl) ?_
          refine qm_G.csv rfl rfl rfl ?_
          refine qm_C.go (cd := qm_P69) (lv := [(0, qm_I (qm_i ((((x + 1) + 1) + 1) - x))), (1, qm_I (qm_i 6))]) rfl rfl ?_
          refine qm_G.s1 rfl (qm_x_iload rfl) ?_
          refine qm_G.s1 rfl (qm_x_iload rfl) ?_
          refine qm_G.s1 rfl (show qm_St (qm_o_sio 5) _ _ _ _ _ (qm_R (qm_sio X) :: _) _ from rfl) ?_
          refine qm_G.cs rfl rfl rfl ?_
          refine qm_C.go (cd := qm_P3) (lv := [(0, qm_I (qm_i ((((x + 1) + 1) + 1) - x))), (1, qm_I (qm_i 6)), (2, qm_R ((qm_sio X)))]) rfl rfl ?_
          refine qm_G.s1 rfl (qm_x_iload rfl) ?_
          refine qm_G.s1 rfl (qm_x_if_lt_f ⟨by omega, by omega⟩ (by omega)) ?_
          refine qm_G.s1 rfl (qm_x_iload rfl) ?_
          refine qm_G.s1 rfl (qm_x_iload rfl) ?_
          refine qm_G.s1 rfl (qm_x_icmp_lt_t ⟨by omega, by omega⟩ ⟨by decide, by decide⟩ (by omega)) ?_
          refine qm_G.sp (lv1 := [(0, qm_I (qm_i ((((x + 1) + 1) + 1) - x)))]) rfl rfl (qm_x_iload rfl) ?_
          refine qm_G.ret rfl rfl ⟨_, rfl, ?_⟩
          refine qm_G.s1 rfl (qm_x_popI) ?_
          refine qm_G.retv rfl ⟨rfl, ?_⟩
          refine qm_G.s1 rfl (qm_x_aload rfl) ?_
          refine qm_G.s1 rfl (qm_x_iload rfl) ?_
          refine qm_G.s1 rfl (qm_x_bald1 (len := 6) (v := 101) rfl rfl (by omega) (by omega) (by rw [show Int.toNat ((((x + 1) + 1) + 1) - x) = 3 by omega]; rfl)) ?_
          refine qm_G.s1 rfl (qm_x_pushI 255 rfl) ?_
          refine qm_G.s1 rfl (qm_x_iand255 (by omega)) ?_
          refine qm_G.s1 rfl (qm_x_i2c (by omega)) ?_
          refine qm_G.ret rfl rfl ⟨_, rfl, ?_⟩
          refine qm_G.ret rfl rfl ⟨_, rfl, ?_⟩
          refine qm_y_icmp_eq rfl ⟨by omega, by omega⟩ ⟨by decide, by decide⟩ (fun c9 => ?_) (fun c9 => ?_)
          · refine qm_G.sp (lv1 := [(0, qm_R (some (1, 11, 0))), (1, qm_R (some (0, 43, 0))), (2, qm_I (qm_i x)), (3, qm_I (qm_i y)), (4, qm_I (qm_i (((x + 1) + 1) + 1)))]) rfl rfl (qm_x_iinc (lv' := [(4, qm_I (qm_i ((((x + 1) + 1) + 1) + 1))), (0, qm_R (some (1, 11, 0))), (1, qm_R (some (0, 43, 0))), (2, qm_I (qm_i x)), (3, qm_I (qm_i y))]) 1 rfl rfl rfl) ?_
            refine qm_G.s1 rfl (qm_x_goto) ?_
            refine qm_G.sp (lv1 := [(0, qm_R (some (1, 11, 0))), (1, qm_R (some (0, 43, 0))), (2, qm_I (qm_i x)), (3, qm_I (qm_i y)), (4, qm_I (qm_i ((((x + 1) + 1) + 1) + 1)))]) rfl rfl (qm_x_iload rfl) ?_
            refine qm_G.s1 rfl (qm_x_iload rfl) ?_
            refine qm_G.s1 rfl (qm_x_icmp_ge_f ⟨by omega, by omega⟩ ⟨by omega, by omega⟩ (by omega)) ?_
            refine qm_G.s1 rfl (qm_x_aload rfl) ?_
            refine qm_G.s1 rfl (qm_x_iload rfl) ?_
            have gT10 := (hK (a + 4) (by omega)).2
            refine qm_G.s1 rfl (qm_x_bald (v := T (a + 4)) (qm_arS hS rfl rfl) rfl (by omega) (by omega) (by decide) (by rw [show Int.toNat ((((x + 1) + 1) + 1) + 1) = (a + 4) by omega]; exact (hK (a + 4) (by omega)).1) (by omega)) ?_
            refine qm_G.s1 rfl (qm_x_aload rfl) ?_
            refine qm_G.s1 rfl (qm_x_getgR rfl rfl) ?_
            refine qm_G.s1 rfl (qm_x_iload rfl) ?_
            refine qm_G.s1 rfl (qm_x_iload rfl) ?_
            refine qm_G.s1 rfl (qm_x_isub) ?_
            refine qm_G.call rfl rfl rfl ?_
            refine qm_C.go (cd := qm_P162) (lv := [(0, qm_R (some (1, 18, 0))), (1, qm_I (qm_i (((((x + 1) + 1) + 1) + 1) - x)))]) rfl rfl ?_
            refine qm_G.s1 rfl (qm_x_aload rfl) ?_
            refine qm_G.call rfl rfl rfl ?_
            refine qm_C.go (cd := qm_P1) (lv := [(0, qm_R (some (1, 18, 0)))]) rfl rfl ?_
            refine qm_G.s1 rfl (qm_x_pushI 1 rfl) ?_
            refine qm_G.s1 rfl (qm_x_if_eq_f ⟨by decide, by decide⟩ (by decide)) ?_
            refine qm_G.s1 rfl (qm_x_aload rfl) ?_
            refine qm_G.s1 rfl (qm_x_getgI (v := 0) rfl rfl) ?_
            refine qm_G.s1 rfl (qm_x_if_ne_f ⟨by decide, by decide⟩ (by decide)) ?_
            refine qm_G.s1 rfl (qm_x_pushI 1 rfl) ?_
            refine qm_G.s1 rfl (qm_x_goto) ?_
            refine qm_G.ret rfl rfl ⟨_, rfl, ?_⟩
            refine qm_G.s1 rfl (qm_x_if_eq_f ⟨by decide, by decide⟩ (by decide)) ?_
            refine qm_G.s1 rfl (qm_x_aload rfl) ?_
            refine qm_G.s1 rfl (qm_x_getgR rfl rfl) ?_
            refine qm_G.s1 rfl (qm_x_iload rfl) ?_
            refine qm_G.cs rfl rfl rfl ?_
            refine qm_C.go (cd := qm_P134) (lv := [(0, qm_R (some (1, 31, 0))), (1, qm_I (qm_i (((((x + 1) + 1) + 1) + 1) - x)))]) rfl rfl ?_
            refine qm_G.s1 rfl (qm_x_iload rfl) ?_
            refine qm_G.s1 rfl (qm_x_aload rfl) ?_
            refine qm_G.s1 rfl (qm_x_alen1 (len := 6) rfl) ?_
            refine qm_G.csv rfl rfl rfl ?_
            refine qm_C.go (cd := qm_P69) (lv := [(0, qm_I (qm_i (((((x + 1) + 1) + 1) + 1) - x))), (1, qm_I (qm_i 6))]) rfl rfl ?_
            refine qm_G.s1 rfl (qm_x_iload rfl) ?_
            refine qm_G.s1 rfl (qm_x_iload rfl) ?_
            refine qm_G.s1 rfl (show qm_St (qm_o_sio 5) _ _ _ _ _ (qm_R (qm_sio X) :: _) _ from rfl) ?_
            refine qm_G.cs rfl rfl rfl ?_
            refine qm_C.go (cd := qm_P3) (lv := [(0, qm_I (qm_i (((((x + 1) + 1) + 1) + 1) - x))), (1, qm_I (qm_i 6)), (2, qm_R ((qm_sio X)))]) rfl rfl ?_
            refine qm_G.s1 rfl (qm_x_iload rfl) ?_
            refine qm_G.s1 rfl (qm_x_if_lt_f ⟨by omega, by omega⟩ (by omega)) ?_
            refine qm_G.s1 rfl (qm_x_iload rfl) ?_
            refine qm_G.s1 rfl (qm_x_iload rfl) ?_
            refine qm_G.s1 rfl (qm_x_icmp_lt_t ⟨by omega, by omega⟩ ⟨by decide, by decide⟩ (by omega)) ?_
            refine qm_G.sp (lv1 := [(0, qm_I (qm_i (((((x + 1) + 1) + 1) + 1) - x)))]) rfl rfl (qm_x_iload rfl) ?_
            refine qm_G.ret rfl rfl ⟨_, rfl, ?_⟩
            refine qm_G.s1 rfl (qm_x_popI) ?_
            refine qm_G.retv rfl ⟨rfl, ?_⟩
            refine qm_G.s1 rfl (qm_x_aload rfl) ?_
            refine qm_G.s1 rfl (qm_x_iload rfl) ?_
            refine qm_G.s1 rfl (qm_x_bald1 (len := 6) (v := 101) rfl rfl (by omega) (by omega) (by rw [show Int.toNat (((((x + 1) + 1) + 1) + 1) - x) = 4 by omega]; rfl)) ?_
            refine qm_G.s1 rfl (qm_x_pushI 255 rfl) ?_
            refine qm_G.s1 rfl (qm_x_iand255 (by omega)) ?_
            refine qm_G.s1 rfl (qm_x_i2c (by omega)) ?_
            refine qm_G.ret rfl rfl ⟨_, rfl, ?_⟩
            refine qm_G.ret rfl rfl ⟨_, rfl, ?_⟩
            refine qm_y_icmp_eq rfl ⟨by omega, by omega⟩ ⟨by decide, by decide⟩ (fun c11 => ?_) (fun c11 => ?_)
            · refine qm_G.sp (lv1 := [(0, qm_R (some (1, 11, 0))), (1, qm_R (some (0, 43, 0))), (2, qm_I (qm_i x)), (3, qm_I (qm_i y)), (4, qm_I (qm_i ((((x + 1) + 1) + 1) + 1)))]) rfl rfl (qm_x_iinc (lv' := [(4, qm_I (qm_i (((((x + 1) + 1) + 1) + 1) + 1))), (0, qm_R (some (1, 11, 0))), (1, qm_R (some (0, 43, 0))), (2, qm_I (qm_i x)), (3, qm_I (qm_i y))]) 1 rfl rfl rfl) ?_
              refine qm_G.s1 rfl (qm_x_goto) ?_
              refine qm_G.sp (lv1 := [(0, qm_R (some (1, 11, 0))), (1, qm_R (some (0, 43, 0))), (2, qm_I (qm_i x)), (3, qm_I (qm_i y)), (4, qm_I (qm_i (((((x + 1) + 1) + 1) + 1) + 1)))]) rfl rfl (qm_x_iload rfl) ?_
              refine qm_G.s1 rfl (qm_x_iload rfl) ?_
              refine qm_G.s1 rfl (qm_x_icmp_ge_f ⟨by omega, by omega⟩ ⟨by omega, by omega⟩ (by omega)) ?_
              refine qm_G.s1 rfl (qm_x_aload rfl) ?_
              refine qm_G.s1 rfl (qm_x_iload rfl) ?_
              have gT12 := (hK (a + 5) (by omega)).2
              refine qm_G.s1 rfl (qm_x_bald (v := T (a + 5)) (qm_arS hS rfl rfl) rfl (by omega) (by omega) (by decide) (by rw [show Int.toNat (((((x + 1) + 1) + 1) + 1) + 1) = (a + 5) by omega]; exact (hK (a + 5) (by omega)).1) (by omega)) ?_
              refine qm_G.s1 rfl (qm_x_aload rfl) ?_
              refine qm_G.s1 rfl (qm_x_getgR rfl rfl) ?_
              refine qm_G.s1 rfl (qm_x_iload rfl) ?_
              refine qm_G.s1 rfl (qm_x_iload rfl) ?_
              refine qm_G.s1 rfl (qm_x_isub) ?_
              refine qm_G.call rfl rfl rfl ?_
              refine qm_C.go (cd := qm_P162) (lv := [(0, qm_R (some (1, 18, 0))), (1, qm_I (qm_i ((((((x + 1) + 1) + 1) + 1) + 1) - x)))]) rfl rfl ?_
              refine qm_G.s1 rfl (qm_x_aload rfl) ?_
              refine qm_G.call rfl rfl rfl ?_
              refine qm_C.go (cd := qm_P1) (lv := [(0, qm_R (some (1, 18, 0)))]) rfl rfl ?_
              refine qm_G.s1 rfl (qm_x_pushI 1 rfl) ?_
              refine qm_G.s1 rfl (qm_x_if_eq_f ⟨by decide, by decide⟩ (by decide)) ?_
              refine qm_G.s1 rfl (qm_x_aload rfl) ?_
              refine qm_G.s1 rfl (qm_x_getgI (v := 0) rfl rfl) ?_
              refine qm_G.s1 rfl (qm_x_if_ne_f ⟨by decide, by decide⟩ (by decide)) ?_
              refine qm_G.s1 rfl (qm_x_pushI 1 rfl) ?_
              refine qm_G.s1 rfl (qm_x_goto) ?_
              refine qm_G.ret rfl rfl ⟨_, rfl, ?_⟩
              refine qm_G.s1 rfl (qm_x_if_eq_f ⟨by decide, by decide⟩ (by decide)) ?_
              refine qm_G.s1 rfl (qm_x_aload rfl) ?_
              refine qm_G.s1 rfl (qm_x_getgR rfl rfl) ?_
              refine qm_G.s1 rfl (qm_x_iload rfl) ?_
              refine qm_G.cs rfl rfl rfl ?_
              refine qm_C.go (cd := qm_P134) (lv := [(0, qm_R (some (1, 31, 0))), (1, qm_I (qm_i ((((((x + 1) + 1) + 1) + 1) + 1) - x)))]) rfl rfl ?_
              refine qm_G.s1 rfl (qm_x_iload rfl) ?_
              refine qm_G.s1 rfl (qm_x_aload rfl) ?_
              refine qm_G.s1 rfl (qm_x_alen1 (len := 6) rfl) ?_
              refine qm_G.csv rfl rfl rfl ?_
              refine qm_C.go (cd := qm_P69) (lv := [(0, qm_I (qm_i ((((((x + 1) + 1) + 1) + 1) + 1) - x))), (1, qm_I (qm_i 6))]) rfl rfl ?_
              refine qm_G.s1 rfl (qm_x_iload rfl) ?_
              refine qm_G.s1 rfl (qm_x_iload rfl) ?_
              refine qm_G.s1 rfl (show qm_St (qm_o_sio 5) _ _ _ _ _ (qm_R (qm_sio X) :: _) _ from rfl) ?_
              refine qm_G.cs rfl rfl rfl ?_
              refine qm_C.go (cd := qm_P3) (lv := [(0, qm_I (qm_i ((((((x + 1) + 1) + 1) + 1) + 1) - x))), (1, qm_I (qm_i 6)), (2, qm_R ((qm_sio X)))]) rfl rfl ?_
              refine qm_G.s1 rfl (qm_x_iload rfl) ?_
              refine qm_G.s1 rfl (qm_x_if_lt_f ⟨by omega, by omega⟩ (by omega)) ?_
              refine qm_G.s1 rfl (qm_x_iload rfl) ?_
              refine qm_G.s1 rfl (qm_x_iload rfl) ?_
              refine qm_G.s1 rfl (qm_x_icmp_lt_t ⟨by omega, by omega⟩ ⟨by decide, by decide⟩ (by omega)) ?_
              refine qm_G.sp (lv1 := [(0, qm_I (qm_i ((((((x + 1) + 1) + 1) + 1) + 1) - x)))]) rfl rfl (qm_x_iload rfl) ?_
              refine qm_G.ret rfl rfl ⟨_, rfl, ?_⟩
              refine qm_G.s1 rfl (qm_x_popI) ?_
              refine qm_G.retv rfl ⟨rfl, ?_⟩
              refine qm_G.s1 rfl (qm_x_aload rfl) ?_
              refine qm_G.s1 rfl (qm_x_iload rfl) ?_
              refine qm_G.s1 rfl (qm_x_bald1 (len := 6) (v := 116) rfl rfl (by omega) (by omega) (by rw [show Int.toNat ((((((x + 1) + 1) + 1) + 1) + 1) - x) = 5 by omega]; rfl)) ?_
              refine qm_G.s1 rfl (qm_x_pushI 255 rfl) ?_
              refine qm_G.s1 rfl (qm_x_iand255 (by omega)) ?_
              refine qm_G.s1 rfl (qm_x_i2c (by omega)) ?_
              refine qm_G.ret rfl rfl ⟨_, rfl, ?_⟩
              refine qm_G.ret rfl rfl ⟨_, rfl, ?_⟩
              refine qm_y_icmp_eq rfl ⟨by omega, by omega⟩ ⟨by decide, by decide⟩ (fun c13 => ?_) (fun c13 => ?_)
              · refine qm_G.sp (lv1 := [(0, qm_R (some (1, 11, 0))), (1, qm_R (some (0, 43, 0))), (2, qm_I (qm_i x)), (3, qm_I (qm_i y)), (4, qm_I (qm_i (((((x + 1) + 1) + 1) + 1) + 1)))]) rfl rfl (qm_x_iinc (lv' := [(4, qm_I (qm_i ((((((x + 1) + 1) + 1) + 1) + 1) + 1))), (0, qm_R (some (1, 11, 0))), (1, qm_R (some (0, 43, 0))), (2, qm_I (qm_i x)), (3, qm_I (qm_i y))]) 1 rfl rfl rfl) ?_
                refine qm_G.s1 rfl (qm_x_goto) ?_
                refine qm_G.sp (lv1 := [(0, qm_R (some (1, 11, 0))), (1, qm_R (some (0, 43, 0))), (2, qm_I (qm_i x)), (3, qm_I (qm_i y)), (4, qm_I (qm_i ((((((x + 1) + 1) + 1) + 1) + 1) + 1)))]) rfl rfl (qm_x_iload rfl) ?_
                refine qm_G.s1 rfl (qm_x_iload rfl) ?_
                refine qm_G.s1 rfl (qm_x_icmp_ge_t ⟨by omega, by omega⟩ ⟨by omega, by omega⟩ (by omega)) ?_
                refine qm_G.sp (lv1 := []) rfl rfl (qm_x_pushI 1 rfl) ?_
                refine qm_G.ret rfl rfl (k1 ?_)
                refine ⟨by show e = a + 6; omega, fun j hj => ?_⟩
                change j < 6 at hj
                rcases (show j = 0 ∨ j = 1 ∨ j = 2 ∨ j = 3 ∨ j = 4 ∨ j = 5 by omega) with c9 | c9 | c9 | c9 | c9 | c9
                · subst c9; exact (show T (a + 0) = 115 by omega)
                · subst c9; exact (show T (a + 1) = 116 by omega)
                · subst c9; exact (show T (a + 2) = 114 by omega)
                · subst c9; exact (show T (a + 3) = 101 by omega)
                · subst c9; exact (show T (a + 4) = 101 by omega)
                · subst c9; exact (show T (a + 5) = 116 by omega)
              · refine qm_G.s1 rfl (qm_x_pushI 0 rfl) ?_
                exact qm_G.ret rfl rfl (k0 (fun h => by have h9 : T (a + 5) = 116 := h.2 5 (by decide); omega))
            · refine qm_G.s1 rfl (qm_x_pushI 0 rfl) ?_
              exact qm_G.ret rfl rfl (k0 (fun h => by have h9 : T (a + 4) = 101 := h.2 4 (by decide); omega))
          · refine qm_G.s1 rfl (qm_x_pushI 0 rfl) ?_
            exact qm_G.ret rfl rfl (k0 (fun h => by have h9 : T (a + 3) = 101 := h.2 3 (by decide); omega))
        · refine qm_G.s1 rfl (qm_x_pushI 0 rfl) ?_
          exact qm_G.ret rfl rfl (k0 (fun h => by have h9 : T (a + 2) = 114 := h.2 2 (by decide); omega))
      · refine qm_G.s1 rfl (qm_x_pushI 0 rfl) ?_
        exact qm_G.ret rfl rfl (k0 (fun h => by have h9 : T (a + 1) = 116 := h.2 1 (by decide); omega))
    · refine qm_G.s1 rfl (qm_x_pushI 0 rfl) ?_
      exact qm_G.ret rfl rfl (k0 (fun h => by have h9 : T (a + 0) = 115 := h.2 0 (by decide); omega))
  · refine qm_G.sp (lv1 := []) rfl rfl (qm_x_pushI 0 rfl) ?_
    exact qm_G.ret rfl rfl (k0 (fun h => by have h9 : e = a + 6 := h.1; omega))
def qm_wrf (k : Nat) : Option qm_Rf := if k = 7 then none else some (1, 5 + k, 0)
theorem qm_d_of {S : List qm_Sh} {K : qm_J} {L : qm_Ct Int64} {D : qm_Ct UInt64} {R : qm_Ct (Option qm_Rf)} {X : Nat × (Nat → Int32)} {Q : Option qm_V → qm_Hp → Prop} {T : Nat → Int} {ln : Int} {J : qm_J} {x y : Int} {a e : Nat} (hS : qm_Sd S) (hR : qm_Rd R) (hK : ∀ i, i < 100 → K 43 0 i = T i ∧ 0 ≤ T i ∧ T i ≤ 127) (rl : 0 ≤ ln ∧ ln ≤ 100) (hx : x = (a : Int)) (hy : y = (e : Int)) (h1 : a ≤ e ∧ e ≤ 100) (k : Q (some (qm_R (qm_wrf (qm_wk T a e)))) (qm_H S J K L D R X)) : qm_C qm_P 198 [qm_R (some (0, 43, 0)), qm_I (qm_i x), qm_I (qm_i y)] (qm_H S J K L D R X) Q := by
  refine qm_C.go (cd := qm_P198) (lv := [(0, qm_R (some (0, 43, 0))), (1, qm_I (qm_i x)), (2, qm_I (qm_i y))]) rfl rfl ?_
  refine qm_G.s1 rfl (qm_x_pushI 0 rfl) ?_
  refine qm_G.s1 rfl (qm_x_istore (lv' := [(3, qm_I (qm_i 0)), (0, qm_R (some (0, 43, 0))), (1, qm_I (qm_i x)), (2, qm_I (qm_i y))]) rfl) ?_
  refine qm_G.sp (lv1 := [(0, qm_R (some (0, 43, 0))), (1, qm_I (qm_i x)), (2, qm_I (qm_i y)), (3, qm_I (qm_i 0))]) rfl rfl (qm_x_iload rfl) ?_
  refine qm_G.s1 rfl (qm_x_push) ?_
  refine qm_G.s1 rfl (qm_x_alen1 (len := 7) rfl) ?_
  refine qm_G.s1 rfl (qm_x_icmp_ge_f ⟨by decide, by decide⟩ ⟨by decide, by decide⟩ (by decide)) ?_
  refine qm_G.s1 rfl (qm_x_push) ?_
  refine qm_G.s1 rfl (qm_x_iload rfl) ?_
  refine qm_G.s1 rfl (qm_x_aald1 (z := 0) (k := 0) (by decide) (by omega)) ?_
  refine qm_G.s1 rfl (qm_x_aload rfl) ?_
  refine qm_G.s1 rfl (qm_x_iload rfl) ?_
  refine qm_G.s1 rfl (qm_x_iload rfl) ?_
  refine qm_G.call rfl rfl rfl ?_
  refine qm_d_isa0 hS hR hK rl hx hy h1 (fun c0 => ⟨_, rfl, ?_⟩) (fun c0 => ⟨_, rfl, ?_⟩)
  · refine qm_G.s1 rfl (qm_x_if_eq_f ⟨by decide, by decide⟩ (by decide)) ?_
    refine qm_G.s1 rfl (qm_x_push) ?_
    refine qm_G.s1 rfl (qm_x_iload rfl) ?_
    refine qm_G.s1 rfl (qm_x_aald1 (z := 0) (k := 0) (by decide) (by omega)) ?_
    rw [qm_wk_eq (k := 0) (by decide) (fun _ => c0) (fun j hj => ?_)] at k
    · exact qm_G.ret rfl rfl k
    · exact absurd hj (Nat.not_lt_zero j)
  · refine qm_G.s1 rfl (qm_x_if_eq_t ⟨by decide, by decide⟩ (by decide)) ?_
    refine qm_G.sp (lv1 := [(0, qm_R (some (0, 43, 0))), (1, qm_I (qm_i x)), (2, qm_I (qm_i y)), (3, qm_I (qm_i 0))]) rfl rfl (qm_x_iinc (lv' := [(3, qm_I (qm_i (0 + 1))), (0, qm_R (some (0, 43, 0))), (1, qm_I (qm_i x)), (2, qm_I (qm_i y))]) 1 rfl rfl rfl) ?_
    refine qm_G.s1 rfl (qm_x_goto) ?_
    refine qm_G.sp (lv1 := [(0, qm_R (some (0, 43, 0))), (1, qm_I (qm_i x)), (2, qm_I (qm_i y)), (3, qm_I (qm_i (0 + 1)))]) rfl rfl (qm_x_iload rfl) ?_
    refine qm_G.s1 rfl (qm_x_push) ?_
    refine qm_G.s1 rfl (qm_x_alen1 (len := 7) rfl) ?_
    refine qm_G.s1 rfl (qm_x_icmp_ge_f ⟨by omega, by omega⟩ ⟨by decide, by decide⟩ (by omega)) ?_
    refine qm_G.s1 rfl (qm_x_push) ?_
    refine qm_G.s1 rfl (qm_x_iload rfl) ?_
    refine qm_G.s1 rfl (qm_x_aald1 (z := (0 + 1)) (k := 1) (by decide) (by omega)) ?_
    refine qm_G.s1 rfl (qm_x_aload rfl) ?_
    refine qm_G.s1 rfl (qm_x_iload rfl) ?_
    refine qm_G.s1 rfl (qm_x_iload rfl) ?_
    refine qm_G.call rfl rfl rfl ?_
    refine qm_d_isa1 hS hR hK rl hx hy h1 (fun c1 => ⟨_, rfl, ?_⟩) (fun c1 => ⟨_, rfl, ?_⟩)
    · refine qm_G.s1 rfl (qm_x_if_eq_f ⟨by decide, by decide⟩ (by decide)) ?_
      refine qm_G.s1 rfl (qm_x_push) ?_
      refine qm_G.s1 rfl (qm_x_iload rfl) ?_
      refine qm_G.s1 rfl (qm_x_aald1 (z := (0 + 1)) (k := 1) (by decide) (by omega)) ?_
      rw [qm_wk_eq (k := 1) (by decide) (fun _ => c1) (fun j hj => ?_)] at k
      · exact qm_G.ret rfl rfl k
      · rcases (show j = 0 by omega) with c9
        · subst c9; exact c0
    · refine qm_G.s1 rfl (qm_x_if_eq_t ⟨by decide, by decide⟩ (by decide)) ?_
      refine qm_G.sp (lv1 := [(0, qm_R (some (0, 43, 0))), (1, qm_I (qm_i x)), (2, qm_I (qm_i y)), (3, qm_I (qm_i (0 + 1)))]) rfl rfl (qm_x_iinc (lv' := [(3, qm_I (qm_i ((0 + 1) + 1))), (0, qm_R (some (0, 43, 0))), (1, qm_I (qm_i x)), (2, qm_I (qm_i y))]) 1 rfl rfl rfl) ?_
      refine qm_G.s1 rfl (qm_x_goto) ?_
      refine qm_G.sp (lv1 := [(0, qm_R (some (0, 43, 0))), (1, qm_I (qm_i x)), (2, qm_I (qm_i y)), (3, qm_I (qm_i ((0 + 1) + 1)))]) rfl rfl (qm_x_iload rfl) ?_
      refine qm_G.s1 rfl (qm_x_push) ?_
      refine qm_G.s1 rfl (qm_x_alen1 (len := 7) rfl) ?_
      refine qm_G.s1 rfl (qm_x_icmp_ge_f ⟨by omega, by omega⟩ ⟨by decide, by decide⟩ (by omega)) ?_
      refine qm_G.s1 rfl (qm_x_push) ?_
      refine qm_G.s1 rfl (qm_x_iload rfl) ?_
      refine qm_G.s1 rfl (qm_x_aald1 (z := ((0 + 1) + 1)) (k := 2) (by decide) (by omega)) ?_
      refine qm_G.s1 rfl (qm_x_aload rfl) ?_
      refine qm_G.s1 rfl (qm_x_iload rfl) ?_
      refine qm_G.s1 rfl (qm_x_iload rfl) ?_
      refine qm_G.call rfl rfl rfl ?_
      refine qm_d_isa2 hS hR hK rl hx hy h1 (fun c2 => ⟨_, rfl, ?_⟩) (fun c2 => ⟨_, rfl, ?_⟩)
      · refine qm_G.s1 rfl (qm_x_if_eq_f ⟨by decide, by decide⟩ (by decide)) ?_
        refine qm_G.s1 rfl (qm_x_push) ?_
        refine qm_G.s1 rfl (qm_x_iload rfl) ?_
        refine qm_G.s1 rfl (qm_x_aald1 (z := ((0 + 1) + 1)) (k := 2) (by decide) (by omega)) ?_
        rw [qm_wk_eq (k := 2) (by decide) (fun _ => c2) (fun j hj => ?_)] at k
        · exact qm_G.ret rfl rfl k
        · rcases (show j = 0 ∨ j = 1 by omega) with c9 | c9
          · subst c9; exact c0
          · subst c9; exact c1
      · refine qm_G.s1 rfl (qm_x_if_eq_t ⟨by decide, by decide⟩ (by decide)) ?_
        refine qm_G.sp (lv1 := [(0, qm_R (some (0, 43, 0))), (1, qm_I (qm_i x)), (2, qm_I (qm_i y)), (3, qm_I (qm_i ((0 + 1) + 1)))]) rfl rfl (qm_x_iinc (lv' := [(3, qm_I (qm_i (((0 + 1) + 1) + 1))), (0, qm_R (some (0, 43, 0))), (1, qm_I (qm_i x)), (2, qm_I (qm_i y))]) 1 rfl rfl rfl) ?_
        refine qm_G.s1 rfl (qm_x_goto) ?_
        refine qm_G.sp (lv1 := [(0, qm_R (some (0, 43, 0))), (1, qm_I (qm_i x)), (2, qm_I (qm_i y)), (3, qm_I (qm_i (((0 + 1) + 1) + 1)))]) rfl rfl (qm_x_iload rfl) ?_
        refine qm_G.s1 rfl (qm_x_push) ?_
        refine qm_G.s1 rfl (qm_x_alen1 (len := 7) rfl) ?_
        refine qm_G.s1 rfl (qm_x_icmp_ge_f ⟨by omega, by omega⟩ ⟨by decide, by decide⟩ (by omega)) ?_
        refine qm_G.s1 rfl (qm_x_push) ?_
        refine qm_G.s1 rfl (qm_x_iload rfl) ?_
        refine qm_G.s1 rfl (qm_x_aald1 (z := (((0 + 1) + 1) + 1)) (k := 3) (by decide) (by omega)) ?_
        refine qm_G.s1 rfl (qm_x_aload rfl) ?_
        refine qm_G.s1 rfl (qm_x_iload rfl) ?_
        refine qm_G.s1 rfl (qm_x_iload rfl) ?_
        refine qm_G.call rfl rfl rfl ?_
        refine qm_d_isa3 hS hR hK rl hx hy h1 (fun c3 => ⟨_, rfl, ?_⟩) (fun c3 => ⟨_, rfl, ?_⟩)
        · refine qm_G.s1 rfl (qm_x_if_eq_f ⟨by decide, by decide⟩ (by decide)) ?_
          refine qm_G.s1 rfl (qm_x_push) ?_
          refine qm_G.s1 rfl (qm_x_iload rfl) ?_
          refine qm_G.s1 rfl (qm_x_aald1 (z := (((0 + 1) + 1) + 1)) (k := 3) (by decide) (by omega)) ?_
          rw [qm_wk_eq (k := 3) (by decide) (fun _ => c3) (fun j hj => ?_)] at k
          · exact qm_G.ret rfl rfl k
          · rcases (show j = 0 ∨ j = 1 ∨ j = 2 by omega) with c9 | c9 | c9
            · subst c9; exact c0
            · subst c9; exact c1
            · subst c9; exact c2
        · refine qm_G.s1 rfl (qm_x_if_eq_t ⟨by decide, by decide⟩ (by decide)) ?_
          refine qm_G.sp (lv1 := [(0, qm_R (some (0, 43, 0))), (1, qm_I (qm_i x)), (2, qm_I (qm_i y)), (3, qm_I (qm_i (((0 + 1) + 1) + 1)))]) rfl rfl (qm_x_iinc (lv' := [(3, qm_I (qm_i ((((0 + 1) + 1) + 1) + 1))), (0, qm_R (some (0, 43, 0))), (1, qm_I (qm_i x)), (2, qm_I (qm_i y))]) 1 rfl rfl rfl) ?_
          refine qm_G.s1 rfl (qm_x_goto) ?_
          refine qm_G.sp (lv1 := [(0, qm_R (some (0, 43, 0))), (1, qm_I (qm_i x)), (2, qm_I (qm_i y)), (3, qm_I (qm_i ((((0 + 1) + 1) + 1) + 1)))]) rfl rfl (qm_x_iload rfl) ?_
          refine qm_G.s1 rfl (qm_x_push) ?_
          refine qm_G.s1 rfl (qm_x_alen1 (len := 7) rfl) ?_
          refine qm_G.s1 rfl (qm_x_icmp_ge_f ⟨by omega, by omega⟩ ⟨by decide, by decide⟩ (by omega)) ?_
          refine qm_G.s1 rfl (qm_x_push) ?_
          refine qm_G.s1 rfl (qm_x_iload rfl) ?_
          refine qm_G.s1 rfl (qm_x_aald1 (z := ((((0 + 1) + 1) + 1) + 1)) (k := 4) (by decide) (by omega)) ?_
          refine qm_G.s1 rfl (qm_x_aload rfl) ?_
          refine qm_G.s1 rfl (qm_x_iload rfl) ?_
          refine qm_G.s1 rfl (qm_x_iload rfl) ?_
          refine qm_G.call rfl rfl rfl ?_
          refine qm_d_isa4 hS hR hK rl hx hy h1 (fun c4 => ⟨_, rfl, ?_⟩) (fun c4 => ⟨_, rfl, ?_⟩)
          · refine qm_G.s1 rfl (qm_x_if_eq_f ⟨by decide, by decide⟩ (by decide)) ?_
            refine qm_G.s1 rfl (qm_x_push) ?_
            refine qm_G.s1 rfl (qm_x_iload rfl) ?_
            refine qm_G.s1 rfl (qm_x_aald1 (z := ((((0 + 1) + 1) + 1) + 1)) (k := 4) (by decide) (by omega)) ?_
            rw [qm_wk_eq (k := 4) (by decide) (fun _ => c4) (fun j hj => ?_)] at k
            · exact qm_G.ret rfl rfl k
            · rcases (show j = 0 ∨ j = 1 ∨ j = 2 ∨ j = 3 by omega) with c9 | c9 | c9 | c9
              · subst c9; exact c0
              · subst c9; exact c1
              · subst c9; exact c2
              · subst c9; exact c3
          · refine qm_G.s1 rfl (qm_x_if_eq_t ⟨by decide, by decide⟩ (by decide)) ?_
            refine qm_G.sp (lv1 := [(0, qm_R (some (0, 43, 0))), (1, qm_I (qm_i x)), (2, qm_I (qm_i y)), (3, qm_I (qm_i ((((0 + 1) + 1) + 1) + 1)))]) rfl rfl (qm_x_iinc (lv' := [(3, qm_I (qm_i (((((0 + 1) + 1) + 1) + 1) + 1))), (0, qm_R (some (0, 43, 0))), (1, qm_I (qm_i x)), (2, qm_I (qm_i y))]) 1 rfl rfl rfl) ?_
            refine qm_G.s1 rfl (qm_x_goto) ?_
            refine qm_G.sp (lv1 := [(0, qm_R (some (0, 43, 0))), (1, qm_I (qm_i x)), (2, qm_I (qm_i y)), (3, qm_I (qm_i (((((0 + 1) + 1) + 1) + 1) + 1)))]) rfl rfl (qm_x_iload rfl) ?_
            refine qm_G.s1 rfl (qm_x_push) ?_
            refine qm_G.s1 rfl (qm_x_alen1 (len := 7) rfl) ?_
            refine qm_G.s1 rfl (qm_x_icmp_ge_f ⟨by omega, by omega⟩ ⟨by decide, by decide⟩ (by omega)) ?_
            refine qm_G.s1 rfl (qm_x_push) ?_
            refine qm_G.s1 rfl (qm_x_iload rfl) ?_
            refine qm_G.s1 rfl (qm_x_aald1 (z := (((((0 + 1) + 1) + 1) + 1) + 1)) (k := 5) (by decide) (by omega)) ?_
            refine qm_G.s1 rfl (qm_x_aload rfl) ?_
            refine qm_G.s1 rfl (qm_x_iload rfl) ?_
            refine qm_G.s1 rfl (qm_x_iload rfl) ?_
            refine qm_G.call rfl rfl rfl ?_
            refine qm_d_isa5 hS hR hK rl hx hy h1 (fun c5 => ⟨_, rfl, ?_⟩) (fun c5 => ⟨_, rfl, ?_⟩)
            · refine qm_G.s1 rfl (qm_x_if_eq_f ⟨by decide, by decide⟩ (by decide)) ?_
              refine qm_G.s1 rfl (qm_x_push) ?_
              refine qm_G.s1 rfl (qm_x_iload rfl) ?_
              refine qm_G.s1 rfl (qm_x_aald1 (z := (((((0 + 1) + 1) + 1) + 1) + 1)) (k := 5) (by decide) (by omega)) ?_
              rw [qm_wk_eq (k := 5) (by decide) (fun _ => c5) (fun j hj => ?_)] at k
              · exact qm_G.ret rfl rfl k
              · rcases (show j = 0 ∨ j = 1 ∨ j = 2 ∨ j = 3 ∨ j = 4 by omega) with c9 | c9 | c9 | c9 | c9
                · subst c9; exact c0
                · subst c9; exact c1
                · subst c9; exact c2
                · subst c9; exact c3
                · subst c9; exact c4
            · refine qm_G.s1 rfl (qm_x_if_eq_t ⟨by decide, by decide⟩ (by decide)) ?_
              refine qm_G.sp (lv1 := [(0, qm_R (some (0, 43, 0))), (1, qm_I (qm_i x)), (2, qm_I (qm_i y)), (3, qm_I (qm_i (((((0 + 1) + 1) + 1) + 1) + 1)))]) rfl rfl (qm_x_iinc (lv' := [(3, qm_I (qm_i ((((((0 + 1) + 1) + 1) + 1) + 1) + 1))), (0, qm_R (some (0, 43, 0))), (1, qm_I (qm_i x)), (2, qm_I (qm_i y))]) 1 rfl rfl rfl) ?_
              refine qm_G.s1 rfl (qm_x_goto) ?_
              refine qm_G.sp (lv1 := [(0, qm_R (some (0, 43, 0))), (1, qm_I (qm_i x)), (2, qm_I (qm_i y)), (3, qm_I (qm_i ((((((0 + 1) + 1) + 1) + 1) + 1) + 1)))]) rfl rfl (qm_x_iload rfl) ?_
              refine qm_G.s1 rfl (qm_x_push) ?_
              refine qm_G.s1 rfl (qm_x_alen1 (len := 7) rfl) ?_
              refine qm_G.s1 rfl (qm_x_icmp_ge_f ⟨by omega, by omega⟩ ⟨by decide, by decide⟩ (by omega)) ?_
              refine qm_G.s1 rfl (qm_x_push) ?_
              refine qm_G.s1 rfl (qm_x_iload rfl) ?_
              refine qm_G.s1 rfl (qm_x_aald1 (z := ((((((0 + 1) + 1) + 1) + 1) + 1) + 1)) (k := 6) (by decide) (by omega)) ?_
              refine qm_G.s1 rfl (qm_x_aload rfl) ?_
              refine qm_G.s1 rfl (qm_x_iload rfl) ?_
              refine qm_G.s1 rfl (qm_x_iload rfl) ?_
              refine qm_G.call rfl rfl rfl ?_
              refine qm_d_isa6 hS hR hK rl hx hy h1 (fun c6 => ⟨_, rfl, ?_⟩) (fun c6 => ⟨_, rfl, ?_⟩)
              · refine qm_G.s1 rfl (qm_x_if_eq_f ⟨by decide, by decide⟩ (by decide)) ?_
                refine qm_G.s1 rfl (qm_x_push) ?_
                refine qm_G.s1 rfl (qm_x_iload rfl) ?_
                refine qm_G.s1 rfl (qm_x_aald1 (z := ((((((0 + 1) + 1) + 1) + 1) + 1) + 1)) (k := 6) (by decide) (by omega)) ?_
                rw [qm_wk_eq (k := 6) (by decide) (fun _ => c6) (fun j hj => ?_)] at k
                · exact qm_G.ret rfl rfl k
                · rcases (show j = 0 ∨ j = 1 ∨ j = 2 ∨ j = 3 ∨ j = 4 ∨ j = 5 by omega) with c9 | c9 | c9 | c9 | c9 | c9
                  · subst c9; exact c0
                  · subst c9; exact c1
                  · subst c9; exact c2
                  · subst c9; exact c3
                  · subst c9; exact c4
                  · subst c9; exact c5
              · refine qm_G.s1 rfl (qm_x_if_eq_t ⟨by decide, by decide⟩ (by decide)) ?_
                refine qm_G.sp (lv1 := [(0, qm_R (some (0, 43, 0))), (1, qm_I (qm_i x)), (2, qm_I (qm_i y)), (3, qm_I (qm_i ((((((0 + 1) + 1) + 1) + 1) + 1) + 1)))]) rfl rfl (qm_x_iinc (lv' := [(3, qm_I (qm_i (((((((0 + 1) + 1) + 1) + 1) + 1) + 1) + 1))), (0, qm_R (some (0, 43, 0))), (1, qm_I (qm_i x)), (2, qm_I (qm_i y))]) 1 rfl rfl rfl) ?_
                refine qm_G.s1 rfl (qm_x_goto) ?_
                refine qm_G.sp (lv1 := [(0, qm_R (some (0, 43, 0))), (1, qm_I (qm_i x)), (2, qm_I (qm_i y)), (3, qm_I (qm_i (((((((0 + 1) + 1) + 1) + 1) + 1) + 1) + 1)))]) rfl rfl (qm_x_iload rfl) ?_
                refine qm_G.s1 rfl (qm_x_push) ?_
                refine qm_G.s1 rfl (qm_x_alen1 (len := 7) rfl) ?_
                refine qm_G.s1 rfl (qm_x_icmp_ge_t ⟨by omega, by omega⟩ ⟨by decide, by decide⟩ (by omega)) ?_
                refine qm_G.sp (lv1 := []) rfl rfl (qm_x_push) ?_
                rw [qm_wk_eq (k := 7) (by decide) (fun h => absurd h (by decide)) (fun j hj => ?_)] at k
                · exact qm_G.ret rfl rfl k
                · rcases (show j = 0 ∨ j = 1 ∨ j = 2 ∨ j = 3 ∨ j = 4 ∨ j = 5 ∨ j = 6 by omega) with c9 | c9 | c9 | c9 | c9 | c9 | c9
                  · subst c9; exact c0
                  · subst c9; exact c1
                  · subst c9; exact c2
                  · subst c9; exact c3
                  · subst c9; exact c4
                  · subst c9; exact c5
                  · subst c9; exact c6
