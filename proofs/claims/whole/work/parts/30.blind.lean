/-! A RUN THAT MEETS NO PLACE OF THE SCRIPT goes the same whatever the script -/
def qm_sx (h : qm_Hp) (X : Nat × (Nat → Int32)) : qm_Hp := (h.1, h.2.1, h.2.2.1, h.2.2.2.1, h.2.2.2.2.1, h.2.2.2.2.2.1, X)
/-- no place of the script -/
def qm_k1v : qm_V → Bool
  | Sum.inr (Sum.inr (Sum.inr (Sum.inr (some (k, _, _))))) => Nat.blt k 2
  | _ => true
def qm_k1s : List qm_V → Bool
  | [] => true
  | v :: l => qm_k1v v && qm_k1s l
def qm_Bl (op : qm_Op) : Prop := ∀ f, op = Sum.inl f → ∀ (lv : qm_Lv) (st : List qm_V) (h : qm_Hp) (X : Nat × (Nat → Int32)) (q : Nat × qm_Lv × List qm_V × qm_Hp), qm_k1s st = true → f lv st h = some q → f lv st (qm_sx h X) = some (q.1, q.2.1, q.2.2.1, qm_sx q.2.2.2 X)
theorem qm_b_pr (ks : List Nat) {op : qm_Op} (h0 : qm_Bl op) : qm_Bl (qm_pr ks op) := by
  rcases op with g | o
  · intro f e lv st h X q hk hf
    obtain rfl := Sum.inl.inj (show (Sum.inl _ : qm_Op) = Sum.inl f from e)
    exact h0 g rfl _ st h X q hk hf
  · intro f e
    cases e
theorem qm_arr_sx (ty : Nat) (h : qm_Hp) (X : Nat × (Nat → Int32)) (a : qm_Rf) (ha : Nat.blt a.1 2 = true) : qm_arr ty (qm_sx h X) a = qm_arr ty h a := by
  obtain ⟨k, r, s⟩ := a
  rcases k with _ | _ | k
  · rfl
  · rfl
  · exact absurd (Nat.le_of_ble_eq_true ha) (by dsimp only; omega)
theorem qm_arrR_sx (h : qm_Hp) (X : Nat × (Nat → Int32)) (a : qm_Rf) : qm_arrR (qm_sx h X) a = qm_arrR h a := by
  obtain ⟨k, r, s⟩ := a
  rcases k with _ | _ | k <;> rfl
theorem qm_len_sx (h : qm_Hp) (X : Nat × (Nat → Int32)) (a : qm_Rf) (ha : Nat.blt a.1 2 = true) : qm_len (qm_sx h X) a = qm_len h a := by
  obtain ⟨k, r, s⟩ := a
  rcases k with _ | _ | k
  · rfl
  · rfl
  · exact absurd (Nat.le_of_ble_eq_true ha) (by dsimp only; omega)
theorem qm_rdI_sx (h : qm_Hp) (X : Nat × (Nat → Int32)) (a : qm_Rf) (i : Nat) (ha : Nat.blt a.1 2 = true) : qm_rdI (qm_sx h X) a i = qm_rdI h a i := by
  obtain ⟨k, r, s⟩ := a
  rcases k with _ | _ | k
  · rfl
  · rfl
  · exact absurd (Nat.le_of_ble_eq_true ha) (by dsimp only; omega)
theorem qm_rdR_sx (h : qm_Hp) (X : Nat × (Nat → Int32)) (a : qm_Rf) (i : Nat) : qm_rdR (qm_sx h X) a i = qm_rdR h a i := by
  obtain ⟨k, r, s⟩ := a
  rcases k with _ | k <;> rfl
theorem qm_rcv_sx (h : qm_Hp) (X : Nat × (Nat → Int32)) (ci : Option Nat) (as : List qm_V) : qm_rcv h ci as = true → qm_rcv (qm_sx h X) ci as = true := by
  intro hr
  unfold qm_rcv at hr ⊢
  split at hr
  · rfl
  · rename_i ci' a as'
    obtain ⟨k, r, s⟩ := a
    rcases k with _ | _ | k
    · exact hr
    · exact hr
    · exact absurd hr (by simp [qm_shp])
  · cases hr
theorem qm_b_push {v : qm_V} {n : Nat} : qm_Bl (qm_o_push v n) := by
  intro f e lv st h X q hk hf
  obtain rfl := Sum.inl.inj (show (Sum.inl _ : qm_Op) = Sum.inl f from e)
  cases hf
  rfl
theorem qm_b_iload {i n : Nat} : qm_Bl (qm_o_iload i n) := by
  intro f e lv st h X q hk hf
  obtain rfl := Sum.inl.inj (show (Sum.inl _ : qm_Op) = Sum.inl f from e)
  first
    | (cases hf; rfl)
    | (dsimp only at hf
       try simp only [Bool.cond_eq_ite] at hf
       dsimp only
       try simp only [Bool.cond_eq_ite]
       repeat' split at hf
       all_goals first | (cases hf; done) | (cases hf; rfl) | (cases hf; simp_all [qm_sx, qm_new]; done) | (simp_all [qm_sx, qm_new]; done) | (cases hf; rename_i h9; rw [if_neg h9]; rfl))
theorem qm_b_aload {i n : Nat} : qm_Bl (qm_o_aload i n) := by
  intro f e lv st h X q hk hf
  obtain rfl := Sum.inl.inj (show (Sum.inl _ : qm_Op) = Sum.inl f from e)
  first
    | (cases hf; rfl)
    | (dsimp only at hf
       try simp only [Bool.cond_eq_ite] at hf
       dsimp only
       try simp only [Bool.cond_eq_ite]
       repeat' split at hf
       all_goals first | (cases hf; done) | (cases hf; rfl) | (cases hf; simp_all [qm_sx, qm_new]; done) | (simp_all [qm_sx, qm_new]; done) | (cases hf; rename_i h9; rw [if_neg h9]; rfl))
theorem qm_b_istore {i n : Nat} : qm_Bl (qm_o_istore i n) := by
  intro f e lv st h X q hk hf
  obtain rfl := Sum.inl.inj (show (Sum.inl _ : qm_Op) = Sum.inl f from e)
  first
    | (cases hf; rfl)
    | (dsimp only at hf
       try simp only [Bool.cond_eq_ite] at hf
       dsimp only
       try simp only [Bool.cond_eq_ite]
       repeat' split at hf
       all_goals first | (cases hf; done) | (cases hf; rfl) | (cases hf; simp_all [qm_sx, qm_new]; done) | (simp_all [qm_sx, qm_new]; done) | (cases hf; rename_i h9; rw [if_neg h9]; rfl))
theorem qm_b_astore {i n : Nat} : qm_Bl (qm_o_astore i n) := by
  intro f e lv st h X q hk hf
  obtain rfl := Sum.inl.inj (show (Sum.inl _ : qm_Op) = Sum.inl f from e)
  first
    | (cases hf; rfl)
    | (dsimp only at hf
       try simp only [Bool.cond_eq_ite] at hf
       dsimp only
       try simp only [Bool.cond_eq_ite]
       repeat' split at hf
       all_goals first | (cases hf; done) | (cases hf; rfl) | (cases hf; simp_all [qm_sx, qm_new]; done) | (simp_all [qm_sx, qm_new]; done) | (cases hf; rename_i h9; rw [if_neg h9]; rfl))
theorem qm_b_iinc {i : Nat} {d : Int32} {n : Nat} : qm_Bl (qm_o_iinc i d n) := by
  intro f e lv st h X q hk hf
  obtain rfl := Sum.inl.inj (show (Sum.inl _ : qm_Op) = Sum.inl f from e)
  first
    | (cases hf; rfl)
    | (dsimp only at hf
       try simp only [Bool.cond_eq_ite] at hf
       dsimp only
       try simp only [Bool.cond_eq_ite]
       repeat' split at hf
       all_goals first | (cases hf; done) | (cases hf; rfl) | (cases hf; simp_all [qm_sx, qm_new]; done) | (simp_all [qm_sx, qm_new]; done) | (cases hf; rename_i h9; rw [if_neg h9]; rfl))
theorem qm_b_iadd {n : Nat} : qm_Bl (qm_o_iadd n) := by
  intro f e lv st h X q hk hf
  obtain rfl := Sum.inl.inj (show (Sum.inl _ : qm_Op) = Sum.inl f from e)
  first
    | (cases hf; rfl)
    | (dsimp only at hf
       try simp only [Bool.cond_eq_ite] at hf
       dsimp only
       try simp only [Bool.cond_eq_ite]
       repeat' split at hf
       all_goals first | (cases hf; done) | (cases hf; rfl) | (cases hf; simp_all [qm_sx, qm_new]; done) | (simp_all [qm_sx, qm_new]; done) | (cases hf; rename_i h9; rw [if_neg h9]; rfl))
theorem qm_b_if_eq {t n : Nat} : qm_Bl (qm_o_if_eq t n) := by
  intro f e lv st h X q hk hf
  obtain rfl := Sum.inl.inj (show (Sum.inl _ : qm_Op) = Sum.inl f from e)
  first
    | (cases hf; rfl)
    | (dsimp only at hf
       try simp only [Bool.cond_eq_ite] at hf
       dsimp only
       try simp only [Bool.cond_eq_ite]
       repeat' split at hf
       all_goals first | (cases hf; done) | (cases hf; rfl) | (cases hf; simp_all [qm_sx, qm_new]; done) | (simp_all [qm_sx, qm_new]; done) | (cases hf; rename_i h9; rw [if_neg h9]; rfl))
theorem qm_b_icmp_ge {t n : Nat} : qm_Bl (qm_o_icmp_ge t n) := by
  intro f e lv st h X q hk hf
  obtain rfl := Sum.inl.inj (show (Sum.inl _ : qm_Op) = Sum.inl f from e)
  first
    | (cases hf; rfl)
    | (dsimp only at hf
       try simp only [Bool.cond_eq_ite] at hf
       dsimp only
       try simp only [Bool.cond_eq_ite]
       repeat' split at hf
       all_goals first | (cases hf; done) | (cases hf; rfl) | (cases hf; simp_all [qm_sx, qm_new]; done) | (simp_all [qm_sx, qm_new]; done) | (cases hf; rename_i h9; rw [if_neg h9]; rfl))
theorem qm_b_goto {n : Nat} : qm_Bl (qm_o_goto n) := by
  intro f e lv st h X q hk hf
  obtain rfl := Sum.inl.inj (show (Sum.inl _ : qm_Op) = Sum.inl f from e)
  cases hf
  rfl
theorem qm_b_dup {n : Nat} : qm_Bl (qm_o_dup n) := by
  intro f e lv st h X q hk hf
  obtain rfl := Sum.inl.inj (show (Sum.inl _ : qm_Op) = Sum.inl f from e)
  first
    | (cases hf; rfl)
    | (dsimp only at hf
       try simp only [Bool.cond_eq_ite] at hf
       dsimp only
       try simp only [Bool.cond_eq_ite]
       repeat' split at hf
       all_goals first | (cases hf; done) | (cases hf; rfl) | (cases hf; simp_all [qm_sx, qm_new]; done) | (simp_all [qm_sx, qm_new]; done) | (cases hf; rename_i h9; rw [if_neg h9]; rfl))
theorem qm_b_iald {n : Nat} : qm_Bl (qm_o_iald n) := by
  intro f e lv st h X q hk hf
  obtain rfl := Sum.inl.inj (show (Sum.inl _ : qm_Op) = Sum.inl f from e)
  dsimp only at hf ⊢
  split at hf
  · rename_i i a r
    simp only [qm_k1s, qm_k1v, Bool.and_eq_true, Bool.true_and] at hk
    rw [qm_arr_sx _ _ _ _ hk.1]
    split at hf
    · split at hf
      · cases hf
      · rename_i h9
        cases hf
        rw [if_neg h9, qm_rdI_sx _ _ _ _ hk.1]
    · cases hf
  · cases hf
theorem qm_b_aald {n : Nat} : qm_Bl (qm_o_aald n) := by
  intro f e lv st h X q hk hf
  obtain rfl := Sum.inl.inj (show (Sum.inl _ : qm_Op) = Sum.inl f from e)
  dsimp only at hf ⊢
  split at hf
  · rename_i i a r
    simp only [qm_k1s, qm_k1v, Bool.and_eq_true, Bool.true_and] at hk
    rw [qm_arrR_sx]
    split at hf
    · split at hf
      · cases hf
      · rename_i h9
        cases hf
        rw [if_neg h9, qm_rdR_sx]
    · cases hf
  · cases hf
theorem qm_b_alen {n : Nat} : qm_Bl (qm_o_alen n) := by
  intro f e lv st h X q hk hf
  obtain rfl := Sum.inl.inj (show (Sum.inl _ : qm_Op) = Sum.inl f from e)
  dsimp only at hf ⊢
  split at hf
  · rename_i a r
    simp only [qm_k1s, qm_k1v, Bool.and_eq_true] at hk
    rw [qm_len_sx _ _ _ hk.1]
    split at hf
    · split at hf
      · cases hf
      · rename_i h9
        cases hf
        rw [if_neg h9]
    · cases hf
  · cases hf
theorem qm_b_iast {n : Nat} : qm_Bl (qm_o_iast n) := by
  intro f e lv st h X q hk hf
  obtain rfl := Sum.inl.inj (show (Sum.inl _ : qm_Op) = Sum.inl f from e)
  dsimp only at hf ⊢
  split at hf
  · rename_i x i a r
    rw [show qm_arr 0 (qm_sx h X) (0, a) = qm_arr 0 h (0, a) from rfl]
    split at hf
    · split at hf
      · cases hf
      · rename_i h9
        cases hf
        rw [if_neg h9]
        rfl
    · cases hf
  · cases hf
theorem qm_b_aast {n : Nat} : qm_Bl (qm_o_aast n) := by
  intro f e lv st h X q hk hf
  obtain rfl := Sum.inl.inj (show (Sum.inl _ : qm_Op) = Sum.inl f from e)
  dsimp only at hf ⊢
  split at hf
  · rename_i x i r1 s1 r
    rw [show qm_nth (qm_sx h X).1 r1 = qm_nth h.1 r1 from rfl]
    split at hf
    · rename_i ty len heq
      rw [show qm_elt (qm_sx h X) ty x = qm_elt h ty x from rfl]
      cases hb : (Nat.beq s1 0 && qm_elt h ty x) with
      | false => rw [hb] at hf; cases hf
      | true =>
        rw [hb] at hf
        simp only [cond_true] at hf ⊢
        split at hf
        · cases hf
        · rename_i h9
          cases hf
          rw [if_neg h9]
          rfl
    · cases hf
  · cases hf
theorem qm_b_getf {ci k t n : Nat} : qm_Bl (qm_o_getf ci k t n) := by
  intro f e lv st h X q hk hf
  obtain rfl := Sum.inl.inj (show (Sum.inl _ : qm_Op) = Sum.inl f from e)
  first
    | (cases hf; rfl)
    | (dsimp only at hf
       try simp only [Bool.cond_eq_ite] at hf
       dsimp only
       try simp only [Bool.cond_eq_ite]
       repeat' split at hf
       all_goals first | (cases hf; done) | (cases hf; rfl) | (cases hf; simp_all [qm_sx, qm_new]; done) | (simp_all [qm_sx, qm_new]; done) | (cases hf; rename_i h9; rw [if_neg h9]; rfl))
theorem qm_b_putf {ci k t n : Nat} : qm_Bl (qm_o_putf ci k t n) := by
  intro f e lv st h X q hk hf
  obtain rfl := Sum.inl.inj (show (Sum.inl _ : qm_Op) = Sum.inl f from e)
  first
    | (cases hf; rfl)
    | (dsimp only at hf
       try simp only [Bool.cond_eq_ite] at hf
       dsimp only
       try simp only [Bool.cond_eq_ite]
       repeat' split at hf
       all_goals first | (cases hf; done) | (cases hf; rfl) | (cases hf; simp_all [qm_sx, qm_new]; done) | (simp_all [qm_sx, qm_new]; done) | (cases hf; rename_i h9; rw [if_neg h9]; rfl))
theorem qm_b_new {ci n : Nat} : qm_Bl (qm_o_new ci n) := by
  intro f e lv st h X q hk hf
  obtain rfl := Sum.inl.inj (show (Sum.inl _ : qm_Op) = Sum.inl f from e)
  cases hf
  rfl
theorem qm_b_newa {ty n : Nat} : qm_Bl (qm_o_newa ty n) := by
  intro f e lv st h X q hk hf
  obtain rfl := Sum.inl.inj (show (Sum.inl _ : qm_Op) = Sum.inl f from e)
  first
    | (cases hf; rfl)
    | (dsimp only at hf
       try simp only [Bool.cond_eq_ite] at hf
       dsimp only
       try simp only [Bool.cond_eq_ite]
       repeat' split at hf
       all_goals first | (cases hf; done) | (cases hf; rfl) | (cases hf; simp_all [qm_sx, qm_new]; done) | (simp_all [qm_sx, qm_new]; done) | (cases hf; rename_i h9; rw [if_neg h9]; rfl))
theorem qm_b_mnew {tyo tyi n : Nat} : qm_Bl (qm_o_mnew tyo tyi n) := by
  intro f e lv st h X q hk hf
  obtain rfl := Sum.inl.inj (show (Sum.inl _ : qm_Op) = Sum.inl f from e)
  first
    | (cases hf; rfl)
    | (dsimp only at hf
       try simp only [Bool.cond_eq_ite] at hf
       dsimp only
       try simp only [Bool.cond_eq_ite]
       repeat' split at hf
       all_goals first | (cases hf; done) | (cases hf; rfl) | (cases hf; simp_all [qm_sx, qm_new]; done) | (simp_all [qm_sx, qm_new]; done) | (cases hf; rename_i h9; rw [if_neg h9]; rfl))
theorem qm_b_obj {n : Nat} : qm_Bl (qm_o_obj n) := by
  intro f e lv st h X q hk hf
  obtain rfl := Sum.inl.inj (show (Sum.inl _ : qm_Op) = Sum.inl f from e)
  first
    | (cases hf; rfl)
    | (dsimp only at hf
       try simp only [Bool.cond_eq_ite] at hf
       dsimp only
       try simp only [Bool.cond_eq_ite]
       repeat' split at hf
       all_goals first | (cases hf; done) | (cases hf; rfl) | (cases hf; simp_all [qm_sx, qm_new]; done) | (simp_all [qm_sx, qm_new]; done) | (cases hf; rename_i h9; rw [if_neg h9]; rfl))
