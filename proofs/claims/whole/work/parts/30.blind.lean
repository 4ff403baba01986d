/-! A RUN THAT MEETS NO PLACE OF THE SCRIPT goes the same whatever the script -/
def qm_sx (h : qm_Hp) (X : Nat × (Nat → Int32)) : qm_Hp := (h.1, h.2.1, h.2.2.1, h.2.2.2.1, h.2.2.2.2.1, h.2.2.2.2.2.1, X)
/-- no place of the script -/
def qm_k1v : qm_V → Bool
  | Sum.inr (Sum.inr (Sum.inr (Sum.inr (some (k, _, _))))) => Nat.blt k 2
  | _ => true
def qm_k1s : List qm_V → Bool
  | [] => true
  | v :: l => qm_k1v v && qm_k1s l
def qm_Bl (op : qm_Op) : Prop := ∀ f, op = Sum.inl f → ∀ (lv : qm_Lv) (st : List qm_V) (h : qm_Hp) (X : Nat × (Nat → Int32)) (q : Nat × qm_Lv × List qm_V × qm_Hp), qm_k1s st = true → f lv st h = some q → f lv st (qm_sx h X) = some (q.1, q.2.1, q.2.2.1, qm_sx q.2.2.2 X)
theorem qm_b_pr (ks : List Nat) {op : qm_Op} (h0 : qm_Bl op) : qm_Bl (qm_pr ks op) := by
  rcases op with g | o
  · intro f e lv st h X q hk hf
    obtain rfl := Sum.inl.inj (show (Sum.inl _ : qm_Op) = Sum.inl f from e)
    exact h0 g rfl _ st h X q hk hf
  · intro f e
    cases e
theorem qm_arr_sx (ty : Nat) (h : qm_Hp) (X : Nat × (Nat → Int32)) (a : qm_Rf) (ha : Nat.blt a.1 2 = true) : qm_arr ty (qm_sx h X) a = qm_arr ty h a := by
  obtain ⟨k, r, s⟩ := a
  rcases k with _ | _ | k
  · rfl
  · rfl
  · exact absurd (Nat.le_of_ble_eq_true ha) (by dsimp only; omega)
theorem qm_arrR_sx (h : qm_Hp) (X : Nat × (Nat → Int32)) (a : qm_Rf) : qm_arrR (qm_sx h X) a = qm_arrR h a := by
  obtain ⟨k, r, s⟩ := a
  rcases k with _ | _ | k <;> rfl
theorem qm_len_sx (h : qm_Hp) (X : Nat × (Nat → Int32)) (a : qm_Rf) (ha : Nat.blt a.1 2 = true) : qm_len (qm_sx h X) a = qm_len h a := by
  obtain ⟨k, r, s⟩ := a
  rcases k with _ | _ | k
  · rfl
  · rfl
  · exact absurd (Nat.le_of_ble_eq_true ha) (by dsimp only; omega)
theorem qm_rdI_sx (h : qm_Hp) (X : Nat × (Nat → Int32)) (a : qm_Rf) (i : Nat) (ha : Nat.blt a.1 2 = true) : qm_rdI (qm_sx h X) a i = qm_rdI h a i := by
  obtain ⟨k, r, s⟩ := a
  rcases k with _ | _ | k
  · rfl
  · rfl
  · exact absurd (Nat.le_of_ble_eq_true ha) (by dsimp only; omega)
theorem qm_rdR_sx (h : qm_Hp) (X : Nat × (Nat → Int32)) (a : qm_Rf) (i : Nat) : qm_rdR (qm_sx h X) a i = qm_rdR h a i := by
  obtain ⟨k, r, s⟩ := a
  rcases k with _ | k <;> rfl
theorem qm_rcv_sx (h : qm_Hp) (X : Nat × (Nat → Int32)) (ci : Option Nat) (as : List qm_V) : qm_rcv h ci as = true → qm_rcv (qm_sx h X) ci as = true := by
  intro hr
  unfold qm_rcv at hr ⊢
  split at hr
  · rfl
  · rename_i ci' a as'
    obtain ⟨k, r, s⟩ := a
    rcases k with _ | _ | k
    · exact hr
    · exact hr
    · exact absurd hr (by simp [qm_shp])
  · cases hr
theorem qm_b_push {v : qm_V} {n : Nat} : qm_Bl (qm_o_push v n) := by
  intro f e lv st h X q hk hf
  obtain rfl := Sum.inl.inj (show (Sum.inl _ : qm_Op) = Sum.inl f from e)
  cases hf
  rfl
theorem qm_b_iload {i n : Nat} : qm_Bl (qm_o_iload i n) := by
  intro f e lv st h X q hk hf
  obtain rfl := Sum.inl.inj (show (Sum.inl _ : qm_Op) = Sum.inl f from e)
  first
    | (cases hf; rfl)
    | (dsimp only at hf
       try simp only [Bool.cond_eq_ite] at hf
       dsimp only
       try simp only [Bool.cond_eq_ite]
       repeat' split at hf
       all_goals first | (cases hf; done) | (cases hf; rfl) | (cases hf; simp_all [qm_sx, qm_new]; done) | (simp_all [qm_sx, qm_new]; done) | (cases hf; rename_i h9; first | (rw [if_neg h9]; done) | (rw [if_neg h9]; rfl) | (rw [if_pos h9]; done) | (rw [if_pos h9]; rfl)))
theorem qm_b_aload {i n : Nat} : qm_Bl (qm_o_aload i n) := by
  intro f e lv st h X q hk hf
  obtain rfl := Sum.inl.inj (show (Sum.inl _ : qm_Op) = Sum.inl f from e)
  first
    | (cases hf; rfl)
    | (dsimp only at hf
       try simp only [Bool.cond_eq_ite] at hf
       dsimp only
       try simp only [Bool.cond_eq_ite]
       repeat' split at hf
       all_goals first | (cases hf; done) | (cases hf; rfl) | (cases hf; simp_all [qm_sx, qm_new]; done) | (simp_all [qm_sx, qm_new]; done) | (cases hf; rename_i h9; first | (rw [if_neg h9]; done) | (rw [if_neg h9]; rfl) | (rw [if_pos h9]; done) | (rw [if_pos h9]; rfl)))
theorem qm_b_istore {i n : Nat} : qm_Bl (qm_o_istore i n) := by
  intro f e lv st h X q hk hf
  obtain rfl := Sum.inl.inj (show (Sum.inl _ : qm_Op) = Sum.inl f from e)
  first
    | (cases hf; rfl)
    | (dsimp only at hf
       try simp only [Bool.cond_eq_ite] at hf
       dsimp only
       try simp only [Bool.cond_eq_ite]
       repeat' split at hf
       all_goals first | (cases hf; done) | (cases hf; rfl) | (cases hf; simp_all [qm_sx, qm_new]; done) | (simp_all [qm_sx, qm_new]; done) | (cases hf; rename_i h9; first | (rw [if_neg h9]; done) | (rw [if_neg h9]; rfl) | (rw [if_pos h9]; done) | (rw [if_pos h9]; rfl)))
theorem qm_b_astore {i n : Nat} : qm_Bl (qm_o_astore i n) := by
  intro f e lv st h X q hk hf
  obtain rfl := Sum.inl.inj (show (Sum.inl _ : qm_Op) = Sum.inl f from e)
  first
    | (cases hf; rfl)
    | (dsimp only at hf
       try simp only [Bool.cond_eq_ite] at hf
       dsimp only
       try simp only [Bool.cond_eq_ite]
       repeat' split at hf
       all_goals first | (cases hf; done) | (cases hf; rfl) | (cases hf; simp_all [qm_sx, qm_new]; done) | (simp_all [qm_sx, qm_new]; done) | (cases hf; rename_i h9; first | (rw [if_neg h9]; done) | (rw [if_neg h9]; rfl) | (rw [if_pos h9]; done) | (rw [if_pos h9]; rfl)))
theorem qm_b_iinc {i : Nat} {d : Int32} {n : Nat} : qm_Bl (qm_o_iinc i d n) := by
  intro f e lv st h X q hk hf
  obtain rfl := Sum.inl.inj (show (Sum.inl _ : qm_Op) = Sum.inl f from e)
  first
    | (cases hf; rfl)
    | (dsimp only at hf
       try simp only [Bool.cond_eq_ite] at hf
       dsimp only
       try simp only [Bool.cond_eq_ite]
       repeat' split at hf
       all_goals first | (cases hf; done) | (cases hf; rfl) | (cases hf; simp_all [qm_sx, qm_new]; done) | (simp_all [qm_sx, qm_new]; done) | (cases hf; rename_i h9; first | (rw [if_neg h9]; done) | (rw [if_neg h9]; rfl) | (rw [if_pos h9]; done) | (rw [if_pos h9]; rfl)))
theorem qm_b_iadd {n : Nat} : qm_Bl (qm_o_iadd n) := by
  intro f e lv st h X q hk hf
  obtain rfl := Sum.inl.inj (show (Sum.inl _ : qm_Op) = Sum.inl f from e)
  first
    | (cases hf; rfl)
    | (dsimp only at hf
       try simp only [Bool.cond_eq_ite] at hf
       dsimp only
       try simp only [Bool.cond_eq_ite]
       repeat' split at hf
       all_goals first | (cases hf; done) | (cases hf; rfl) | (cases hf; simp_all [qm_sx, qm_new]; done) | (simp_all [qm_sx, qm_new]; done) | (cases hf; rename_i h9; first | (rw [if_neg h9]; done) | (rw [if_neg h9]; rfl) | (rw [if_pos h9]; done) | (rw [if_pos h9]; rfl)))
theorem qm_b_if_eq {t n : Nat} : qm_Bl (qm_o_if_eq t n) := by
  intro f e lv st h X q hk hf
  obtain rfl := Sum.inl.inj (show (Sum.inl _ : qm_Op) = Sum.inl f from e)
  first
    | (cases hf; rfl)
    | (dsimp only at hf
       try simp only [Bool.cond_eq_ite] at hf
       dsimp only
       try simp only [Bool.cond_eq_ite]
       repeat' split at hf
       all_goals first | (cases hf; done) | (cases hf; rfl) | (cases hf; simp_all [qm_sx, qm_new]; done) | (simp_all [qm_sx, qm_new]; done) | (cases hf; rename_i h9; first | (rw [if_neg h9]; done) | (rw [if_neg h9]; rfl) | (rw [if_pos h9]; done) | (rw [if_pos h9]; rfl)))
theorem qm_b_icmp_ge {t n : Nat} : qm_Bl (qm_o_icmp_ge t n) := by
  intro f e lv st h X q hk hf
  obtain rfl := Sum.inl.inj (show (Sum.inl _ : qm_Op) = Sum.inl f from e)
  first
    | (cases hf; rfl)
    | (dsimp only at hf
       try simp only [Bool.cond_eq_ite] at hf
       dsimp only
       try simp only [Bool.cond_eq_ite]
       repeat' split at hf
       all_goals first | (cases hf; done) | (cases hf; rfl) | (cases hf; simp_all [qm_sx, qm_new]; done) | (simp_all [qm_sx, qm_new]; done) | (cases hf; rename_i h9; first | (rw [if_neg h9]; done) | (rw [if_neg h9]; rfl) | (rw [if_pos h9]; done) | (rw [if_pos h9]; rfl)))
theorem qm_b_goto {n : Nat} : qm_Bl (qm_o_goto n) := by
  intro f e lv st h X q hk hf
  obtain rfl := Sum.inl.inj (show (Sum.inl _ : qm_Op) = Sum.inl f from e)
  cases hf
  rfl
theorem qm_b_dup {n : Nat} : qm_Bl (qm_o_dup n) := by
  intro f e lv st h X q hk hf
  obtain rfl := Sum.inl.inj (show (Sum.inl _ : qm_Op) = Sum.inl f from e)
  first
    | (cases hf; rfl)
    | (dsimp only at hf
       try simp only [Bool.cond_eq_ite] at hf
       dsimp only
       try simp only [Bool.cond_eq_ite]
       repeat' split at hf
       all_goals first | (cases hf; done) | (cases hf; rfl) | (cases hf; simp_all [qm_sx, qm_new]; done) | (simp_all [qm_sx, qm_new]; done) | (cases hf; rename_i h9; first | (rw [if_neg h9]; done) | (rw [if_neg h9]; rfl) | (rw [if_pos h9]; done) | (rw [if_pos h9]; rfl)))
theorem qm_b_iald {n : Nat} : qm_Bl (qm_o_iald n) := by
  intro f e lv st h X q hk hf
  obtain rfl := Sum.inl.inj (show (Sum.inl _ : qm_Op) = Sum.inl f from e)
  dsimp only at hf ⊢
  split at hf
  · rename_i i a r
    simp only [qm_k1s, qm_k1v, Bool.and_eq_true, Bool.true_and] at hk
    rw [qm_arr_sx _ _ _ _ hk.1]
    split at hf
    · split at hf
      · cases hf
      · rename_i h9
        cases hf
        rw [if_neg h9, qm_rdI_sx _ _ _ _ hk.1]
    · cases hf
  · cases hf
theorem qm_b_aald {n : Nat} : qm_Bl (qm_o_aald n) := by
  intro f e lv st h X q hk hf
  obtain rfl := Sum.inl.inj (show (Sum.inl _ : qm_Op) = Sum.inl f from e)
  dsimp only at hf ⊢
  split at hf
  · rename_i i a r
    simp only [qm_k1s, qm_k1v, Bool.and_eq_true, Bool.true_and] at hk
    rw [qm_arrR_sx]
    split at hf
    · split at hf
      · cases hf
      · rename_i h9
        cases hf
        rw [if_neg h9, qm_rdR_sx]
    · cases hf
  · cases hf
theorem qm_b_alen {n : Nat} : qm_Bl (qm_o_alen n) := by
  intro f e lv st h X q hk hf
  obtain rfl := Sum.inl.inj (show (Sum.inl _ : qm_Op) = Sum.inl f from e)
  dsimp only at hf ⊢
  split at hf
  · rename_i a r
    simp only [qm_k1s, qm_k1v, Bool.and_eq_true] at hk
    rw [qm_len_sx _ _ _ hk.1]
    split at hf
    · split at hf
      · cases hf
      · rename_i h9
        cases hf
        rw [if_neg h9]
    · cases hf
  · cases hf
theorem qm_b_iast {n : Nat} : qm_Bl (qm_o_iast n) := by
  intro f e lv st h X q hk hf
  obtain rfl := Sum.inl.inj (show (Sum.inl _ : qm_Op) = Sum.inl f from e)
  dsimp only at hf ⊢
  split at hf
  · rename_i x i a r
    rw [show qm_arr 0 (qm_sx h X) (0, a) = qm_arr 0 h (0, a) from rfl]
    split at hf
    · split at hf
      · cases hf
      · rename_i h9
        cases hf
        rw [if_neg h9]
        rfl
    · cases hf
  · cases hf
theorem qm_b_aast {n : Nat} : qm_Bl (qm_o_aast n) := by
  intro f e lv st h X q hk hf
  obtain rfl := Sum.inl.inj (show (Sum.inl _ : qm_Op) = Sum.inl f from e)
  dsimp only at hf ⊢
  split at hf
  · rename_i x i r1 s1 r
    rw [show qm_nth (qm_sx h X).1 r1 = qm_nth h.1 r1 from rfl]
    split at hf
    · rename_i ty len heq
      rw [show qm_elt (qm_sx h X) ty x = qm_elt h ty x from rfl]
      cases hb : (Nat.beq s1 0 && qm_elt h ty x) with
      | false => rw [hb] at hf; cases hf
      | true =>
        rw [hb] at hf
        simp only [cond_true] at hf ⊢
        split at hf
        · cases hf
        · rename_i h9
          cases hf
          rw [if_neg h9]
          rfl
    · cases hf
  · cases hf
theorem qm_b_getf {ci k t n : Nat} : qm_Bl (qm_o_getf ci k t n) := by
  intro f e lv st h X q hk hf
  obtain rfl := Sum.inl.inj (show (Sum.inl _ : qm_Op) = Sum.inl f from e)
  first
    | (cases hf; rfl)
    | (dsimp only at hf
       try simp only [Bool.cond_eq_ite] at hf
       dsimp only
       try simp only [Bool.cond_eq_ite]
       repeat' split at hf
       all_goals first | (cases hf; done) | (cases hf; rfl) | (cases hf; simp_all [qm_sx, qm_new]; done) | (simp_all [qm_sx, qm_new]; done) | (cases hf; rename_i h9; first | (rw [if_neg h9]; done) | (rw [if_neg h9]; rfl) | (rw [if_pos h9]; done) | (rw [if_pos h9]; rfl)))
theorem qm_b_putf {ci k t n : Nat} : qm_Bl (qm_o_putf ci k t n) := by
  intro f e lv st h X q hk hf
  obtain rfl := Sum.inl.inj (show (Sum.inl _ : qm_Op) = Sum.inl f from e)
  first
    | (cases hf; rfl)
    | (dsimp only at hf
       try simp only [Bool.cond_eq_ite] at hf
       dsimp only
       try simp only [Bool.cond_eq_ite]
       repeat' split at hf
       all_goals first | (cases hf; done) | (cases hf; rfl) | (cases hf; simp_all [qm_sx, qm_new]; done) | (simp_all [qm_sx, qm_new]; done) | (cases hf; rename_i h9; first | (rw [if_neg h9]; done) | (rw [if_neg h9]; rfl) | (rw [if_pos h9]; done) | (rw [if_pos h9]; rfl)))
theorem qm_b_new {ci n : Nat} : qm_Bl (qm_o_new ci n) := by
  intro f e lv st h X q hk hf
  obtain rfl := Sum.inl.inj (show (Sum.inl _ : qm_Op) = Sum.inl f from e)
  cases hf
  rfl
theorem qm_b_newa {ty n : Nat} : qm_Bl (qm_o_newa ty n) := by
  intro f e lv st h X q hk hf
  obtain rfl := Sum.inl.inj (show (Sum.inl _ : qm_Op) = Sum.inl f from e)
  first
    | (cases hf; rfl)
    | (dsimp only at hf
       try simp only [Bool.cond_eq_ite] at hf
       dsimp only
       try simp only [Bool.cond_eq_ite]
       repeat' split at hf
       all_goals first | (cases hf; done) | (cases hf; rfl) | (cases hf; simp_all [qm_sx, qm_new]; done) | (simp_all [qm_sx, qm_new]; done) | (cases hf; rename_i h9; first | (rw [if_neg h9]; done) | (rw [if_neg h9]; rfl) | (rw [if_pos h9]; done) | (rw [if_pos h9]; rfl)))
theorem qm_b_mnew {tyo tyi n : Nat} : qm_Bl (qm_o_mnew tyo tyi n) := by
  intro f e lv st h X q hk hf
  obtain rfl := Sum.inl.inj (show (Sum.inl _ : qm_Op) = Sum.inl f from e)
  first
    | (cases hf; rfl)
    | (dsimp only at hf
       try simp only [Bool.cond_eq_ite] at hf
       dsimp only
       try simp only [Bool.cond_eq_ite]
       repeat' split at hf
       all_goals first | (cases hf; done) | (cases hf; rfl) | (cases hf; simp_all [qm_sx, qm_new]; done) | (simp_all [qm_sx, qm_new]; done) | (cases hf; rename_i h9; first | (rw [if_neg h9]; done) | (rw [if_neg h9]; rfl) | (rw [if_pos h9]; done) | (rw [if_pos h9]; rfl)))
theorem qm_b_obj {n : Nat} : qm_Bl (qm_o_obj n) := by
  intro f e lv st h X q hk hf
  obtain rfl := Sum.inl.inj (show (Sum.inl _ : qm_Op) = Sum.inl f from e)
  first
    | (cases hf; rfl)
    | (dsimp only at hf
       try simp only [Bool.cond_eq_ite] at hf
       dsimp only
       try simp only [Bool.cond_eq_ite]
       repeat' split at hf
       all_goals first | (cases hf; done) | (cases hf; rfl) | (cases hf; simp_all [qm_sx, qm_new]; done) | (simp_all [qm_sx, qm_new]; done) | (cases hf; rename_i h9; first | (rw [if_neg h9]; done) | (rw [if_neg h9]; rfl) | (rw [if_pos h9]; done) | (rw [if_pos h9]; rfl)))
theorem qm_b_call {q : Nat × Nat × Bool × Nat × Option Nat × Nat} : qm_Bl (Sum.inr (Sum.inl q)) := fun _ e => by cases e
theorem qm_b_ret {t : Nat} : qm_Bl (Sum.inr (Sum.inr t)) := fun _ e => by cases e
def qm_BlT (cd : qm_Cd) : Prop := ∀ pc op, cd pc = some op → qm_Bl op
theorem qm_BlT.sel {k : Nat} {l r : qm_Cd} (h1 : qm_BlT l) (h2 : qm_BlT r) : qm_BlT (qm_sel k l r) := by
  intro pc op h
  unfold qm_sel at h
  cases hb : Nat.blt pc k with
  | true => rw [hb] at h; exact h1 pc op h
  | false => rw [hb] at h; exact h2 pc op h
theorem qm_BlT.lf {a : Nat} {o : qm_Op} (h1 : qm_Bl o) : qm_BlT (qm_lf a o) := by
  intro pc op h
  unfold qm_lf at h
  cases hb : Nat.beq pc a with
  | true => rw [hb] at h; cases h; exact h1
  | false => rw [hb] at h; cases h
/-- the run with its check -/
def qm_runN (P : Nat → qm_Cd) : Nat → qm_Cd → Nat → qm_Lv → List qm_V → qm_Hp → Option (Option qm_V × qm_Hp)
  | 0, _, _, _, _, _ => none
  | n + 1, cd, pc, lv, st, h => match cd pc with
    | none => none
    | some (Sum.inl f) => bif qm_k1s st then (match f lv st h with
      | none => none
      | some q => qm_runN P n cd q.1 q.2.1 q.2.2.1 q.2.2.2) else none
    | some (Sum.inr (Sum.inl (y, na, hr, pc', ci, mL))) => match qm_pop na [] st with
      | none => none
      | some (as, rest) =>
        bif qm_rcv h ci as && (Nat.ble (qm_sum rest) (qm_wr y) && Nat.ble (qm_sum as) mL) then
          match qm_runN P n (P y) 0 (qm_args 0 as) [] h with
          | none => none
          | some (none, h') => bif hr then none else qm_runN P n cd pc' lv rest h'
          | some (some v, h') => bif hr then qm_runN P n cd pc' lv (v :: rest) h' else none
        else none
    | some (Sum.inr (Sum.inr t)) => match st with
      | [] => bif Nat.beq t 0 then some (none, h) else none
      | [v] => bif qm_rok t v then some (some v, h) else none
      | _ :: _ :: _ => none
theorem qm_runN_sx {P P' : Nat → qm_Cd} (hP : ∀ y, P' y = P y ∨ P' y = fun _ => none) (hB : ∀ y, qm_BlT (P' y)) (X : Nat × (Nat → Int32)) : ∀ (n y pc : Nat) (lv : qm_Lv) (st : List qm_V) (h : qm_Hp) (v : Option qm_V) (h' : qm_Hp), qm_runN P' n (P' y) pc lv st h = some (v, h') → qm_run P n (P y) pc lv st (qm_sx h X) = some (v, qm_sx h' X) := by
  intro n
  induction n with
  | zero => intro y pc lv st h v h' e; cases e
  | succ n ih =>
    intro y pc lv st h v h' e
    rw [qm_runN] at e
    have hy : P' y = P y := by
      rcases hP y with h1 | h1
      · exact h1
      · rw [h1] at e
        cases e
    rw [qm_run]
    cases hc : P' y pc with
    | none => rw [hc] at e; cases e
    | some op =>
      rw [hc] at e
      rw [← hy, hc]
      have hb := hB y pc op hc
      rcases op with f | ⟨y2, na, hr, pc', ci, mL⟩ | t
      · dsimp only at e ⊢
        cases hk : qm_k1s st with
        | false => rw [hk] at e; cases e
        | true =>
          rw [hk] at e
          simp only [cond_true] at e
          cases hf : f lv st h with
          | none => rw [hf] at e; cases e
          | some q =>
            rw [hf] at e
            rw [hb f rfl lv st h X q hk hf, hy]
            exact ih y _ _ _ _ _ _ e
      · dsimp only at e ⊢
        cases hp : qm_pop na [] st with
        | none => rw [hp] at e; cases e
        | some q =>
          rw [hp] at e
          obtain ⟨as, rest⟩ := q
          dsimp only at e ⊢
          cases hb : (qm_rcv h ci as && (Nat.ble (qm_sum rest) (qm_wr y2) && Nat.ble (qm_sum as) mL)) with
          | false => rw [hb] at e; cases e
          | true =>
            rw [hb] at e
            have hb1 : (qm_rcv (qm_sx h X) ci as && (Nat.ble (qm_sum rest) (qm_wr y2) && Nat.ble (qm_sum as) mL)) = true := by
              rw [Bool.and_eq_true] at hb ⊢
              exact ⟨qm_rcv_sx h X ci as hb.1, hb.2⟩
            rw [hb1]
            dsimp only [cond_true] at e ⊢
            cases hk : qm_runN P' n (P' y2) 0 (qm_args 0 as) [] h with
            | none => rw [hk] at e; cases e
            | some q =>
              rw [hk] at e
              obtain ⟨w, h2⟩ := q
              rw [ih y2 _ _ _ _ _ _ hk, hy]
              cases w with
              | none =>
                cases hr with
                | false => exact ih y _ _ _ _ _ _ e
                | true => cases e
              | some w =>
                cases hr with
                | false => cases e
                | true => exact ih y _ _ _ _ _ _ e
      · dsimp only at e ⊢
        split at e
        · dsimp only
          cases hb : Nat.beq t 0 with
          | false => rw [hb] at e; cases e
          | true => rw [hb] at e; simp only [cond_true] at e ⊢; cases e; rfl
        · rename_i w
          dsimp only
          cases hb : qm_rok t w with
          | false => rw [hb] at e; cases e
          | true => rw [hb] at e; simp only [cond_true] at e ⊢; cases e; rfl
        · cases e
theorem qm_bt8 : qm_BlT qm_P8 := (qm_BlT.sel (qm_BlT.sel (qm_BlT.sel (qm_BlT.lf qm_b_push) (qm_BlT.sel (qm_BlT.lf qm_b_istore) (qm_BlT.lf qm_b_aload))) (qm_BlT.sel (qm_BlT.sel (qm_BlT.lf qm_b_alen) (qm_BlT.lf qm_b_istore)) (qm_BlT.sel (qm_BlT.lf (qm_b_pr _ qm_b_iload)) (qm_BlT.lf qm_b_iload)))) (qm_BlT.sel (qm_BlT.sel (qm_BlT.sel (qm_BlT.lf qm_b_icmp_ge) (qm_BlT.lf qm_b_aload)) (qm_BlT.sel (qm_BlT.lf qm_b_iload) (qm_BlT.lf qm_b_iload))) (qm_BlT.sel (qm_BlT.sel (qm_BlT.lf qm_b_iast) (qm_BlT.lf qm_b_iinc)) (qm_BlT.sel (qm_BlT.lf qm_b_goto) (qm_BlT.lf qm_b_ret)))))
theorem qm_bt56 : qm_BlT qm_P56 := (qm_BlT.sel (qm_BlT.sel (qm_BlT.sel (qm_BlT.sel (qm_BlT.lf qm_b_aload) (qm_BlT.lf qm_b_obj)) (qm_BlT.sel (qm_BlT.lf qm_b_push) (qm_BlT.lf qm_b_if_eq))) (qm_BlT.sel (qm_BlT.sel (qm_BlT.lf qm_b_aload) (qm_BlT.lf qm_b_iload)) (qm_BlT.sel (qm_BlT.lf qm_b_newa) (qm_BlT.sel (qm_BlT.lf qm_b_putf) (qm_BlT.lf qm_b_aload))))) (qm_BlT.sel (qm_BlT.sel (qm_BlT.sel (qm_BlT.lf qm_b_push) (qm_BlT.lf qm_b_putf)) (qm_BlT.sel (qm_BlT.lf qm_b_goto) (qm_BlT.sel (qm_BlT.lf (qm_b_pr _ qm_b_aload)) (qm_BlT.lf qm_b_iload)))) (qm_BlT.sel (qm_BlT.sel (qm_BlT.lf qm_b_putf) (qm_BlT.lf qm_b_aload)) (qm_BlT.sel (qm_BlT.lf qm_b_push) (qm_BlT.sel (qm_BlT.lf qm_b_putf) (qm_BlT.lf qm_b_ret))))))
theorem qm_bt57_0 : qm_BlT qm_P57_0 := (qm_BlT.sel (qm_BlT.sel (qm_BlT.sel (qm_BlT.sel (qm_BlT.sel (qm_BlT.sel (qm_BlT.lf qm_b_aload) (qm_BlT.lf qm_b_obj)) (qm_BlT.sel (qm_BlT.lf qm_b_aload) (qm_BlT.lf qm_b_push))) (qm_BlT.sel (qm_BlT.sel (qm_BlT.lf qm_b_newa) (qm_BlT.lf qm_b_putf)) (qm_BlT.sel (qm_BlT.lf qm_b_aload) (qm_BlT.sel (qm_BlT.lf qm_b_push) (qm_BlT.lf qm_b_newa))))) (qm_BlT.sel (qm_BlT.sel (qm_BlT.sel (qm_BlT.lf qm_b_putf) (qm_BlT.lf qm_b_aload)) (qm_BlT.sel (qm_BlT.lf qm_b_push) (qm_BlT.lf qm_b_putf))) (qm_BlT.sel (qm_BlT.sel (qm_BlT.lf qm_b_aload) (qm_BlT.lf qm_b_push)) (qm_BlT.sel (qm_BlT.lf qm_b_newa) (qm_BlT.sel (qm_BlT.lf qm_b_putf) (qm_BlT.lf qm_b_aload)))))) (qm_BlT.sel (qm_BlT.sel (qm_BlT.sel (qm_BlT.sel (qm_BlT.lf qm_b_push) (qm_BlT.lf qm_b_newa)) (qm_BlT.sel (qm_BlT.lf qm_b_putf) (qm_BlT.lf qm_b_aload))) (qm_BlT.sel (qm_BlT.sel (qm_BlT.lf qm_b_push) (qm_BlT.lf qm_b_newa)) (qm_BlT.sel (qm_BlT.lf qm_b_putf) (qm_BlT.sel (qm_BlT.lf qm_b_aload) (qm_BlT.lf qm_b_push))))) (qm_BlT.sel (qm_BlT.sel (qm_BlT.sel (qm_BlT.lf qm_b_newa) (qm_BlT.lf qm_b_putf)) (qm_BlT.sel (qm_BlT.lf qm_b_aload) (qm_BlT.lf qm_b_push))) (qm_BlT.sel (qm_BlT.sel (qm_BlT.lf qm_b_newa) (qm_BlT.lf qm_b_putf)) (qm_BlT.sel (qm_BlT.lf qm_b_aload) (qm_BlT.sel (qm_BlT.lf qm_b_push) (qm_BlT.lf qm_b_newa))))))) (qm_BlT.sel (qm_BlT.sel (qm_BlT.sel (qm_BlT.sel (qm_BlT.sel (qm_BlT.lf qm_b_putf) (qm_BlT.lf qm_b_aload)) (qm_BlT.sel (qm_BlT.lf qm_b_push) (qm_BlT.lf qm_b_newa))) (qm_BlT.sel (qm_BlT.sel (qm_BlT.lf qm_b_putf) (qm_BlT.lf qm_b_aload)) (qm_BlT.sel (qm_BlT.lf qm_b_push) (qm_BlT.sel (qm_BlT.lf qm_b_newa) (qm_BlT.lf qm_b_putf))))) (qm_BlT.sel (qm_BlT.sel (qm_BlT.sel (qm_BlT.lf qm_b_aload) (qm_BlT.lf qm_b_push)) (qm_BlT.sel (qm_BlT.lf qm_b_newa) (qm_BlT.lf qm_b_putf))) (qm_BlT.sel (qm_BlT.sel (qm_BlT.lf qm_b_aload) (qm_BlT.lf qm_b_push)) (qm_BlT.sel (qm_BlT.lf qm_b_newa) (qm_BlT.sel (qm_BlT.lf qm_b_putf) (qm_BlT.lf qm_b_aload)))))) (qm_BlT.sel (qm_BlT.sel (qm_BlT.sel (qm_BlT.sel (qm_BlT.lf qm_b_push) (qm_BlT.lf qm_b_newa)) (qm_BlT.sel (qm_BlT.lf qm_b_putf) (qm_BlT.lf qm_b_aload))) (qm_BlT.sel (qm_BlT.sel (qm_BlT.lf qm_b_push) (qm_BlT.lf qm_b_newa)) (qm_BlT.sel (qm_BlT.lf qm_b_putf) (qm_BlT.sel (qm_BlT.lf qm_b_aload) (qm_BlT.lf qm_b_push))))) (qm_BlT.sel (qm_BlT.sel (qm_BlT.sel (qm_BlT.lf qm_b_newa) (qm_BlT.lf qm_b_putf)) (qm_BlT.sel (qm_BlT.lf qm_b_push) (qm_BlT.lf qm_b_newa))) (qm_BlT.sel (qm_BlT.sel (qm_BlT.lf qm_b_dup) (qm_BlT.lf qm_b_push)) (qm_BlT.sel (qm_BlT.lf qm_b_push) (qm_BlT.sel (qm_BlT.lf qm_b_iast) (qm_BlT.lf qm_b_dup))))))))
theorem qm_bt57_1 : qm_BlT qm_P57_1 := (qm_BlT.sel (qm_BlT.sel (qm_BlT.sel (qm_BlT.sel (qm_BlT.sel (qm_BlT.sel (qm_BlT.lf qm_b_push) (qm_BlT.lf qm_b_push)) (qm_BlT.sel (qm_BlT.lf qm_b_iast) (qm_BlT.lf qm_b_dup))) (qm_BlT.sel (qm_BlT.sel (qm_BlT.lf qm_b_push) (qm_BlT.lf qm_b_push)) (qm_BlT.sel (qm_BlT.lf qm_b_iast) (qm_BlT.sel (qm_BlT.lf qm_b_dup) (qm_BlT.lf qm_b_push))))) (qm_BlT.sel (qm_BlT.sel (qm_BlT.sel (qm_BlT.lf qm_b_push) (qm_BlT.lf qm_b_iast)) (qm_BlT.sel (qm_BlT.lf qm_b_dup) (qm_BlT.lf qm_b_push))) (qm_BlT.sel (qm_BlT.sel (qm_BlT.lf qm_b_push) (qm_BlT.lf qm_b_iast)) (qm_BlT.sel (qm_BlT.lf qm_b_dup) (qm_BlT.sel (qm_BlT.lf qm_b_push) (qm_BlT.lf qm_b_push)))))) (qm_BlT.sel (qm_BlT.sel (qm_BlT.sel (qm_BlT.sel (qm_BlT.lf qm_b_iast) (qm_BlT.lf qm_b_dup)) (qm_BlT.sel (qm_BlT.lf qm_b_push) (qm_BlT.lf qm_b_push))) (qm_BlT.sel (qm_BlT.sel (qm_BlT.lf qm_b_iast) (qm_BlT.lf qm_b_dup)) (qm_BlT.sel (qm_BlT.lf qm_b_push) (qm_BlT.sel (qm_BlT.lf qm_b_push) (qm_BlT.lf qm_b_iast))))) (qm_BlT.sel (qm_BlT.sel (qm_BlT.sel (qm_BlT.lf qm_b_dup) (qm_BlT.lf qm_b_push)) (qm_BlT.sel (qm_BlT.lf qm_b_push) (qm_BlT.lf qm_b_iast))) (qm_BlT.sel (qm_BlT.sel (qm_BlT.lf qm_b_dup) (qm_BlT.lf qm_b_push)) (qm_BlT.sel (qm_BlT.lf qm_b_push) (qm_BlT.sel (qm_BlT.lf qm_b_iast) (qm_BlT.lf qm_b_dup))))))) (qm_BlT.sel (qm_BlT.sel (qm_BlT.sel (qm_BlT.sel (qm_BlT.sel (qm_BlT.lf qm_b_push) (qm_BlT.lf qm_b_push)) (qm_BlT.sel (qm_BlT.lf qm_b_iast) (qm_BlT.lf qm_b_dup))) (qm_BlT.sel (qm_BlT.sel (qm_BlT.lf qm_b_push) (qm_BlT.lf qm_b_push)) (qm_BlT.sel (qm_BlT.lf qm_b_iast) (qm_BlT.sel (qm_BlT.lf qm_b_dup) (qm_BlT.lf qm_b_push))))) (qm_BlT.sel (qm_BlT.sel (qm_BlT.sel (qm_BlT.lf qm_b_push) (qm_BlT.lf qm_b_iast)) (qm_BlT.sel (qm_BlT.lf qm_b_dup) (qm_BlT.lf qm_b_push))) (qm_BlT.sel (qm_BlT.sel (qm_BlT.lf qm_b_push) (qm_BlT.lf qm_b_iast)) (qm_BlT.sel (qm_BlT.lf qm_b_dup) (qm_BlT.sel (qm_BlT.lf qm_b_push) (qm_BlT.lf qm_b_push)))))) (qm_BlT.sel (qm_BlT.sel (qm_BlT.sel (qm_BlT.sel (qm_BlT.lf qm_b_iast) (qm_BlT.lf qm_b_dup)) (qm_BlT.sel (qm_BlT.lf qm_b_push) (qm_BlT.lf qm_b_push))) (qm_BlT.sel (qm_BlT.sel (qm_BlT.lf qm_b_iast) (qm_BlT.lf qm_b_dup)) (qm_BlT.sel (qm_BlT.lf qm_b_push) (qm_BlT.sel (qm_BlT.lf qm_b_push) (qm_BlT.lf qm_b_iast))))) (qm_BlT.sel (qm_BlT.sel (qm_BlT.sel (qm_BlT.lf qm_b_dup) (qm_BlT.lf qm_b_push)) (qm_BlT.sel (qm_BlT.lf qm_b_push) (qm_BlT.lf qm_b_iast))) (qm_BlT.sel (qm_BlT.sel (qm_BlT.lf qm_b_dup) (qm_BlT.lf qm_b_push)) (qm_BlT.sel (qm_BlT.lf qm_b_push) (qm_BlT.sel (qm_BlT.lf qm_b_iast) (qm_BlT.lf qm_b_dup))))))))
theorem qm_bt57_2 : qm_BlT qm_P57_2 := (qm_BlT.sel (qm_BlT.sel (qm_BlT.sel (qm_BlT.sel (qm_BlT.sel (qm_BlT.sel (qm_BlT.lf qm_b_push) (qm_BlT.lf qm_b_push)) (qm_BlT.sel (qm_BlT.lf qm_b_iast) (qm_BlT.lf qm_b_dup))) (qm_BlT.sel (qm_BlT.sel (qm_BlT.lf qm_b_push) (qm_BlT.lf qm_b_push)) (qm_BlT.sel (qm_BlT.lf qm_b_iast) (qm_BlT.sel (qm_BlT.lf qm_b_dup) (qm_BlT.lf qm_b_push))))) (qm_BlT.sel (qm_BlT.sel (qm_BlT.sel (qm_BlT.lf qm_b_push) (qm_BlT.lf qm_b_iast)) (qm_BlT.sel (qm_BlT.lf qm_b_dup) (qm_BlT.lf qm_b_push))) (qm_BlT.sel (qm_BlT.sel (qm_BlT.lf qm_b_push) (qm_BlT.lf qm_b_iast)) (qm_BlT.sel (qm_BlT.lf qm_b_dup) (qm_BlT.sel (qm_BlT.lf qm_b_push) (qm_BlT.lf qm_b_push)))))) (qm_BlT.sel (qm_BlT.sel (qm_BlT.sel (qm_BlT.sel (qm_BlT.lf qm_b_iast) (qm_BlT.lf qm_b_dup)) (qm_BlT.sel (qm_BlT.lf qm_b_push) (qm_BlT.lf qm_b_push))) (qm_BlT.sel (qm_BlT.sel (qm_BlT.lf qm_b_iast) (qm_BlT.lf qm_b_dup)) (qm_BlT.sel (qm_BlT.lf qm_b_push) (qm_BlT.sel (qm_BlT.lf qm_b_push) (qm_BlT.lf qm_b_iast))))) (qm_BlT.sel (qm_BlT.sel (qm_BlT.sel (qm_BlT.lf qm_b_astore) (qm_BlT.lf qm_b_push)) (qm_BlT.sel (qm_BlT.lf qm_b_istore) (qm_BlT.lf (qm_b_pr _ qm_b_iload)))) (qm_BlT.sel (qm_BlT.sel (qm_BlT.lf qm_b_aload) (qm_BlT.lf qm_b_alen)) (qm_BlT.sel (qm_BlT.lf qm_b_icmp_ge) (qm_BlT.sel (qm_BlT.lf qm_b_aload) (qm_BlT.lf qm_b_getf))))))) (qm_BlT.sel (qm_BlT.sel (qm_BlT.sel (qm_BlT.sel (qm_BlT.sel (qm_BlT.lf qm_b_iload) (qm_BlT.lf qm_b_aload)) (qm_BlT.sel (qm_BlT.lf qm_b_iload) (qm_BlT.lf qm_b_iald))) (qm_BlT.sel (qm_BlT.sel (qm_BlT.lf qm_b_iast) (qm_BlT.lf qm_b_iinc)) (qm_BlT.sel (qm_BlT.lf qm_b_goto) (qm_BlT.sel (qm_BlT.lf (qm_b_pr _ qm_b_push)) (qm_BlT.lf qm_b_istore))))) (qm_BlT.sel (qm_BlT.sel (qm_BlT.sel (qm_BlT.lf (qm_b_pr _ qm_b_iload)) (qm_BlT.lf qm_b_push)) (qm_BlT.sel (qm_BlT.lf qm_b_icmp_ge) (qm_BlT.lf qm_b_aload))) (qm_BlT.sel (qm_BlT.sel (qm_BlT.lf qm_b_getf) (qm_BlT.lf qm_b_push)) (qm_BlT.sel (qm_BlT.lf qm_b_iload) (qm_BlT.sel (qm_BlT.lf qm_b_iadd) (qm_BlT.lf qm_b_push)))))) (qm_BlT.sel (qm_BlT.sel (qm_BlT.sel (qm_BlT.sel (qm_BlT.lf qm_b_iast) (qm_BlT.lf qm_b_iinc)) (qm_BlT.sel (qm_BlT.lf qm_b_goto) (qm_BlT.lf (qm_b_pr _ qm_b_push)))) (qm_BlT.sel (qm_BlT.sel (qm_BlT.lf qm_b_istore) (qm_BlT.lf (qm_b_pr _ qm_b_iload))) (qm_BlT.sel (qm_BlT.lf qm_b_push) (qm_BlT.sel (qm_BlT.lf qm_b_icmp_ge) (qm_BlT.lf qm_b_aload))))) (qm_BlT.sel (qm_BlT.sel (qm_BlT.sel (qm_BlT.lf qm_b_getf) (qm_BlT.lf qm_b_push)) (qm_BlT.sel (qm_BlT.lf qm_b_iload) (qm_BlT.lf qm_b_iadd))) (qm_BlT.sel (qm_BlT.sel (qm_BlT.lf qm_b_push) (qm_BlT.lf qm_b_iast)) (qm_BlT.sel (qm_BlT.lf qm_b_iinc) (qm_BlT.sel (qm_BlT.lf qm_b_goto) (qm_BlT.lf qm_b_ret))))))))
theorem qm_bt57 : qm_BlT qm_P57 := (qm_BlT.sel qm_bt57_0 (qm_BlT.sel qm_bt57_1 qm_bt57_2))
theorem qm_bt58 : qm_BlT qm_P58 := (qm_BlT.sel (qm_BlT.sel (qm_BlT.sel (qm_BlT.sel (qm_BlT.sel (qm_BlT.lf qm_b_aload) (qm_BlT.lf qm_b_obj)) (qm_BlT.sel (qm_BlT.lf qm_b_aload) (qm_BlT.lf qm_b_push))) (qm_BlT.sel (qm_BlT.sel (qm_BlT.lf qm_b_push) (qm_BlT.lf qm_b_mnew)) (qm_BlT.sel (qm_BlT.lf qm_b_putf) (qm_BlT.lf qm_b_aload)))) (qm_BlT.sel (qm_BlT.sel (qm_BlT.sel (qm_BlT.lf qm_b_push) (qm_BlT.lf qm_b_push)) (qm_BlT.sel (qm_BlT.lf qm_b_mnew) (qm_BlT.lf qm_b_putf))) (qm_BlT.sel (qm_BlT.sel (qm_BlT.lf qm_b_aload) (qm_BlT.lf qm_b_push)) (qm_BlT.sel (qm_BlT.lf qm_b_push) (qm_BlT.lf qm_b_mnew))))) (qm_BlT.sel (qm_BlT.sel (qm_BlT.sel (qm_BlT.sel (qm_BlT.lf qm_b_putf) (qm_BlT.lf qm_b_aload)) (qm_BlT.sel (qm_BlT.lf qm_b_push) (qm_BlT.lf qm_b_push))) (qm_BlT.sel (qm_BlT.sel (qm_BlT.lf qm_b_mnew) (qm_BlT.lf qm_b_putf)) (qm_BlT.sel (qm_BlT.lf qm_b_aload) (qm_BlT.lf qm_b_push)))) (qm_BlT.sel (qm_BlT.sel (qm_BlT.sel (qm_BlT.lf qm_b_push) (qm_BlT.lf qm_b_mnew)) (qm_BlT.sel (qm_BlT.lf qm_b_putf) (qm_BlT.lf qm_b_aload))) (qm_BlT.sel (qm_BlT.sel (qm_BlT.lf qm_b_push) (qm_BlT.lf qm_b_push)) (qm_BlT.sel (qm_BlT.lf qm_b_mnew) (qm_BlT.sel (qm_BlT.lf qm_b_putf) (qm_BlT.lf qm_b_ret)))))))
theorem qm_bt59 : qm_BlT qm_P59 := (qm_BlT.sel (qm_BlT.sel (qm_BlT.sel (qm_BlT.sel (qm_BlT.lf qm_b_aload) (qm_BlT.lf qm_b_obj)) (qm_BlT.sel (qm_BlT.lf qm_b_aload) (qm_BlT.sel (qm_BlT.lf qm_b_push) (qm_BlT.lf qm_b_newa)))) (qm_BlT.sel (qm_BlT.sel (qm_BlT.lf qm_b_putf) (qm_BlT.sel (qm_BlT.lf qm_b_aload) (qm_BlT.lf qm_b_push))) (qm_BlT.sel (qm_BlT.lf qm_b_newa) (qm_BlT.sel (qm_BlT.lf qm_b_putf) (qm_BlT.lf qm_b_aload))))) (qm_BlT.sel (qm_BlT.sel (qm_BlT.sel (qm_BlT.lf qm_b_push) (qm_BlT.sel (qm_BlT.lf qm_b_newa) (qm_BlT.lf qm_b_putf))) (qm_BlT.sel (qm_BlT.lf qm_b_aload) (qm_BlT.sel (qm_BlT.lf qm_b_push) (qm_BlT.lf qm_b_newa)))) (qm_BlT.sel (qm_BlT.sel (qm_BlT.lf qm_b_putf) (qm_BlT.sel (qm_BlT.lf qm_b_aload) (qm_BlT.lf qm_b_push))) (qm_BlT.sel (qm_BlT.lf qm_b_newa) (qm_BlT.sel (qm_BlT.lf qm_b_putf) (qm_BlT.lf qm_b_ret))))))
theorem qm_bt60 : qm_BlT qm_P60 := (qm_BlT.sel (qm_BlT.sel (qm_BlT.sel (qm_BlT.lf qm_b_aload) (qm_BlT.sel (qm_BlT.lf qm_b_obj) (qm_BlT.lf qm_b_aload))) (qm_BlT.sel (qm_BlT.sel (qm_BlT.lf qm_b_push) (qm_BlT.lf qm_b_newa)) (qm_BlT.sel (qm_BlT.lf qm_b_putf) (qm_BlT.lf qm_b_aload)))) (qm_BlT.sel (qm_BlT.sel (qm_BlT.sel (qm_BlT.lf qm_b_push) (qm_BlT.lf qm_b_newa)) (qm_BlT.sel (qm_BlT.lf qm_b_putf) (qm_BlT.lf qm_b_aload))) (qm_BlT.sel (qm_BlT.sel (qm_BlT.lf qm_b_push) (qm_BlT.lf qm_b_newa)) (qm_BlT.sel (qm_BlT.lf qm_b_putf) (qm_BlT.lf qm_b_ret)))))
theorem qm_bt62 : qm_BlT qm_P62 := (qm_BlT.sel (qm_BlT.sel (qm_BlT.sel (qm_BlT.lf qm_b_aload) (qm_BlT.lf qm_b_obj)) (qm_BlT.sel (qm_BlT.lf qm_b_aload) (qm_BlT.sel (qm_BlT.lf qm_b_push) (qm_BlT.lf qm_b_newa)))) (qm_BlT.sel (qm_BlT.sel (qm_BlT.lf qm_b_putf) (qm_BlT.lf qm_b_aload)) (qm_BlT.sel (qm_BlT.lf qm_b_push) (qm_BlT.sel (qm_BlT.lf qm_b_putf) (qm_BlT.lf qm_b_ret)))))
theorem qm_bt63 : qm_BlT qm_P63 := (qm_BlT.sel (qm_BlT.sel (qm_BlT.sel (qm_BlT.sel (qm_BlT.lf qm_b_aload) (qm_BlT.lf qm_b_obj)) (qm_BlT.sel (qm_BlT.lf qm_b_aload) (qm_BlT.lf qm_b_push))) (qm_BlT.sel (qm_BlT.sel (qm_BlT.lf qm_b_newa) (qm_BlT.lf qm_b_dup)) (qm_BlT.sel (qm_BlT.lf qm_b_push) (qm_BlT.sel (qm_BlT.lf qm_b_push) (qm_BlT.lf qm_b_iast))))) (qm_BlT.sel (qm_BlT.sel (qm_BlT.sel (qm_BlT.lf qm_b_dup) (qm_BlT.lf qm_b_push)) (qm_BlT.sel (qm_BlT.lf qm_b_push) (qm_BlT.lf qm_b_iast))) (qm_BlT.sel (qm_BlT.sel (qm_BlT.lf qm_b_putf) (qm_BlT.lf qm_b_aload)) (qm_BlT.sel (qm_BlT.lf qm_b_push) (qm_BlT.sel (qm_BlT.lf qm_b_putf) (qm_BlT.lf qm_b_ret))))))
theorem qm_bt101 : qm_BlT qm_P101 := (qm_BlT.sel (qm_BlT.sel (qm_BlT.sel (qm_BlT.sel (qm_BlT.sel (qm_BlT.sel (qm_BlT.lf qm_b_aload) (qm_BlT.sel (qm_BlT.lf qm_b_obj) (qm_BlT.lf qm_b_aload))) (qm_BlT.sel (qm_BlT.sel (qm_BlT.lf qm_b_push) (qm_BlT.lf qm_b_newa)) (qm_BlT.sel (qm_BlT.lf qm_b_dup) (qm_BlT.lf qm_b_push)))) (qm_BlT.sel (qm_BlT.sel (qm_BlT.lf qm_b_push) (qm_BlT.sel (qm_BlT.lf qm_b_iast) (qm_BlT.lf qm_b_dup))) (qm_BlT.sel (qm_BlT.sel (qm_BlT.lf qm_b_push) (qm_BlT.lf qm_b_push)) (qm_BlT.sel (qm_BlT.lf qm_b_iast) (qm_BlT.lf qm_b_dup))))) (qm_BlT.sel (qm_BlT.sel (qm_BlT.sel (qm_BlT.lf qm_b_push) (qm_BlT.sel (qm_BlT.lf qm_b_push) (qm_BlT.lf qm_b_iast))) (qm_BlT.sel (qm_BlT.sel (qm_BlT.lf qm_b_dup) (qm_BlT.lf qm_b_push)) (qm_BlT.sel (qm_BlT.lf qm_b_push) (qm_BlT.lf qm_b_iast)))) (qm_BlT.sel (qm_BlT.sel (qm_BlT.lf qm_b_dup) (qm_BlT.sel (qm_BlT.lf qm_b_push) (qm_BlT.lf qm_b_push))) (qm_BlT.sel (qm_BlT.sel (qm_BlT.lf qm_b_iast) (qm_BlT.lf qm_b_dup)) (qm_BlT.sel (qm_BlT.lf qm_b_push) (qm_BlT.lf qm_b_push)))))) (qm_BlT.sel (qm_BlT.sel (qm_BlT.sel (qm_BlT.sel (qm_BlT.lf qm_b_iast) (qm_BlT.sel (qm_BlT.lf qm_b_putf) (qm_BlT.lf qm_b_aload))) (qm_BlT.sel (qm_BlT.sel (qm_BlT.lf qm_b_push) (qm_BlT.lf qm_b_newa)) (qm_BlT.sel (qm_BlT.lf qm_b_dup) (qm_BlT.lf qm_b_push)))) (qm_BlT.sel (qm_BlT.sel (qm_BlT.lf qm_b_push) (qm_BlT.sel (qm_BlT.lf qm_b_newa) (qm_BlT.lf qm_b_dup))) (qm_BlT.sel (qm_BlT.sel (qm_BlT.lf qm_b_push) (qm_BlT.lf qm_b_push)) (qm_BlT.sel (qm_BlT.lf qm_b_iast) (qm_BlT.lf qm_b_dup))))) (qm_BlT.sel (qm_BlT.sel (qm_BlT.sel (qm_BlT.lf qm_b_push) (qm_BlT.sel (qm_BlT.lf qm_b_push) (qm_BlT.lf qm_b_iast))) (qm_BlT.sel (qm_BlT.sel (qm_BlT.lf qm_b_dup) (qm_BlT.lf qm_b_push)) (qm_BlT.sel (qm_BlT.lf qm_b_push) (qm_BlT.lf qm_b_iast)))) (qm_BlT.sel (qm_BlT.sel (qm_BlT.sel (qm_BlT.lf qm_b_dup) (qm_BlT.lf qm_b_push)) (qm_BlT.sel (qm_BlT.lf qm_b_push) (qm_BlT.lf qm_b_iast))) (qm_BlT.sel (qm_BlT.sel (qm_BlT.lf qm_b_dup) (qm_BlT.lf qm_b_push)) (qm_BlT.sel (qm_BlT.lf qm_b_push) (qm_BlT.lf qm_b_iast))))))) (qm_BlT.sel (qm_BlT.sel (qm_BlT.sel (qm_BlT.sel (qm_BlT.sel (qm_BlT.lf qm_b_dup) (qm_BlT.sel (qm_BlT.lf qm_b_push) (qm_BlT.lf qm_b_push))) (qm_BlT.sel (qm_BlT.sel (qm_BlT.lf qm_b_iast) (qm_BlT.lf qm_b_aast)) (qm_BlT.sel (qm_BlT.lf qm_b_dup) (qm_BlT.lf qm_b_push)))) (qm_BlT.sel (qm_BlT.sel (qm_BlT.lf qm_b_push) (qm_BlT.sel (qm_BlT.lf qm_b_newa) (qm_BlT.lf qm_b_dup))) (qm_BlT.sel (qm_BlT.sel (qm_BlT.lf qm_b_push) (qm_BlT.lf qm_b_push)) (qm_BlT.sel (qm_BlT.lf qm_b_iast) (qm_BlT.lf qm_b_dup))))) (qm_BlT.sel (qm_BlT.sel (qm_BlT.sel (qm_BlT.lf qm_b_push) (qm_BlT.sel (qm_BlT.lf qm_b_push) (qm_BlT.lf qm_b_iast))) (qm_BlT.sel (qm_BlT.sel (qm_BlT.lf qm_b_dup) (qm_BlT.lf qm_b_push)) (qm_BlT.sel (qm_BlT.lf qm_b_push) (qm_BlT.lf qm_b_iast)))) (qm_BlT.sel (qm_BlT.sel (qm_BlT.sel (qm_BlT.lf qm_b_dup) (qm_BlT.lf qm_b_push)) (qm_BlT.sel (qm_BlT.lf qm_b_push) (qm_BlT.lf qm_b_iast))) (qm_BlT.sel (qm_BlT.sel (qm_BlT.lf qm_b_dup) (qm_BlT.lf qm_b_push)) (qm_BlT.sel (qm_BlT.lf qm_b_push) (qm_BlT.lf qm_b_iast)))))) (qm_BlT.sel (qm_BlT.sel (qm_BlT.sel (qm_BlT.sel (qm_BlT.lf qm_b_dup) (qm_BlT.sel (qm_BlT.lf qm_b_push) (qm_BlT.lf qm_b_push))) (qm_BlT.sel (qm_BlT.sel (qm_BlT.lf qm_b_iast) (qm_BlT.lf qm_b_aast)) (qm_BlT.sel (qm_BlT.lf qm_b_putf) (qm_BlT.lf qm_b_aload)))) (qm_BlT.sel (qm_BlT.sel (qm_BlT.lf qm_b_push) (qm_BlT.sel (qm_BlT.lf qm_b_newa) (qm_BlT.lf qm_b_putf))) (qm_BlT.sel (qm_BlT.sel (qm_BlT.lf qm_b_aload) (qm_BlT.lf qm_b_push)) (qm_BlT.sel (qm_BlT.lf qm_b_push) (qm_BlT.lf qm_b_mnew))))) (qm_BlT.sel (qm_BlT.sel (qm_BlT.sel (qm_BlT.lf qm_b_putf) (qm_BlT.sel (qm_BlT.lf qm_b_push) (qm_BlT.lf qm_b_istore))) (qm_BlT.sel (qm_BlT.sel (qm_BlT.lf (qm_b_pr _ qm_b_iload)) (qm_BlT.lf qm_b_push)) (qm_BlT.sel (qm_BlT.lf qm_b_icmp_ge) (qm_BlT.lf qm_b_aload)))) (qm_BlT.sel (qm_BlT.sel (qm_BlT.sel (qm_BlT.lf qm_b_getf) (qm_BlT.lf qm_b_iload)) (qm_BlT.sel (qm_BlT.lf qm_b_aald) (qm_BlT.lf qm_b_push))) (qm_BlT.sel (qm_BlT.sel (qm_BlT.lf qm_b_call) (qm_BlT.lf qm_b_iinc)) (qm_BlT.sel (qm_BlT.lf qm_b_goto) (qm_BlT.lf qm_b_ret))))))))
theorem qm_bt111 : qm_BlT qm_P111 := (qm_BlT.sel (qm_BlT.sel (qm_BlT.lf qm_b_aload) (qm_BlT.lf qm_b_push)) (qm_BlT.sel (qm_BlT.lf qm_b_call) (qm_BlT.lf qm_b_ret)))
theorem qm_bt149 : qm_BlT qm_P149 := (qm_BlT.sel (qm_BlT.sel (qm_BlT.sel (qm_BlT.sel (qm_BlT.sel (qm_BlT.lf qm_b_aload) (qm_BlT.lf qm_b_obj)) (qm_BlT.sel (qm_BlT.lf qm_b_aload) (qm_BlT.lf qm_b_new))) (qm_BlT.sel (qm_BlT.sel (qm_BlT.lf qm_b_dup) (qm_BlT.lf qm_b_call)) (qm_BlT.sel (qm_BlT.lf qm_b_putf) (qm_BlT.lf qm_b_aload)))) (qm_BlT.sel (qm_BlT.sel (qm_BlT.sel (qm_BlT.lf qm_b_new) (qm_BlT.lf qm_b_dup)) (qm_BlT.sel (qm_BlT.lf qm_b_call) (qm_BlT.lf qm_b_putf))) (qm_BlT.sel (qm_BlT.sel (qm_BlT.lf qm_b_aload) (qm_BlT.lf qm_b_new)) (qm_BlT.sel (qm_BlT.lf qm_b_dup) (qm_BlT.sel (qm_BlT.lf qm_b_call) (qm_BlT.lf qm_b_putf)))))) (qm_BlT.sel (qm_BlT.sel (qm_BlT.sel (qm_BlT.sel (qm_BlT.lf qm_b_aload) (qm_BlT.lf qm_b_push)) (qm_BlT.sel (qm_BlT.lf qm_b_push) (qm_BlT.lf qm_b_mnew))) (qm_BlT.sel (qm_BlT.sel (qm_BlT.lf qm_b_putf) (qm_BlT.lf qm_b_aload)) (qm_BlT.sel (qm_BlT.lf qm_b_getf) (qm_BlT.sel (qm_BlT.lf qm_b_push) (qm_BlT.lf qm_b_aald))))) (qm_BlT.sel (qm_BlT.sel (qm_BlT.sel (qm_BlT.lf qm_b_push) (qm_BlT.lf qm_b_call)) (qm_BlT.sel (qm_BlT.lf qm_b_aload) (qm_BlT.lf qm_b_getf))) (qm_BlT.sel (qm_BlT.sel (qm_BlT.lf qm_b_push) (qm_BlT.lf qm_b_aald)) (qm_BlT.sel (qm_BlT.lf qm_b_push) (qm_BlT.sel (qm_BlT.lf qm_b_call) (qm_BlT.lf qm_b_ret)))))))
theorem qm_bt163 : qm_BlT qm_P163 := (qm_BlT.sel (qm_BlT.sel (qm_BlT.sel (qm_BlT.sel (qm_BlT.sel (qm_BlT.lf qm_b_aload) (qm_BlT.lf qm_b_obj)) (qm_BlT.sel (qm_BlT.lf qm_b_aload) (qm_BlT.sel (qm_BlT.lf qm_b_new) (qm_BlT.lf qm_b_dup)))) (qm_BlT.sel (qm_BlT.sel (qm_BlT.lf qm_b_call) (qm_BlT.sel (qm_BlT.lf qm_b_putf) (qm_BlT.lf qm_b_aload))) (qm_BlT.sel (qm_BlT.lf qm_b_new) (qm_BlT.sel (qm_BlT.lf qm_b_dup) (qm_BlT.lf qm_b_call))))) (qm_BlT.sel (qm_BlT.sel (qm_BlT.sel (qm_BlT.lf qm_b_putf) (qm_BlT.sel (qm_BlT.lf qm_b_aload) (qm_BlT.lf qm_b_new))) (qm_BlT.sel (qm_BlT.lf qm_b_dup) (qm_BlT.sel (qm_BlT.lf qm_b_call) (qm_BlT.lf qm_b_putf)))) (qm_BlT.sel (qm_BlT.sel (qm_BlT.lf qm_b_aload) (qm_BlT.sel (qm_BlT.lf qm_b_new) (qm_BlT.lf qm_b_dup))) (qm_BlT.sel (qm_BlT.lf qm_b_call) (qm_BlT.sel (qm_BlT.lf qm_b_putf) (qm_BlT.lf qm_b_aload)))))) (qm_BlT.sel (qm_BlT.sel (qm_BlT.sel (qm_BlT.sel (qm_BlT.lf qm_b_push) (qm_BlT.lf qm_b_newa)) (qm_BlT.sel (qm_BlT.lf qm_b_putf) (qm_BlT.sel (qm_BlT.lf qm_b_aload) (qm_BlT.lf qm_b_new)))) (qm_BlT.sel (qm_BlT.sel (qm_BlT.lf qm_b_dup) (qm_BlT.sel (qm_BlT.lf qm_b_call) (qm_BlT.lf qm_b_putf))) (qm_BlT.sel (qm_BlT.lf qm_b_push) (qm_BlT.sel (qm_BlT.lf qm_b_istore) (qm_BlT.lf (qm_b_pr _ qm_b_iload)))))) (qm_BlT.sel (qm_BlT.sel (qm_BlT.sel (qm_BlT.lf qm_b_push) (qm_BlT.sel (qm_BlT.lf qm_b_icmp_ge) (qm_BlT.lf qm_b_aload))) (qm_BlT.sel (qm_BlT.lf qm_b_getf) (qm_BlT.sel (qm_BlT.lf qm_b_iload) (qm_BlT.lf qm_b_new)))) (qm_BlT.sel (qm_BlT.sel (qm_BlT.lf qm_b_dup) (qm_BlT.sel (qm_BlT.lf qm_b_call) (qm_BlT.lf qm_b_aast))) (qm_BlT.sel (qm_BlT.lf qm_b_iinc) (qm_BlT.sel (qm_BlT.lf qm_b_goto) (qm_BlT.lf qm_b_ret)))))))
def qm_Pn : Nat → qm_Cd := fun y => bif Nat.beq y 8 then qm_P8 else bif Nat.beq y 56 then qm_P56 else bif Nat.beq y 57 then qm_P57 else bif Nat.beq y 58 then qm_P58 else bif Nat.beq y 59 then qm_P59 else bif Nat.beq y 60 then qm_P60 else bif Nat.beq y 62 then qm_P62 else bif Nat.beq y 63 then qm_P63 else bif Nat.beq y 101 then qm_P101 else bif Nat.beq y 111 then qm_P111 else bif Nat.beq y 149 then qm_P149 else bif Nat.beq y 163 then qm_P163 else fun _ => none
theorem qm_Pn_b (y : Nat) : qm_BlT (qm_Pn y) := by
  unfold qm_Pn
  cases hb : Nat.beq y 8
  case true => exact qm_bt8
  simp only [cond_false]
  cases hb : Nat.beq y 56
  case true => exact qm_bt56
  simp only [cond_false]
  cases hb : Nat.beq y 57
  case true => exact qm_bt57
  simp only [cond_false]
  cases hb : Nat.beq y 58
  case true => exact qm_bt58
  simp only [cond_false]
  cases hb : Nat.beq y 59
  case true => exact qm_bt59
  simp only [cond_false]
  cases hb : Nat.beq y 60
  case true => exact qm_bt60
  simp only [cond_false]
  cases hb : Nat.beq y 62
  case true => exact qm_bt62
  simp only [cond_false]
  cases hb : Nat.beq y 63
  case true => exact qm_bt63
  simp only [cond_false]
  cases hb : Nat.beq y 101
  case true => exact qm_bt101
  simp only [cond_false]
  cases hb : Nat.beq y 111
  case true => exact qm_bt111
  simp only [cond_false]
  cases hb : Nat.beq y 149
  case true => exact qm_bt149
  simp only [cond_false]
  cases hb : Nat.beq y 163
  case true => exact qm_bt163
  simp only [cond_false]
  intro pc op h
  cases h
theorem qm_Pn_s (y : Nat) : qm_Pn y = qm_P y ∨ qm_Pn y = fun _ => none := by
  unfold qm_Pn
  cases hb : Nat.beq y 8
  case true => obtain rfl := Nat.eq_of_beq_eq_true hb; exact Or.inl rfl
  simp only [cond_false]
  cases hb : Nat.beq y 56
  case true => obtain rfl := Nat.eq_of_beq_eq_true hb; exact Or.inl rfl
  simp only [cond_false]
  cases hb : Nat.beq y 57
  case true => obtain rfl := Nat.eq_of_beq_eq_true hb; exact Or.inl rfl
  simp only [cond_false]
  cases hb : Nat.beq y 58
  case true => obtain rfl := Nat.eq_of_beq_eq_true hb; exact Or.inl rfl
  simp only [cond_false]
  cases hb : Nat.beq y 59
  case true => obtain rfl := Nat.eq_of_beq_eq_true hb; exact Or.inl rfl
  simp only [cond_false]
  cases hb : Nat.beq y 60
  case true => obtain rfl := Nat.eq_of_beq_eq_true hb; exact Or.inl rfl
  simp only [cond_false]
  cases hb : Nat.beq y 62
  case true => obtain rfl := Nat.eq_of_beq_eq_true hb; exact Or.inl rfl
  simp only [cond_false]
  cases hb : Nat.beq y 63
  case true => obtain rfl := Nat.eq_of_beq_eq_true hb; exact Or.inl rfl
  simp only [cond_false]
  cases hb : Nat.beq y 101
  case true => obtain rfl := Nat.eq_of_beq_eq_true hb; exact Or.inl rfl
  simp only [cond_false]
  cases hb : Nat.beq y 111
  case true => obtain rfl := Nat.eq_of_beq_eq_true hb; exact Or.inl rfl
  simp only [cond_false]
  cases hb : Nat.beq y 149
  case true => obtain rfl := Nat.eq_of_beq_eq_true hb; exact Or.inl rfl
  simp only [cond_false]
  cases hb : Nat.beq y 163
  case true => obtain rfl := Nat.eq_of_beq_eq_true hb; exact Or.inl rfl
  simp only [cond_false]
  first | exact Or.inr rfl | exact Or.inr trivial
