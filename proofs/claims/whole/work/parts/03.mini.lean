/-! THE SMALL MACHINE: a machine of my own for the pure part: values, locals, a heap of regions whose contents are functions; an instruction is a function (closure); 'qm_run' runs a method with its calls. A later part shows: what it answers, the machine answers. -/
/-- a place: kind (0 made by the run, 1 given at the start, 2 the script), region, row -/
abbrev qm_Rf : Type := Nat × Nat × Nat
abbrev qm_V : Type := Int32 ⊕ Int64 ⊕ UInt32 ⊕ UInt64 ⊕ Option qm_Rf
abbrev qm_I (x : Int32) : qm_V := Sum.inl x
abbrev qm_L (x : Int64) : qm_V := Sum.inr (Sum.inl x)
abbrev qm_F (x : UInt32) : qm_V := Sum.inr (Sum.inr (Sum.inl x))
abbrev qm_D (x : UInt64) : qm_V := Sum.inr (Sum.inr (Sum.inr (Sum.inl x)))
abbrev qm_R (x : Option qm_Rf) : qm_V := Sum.inr (Sum.inr (Sum.inr (Sum.inr x)))
abbrev qm_Lv : Type := List (Nat × qm_V)
/-- a region's shape: an object of a class; an array (type, length); rows of equal length under an outer array (outer type, inner type, how many, length) -/
abbrev qm_Sh : Type := Nat ⊕ (Nat × Nat) ⊕ (Nat × Nat × Nat × Nat)
/-- contents by region, row, place: ints; bytes; longs; doubles; references -/
abbrev qm_Ct (α : Type) : Type := Nat → Nat → Nat → α
/-- shapes; ints, bytes, longs, doubles, references; the script -/
abbrev qm_Hp : Type := List qm_Sh × qm_Ct Int32 × qm_Ct Int8 × qm_Ct Int64 × qm_Ct UInt64 × qm_Ct (Option qm_Rf) × (Nat × (Nat → Int32))
def qm_nth {α : Type} : List α → Nat → Option α
  | [], _ => none
  | a :: _, 0 => some a
  | _ :: l, n + 1 => qm_nth l n
def qm_cat : qm_V → Nat
  | Sum.inl _ => 1
  | Sum.inr (Sum.inl _) => 2
  | Sum.inr (Sum.inr (Sum.inl _)) => 1
  | Sum.inr (Sum.inr (Sum.inr (Sum.inl _))) => 2
  | Sum.inr (Sum.inr (Sum.inr (Sum.inr _))) => 1
def qm_ld : qm_Lv → Nat → Option qm_V
  | [], _ => none
  | (j, v) :: l, i => bif Nat.beq j i then some v else qm_ld l i
/-- what stays beside a value of one word at i -/
def qm_k1 (i : Nat) : qm_Lv → qm_Lv
  | [] => []
  | (j, v) :: l => bif Nat.beq j i || (Nat.beq (j + 1) i && Nat.beq (qm_cat v) 2) then qm_k1 i l else (j, v) :: qm_k1 i l
def qm_k2 (i : Nat) : qm_Lv → qm_Lv
  | [] => []
  | (j, v) :: l => bif Nat.beq j i || (Nat.beq j (i + 1) || (Nat.beq (j + 1) i && Nat.beq (qm_cat v) 2)) then qm_k2 i l else (j, v) :: qm_k2 i l
def qm_st1 (lv : qm_Lv) (i : Nat) (v : qm_V) : qm_Lv := (i, v) :: qm_k1 i lv
def qm_st2 (lv : qm_Lv) (i : Nat) (v : qm_V) : qm_Lv := (i, v) :: qm_k2 i lv
/-- the listed locals alone, in that order -/
def qm_pick : List Nat → qm_Lv → qm_Lv
  | [], _ => []
  | k :: ks, lv => match qm_ld lv k with
    | some v => (k, v) :: qm_pick ks lv
    | none => qm_pick ks lv
def qm_args : Nat → List qm_V → qm_Lv
  | _, [] => []
  | i, v :: l => (i, v) :: qm_args (i + qm_cat v) l
def qm_sum : List qm_V → Nat
  | [] => 0
  | v :: l => qm_cat v + qm_sum l
/-- the top n of the stack, the deepest first, and the rest -/
def qm_pop : Nat → List qm_V → List qm_V → Option (List qm_V × List qm_V)
  | 0, acc, st => some (acc, st)
  | n + 1, acc, v :: st => qm_pop n (v :: acc) st
  | _ + 1, _, [] => none
def qm_set {α : Type} (f : qm_Ct α) (r s i : Nat) (v : α) : qm_Ct α := fun r' s' i' => if r' = r ∧ s' = s ∧ i' = i then v else f r' s' i'
def qm_clr {α : Type} (f : qm_Ct α) (r : Nat) (v : α) : qm_Ct α := fun r' s' i' => if r' = r then v else f r' s' i'
def qm_cpy {α : Type} (f : qm_Ct α) (ra sa ia rb sb ib n : Nat) : qm_Ct α := fun r' s' i' => if r' = rb ∧ s' = sb ∧ ib ≤ i' ∧ i' < ib + n then f ra sa (ia + (i' - ib)) else f r' s' i'
def qm_T0 : List Int32 := [100, 1, 0, 0, 0, 1]
def qm_T1 : List Int32 := [9999, 8, 8, 99, 99, 1000000]
def qm_T2 : List Int32 := [3, 1, 2]
def qm_T3 : List Int32 := [1, 2, 3, 4, 5, 6, 7]
def qm_W0 : List Int32 := [1, 1, 0, 0, 0, 3, 1]
def qm_W1 : List Int32 := [1, 1, 0, 0, 0, 4, 1]
def qm_B25 : List Int8 := [98, 105, 100]
def qm_B26 : List Int8 := [97, 115, 107]
def qm_B27 : List Int8 := [104, 105, 116]
def qm_B28 : List Int8 := [108, 105, 102, 116]
def qm_B29 : List Int8 := [112, 117, 108, 108]
def qm_B30 : List Int8 := [102, 97, 105, 114]
def qm_B31 : List Int8 := [115, 116, 114, 101, 101, 116]
def qm_B32 : List Int8 := [32, 108, 111, 110, 103]
def qm_B33 : List Int8 := [32, 115, 104, 111, 114, 116]
def qm_B34 : List Int8 := [32, 102, 108, 97, 116]
def qm_B35 : List Int8 := [108, 111, 110, 103]
def qm_B36 : List Int8 := [115, 104, 111, 114, 116]
def qm_B37 : List Int8 := [102, 108, 97, 116]
def qm_B38 : List Int8 := [48, 49, 50, 51, 52, 53, 54, 55, 56, 57, 48, 49, 50, 51, 52, 53, 54, 55, 56, 57, 48, 49, 50, 51, 52, 53, 54, 55, 56, 57, 48, 49, 50, 51, 52, 53, 54, 55, 56, 57, 48, 49, 50, 51, 52, 53, 54, 55, 56, 57, 48, 49, 50, 51, 52, 53, 54, 55, 56, 57, 48, 49, 50, 51, 52, 53, 54, 55, 56, 57, 48, 49, 50, 51, 52, 53, 54, 55, 56, 57, 48, 49, 50, 51, 52, 53, 54, 55, 56, 57, 48, 49, 50, 51, 52, 53, 54, 55, 56, 57]
def qm_B39 : List Int8 := [48, 48, 48, 48, 48, 48, 48, 48, 48, 48, 49, 49, 49, 49, 49, 49, 49, 49, 49, 49, 50, 50, 50, 50, 50, 50, 50, 50, 50, 50, 51, 51, 51, 51, 51, 51, 51, 51, 51, 51, 52, 52, 52, 52, 52, 52, 52, 52, 52, 52, 53, 53, 53, 53, 53, 53, 53, 53, 53, 53, 54, 54, 54, 54, 54, 54, 54, 54, 54, 54, 55, 55, 55, 55, 55, 55, 55, 55, 55, 55, 56, 56, 56, 56, 56, 56, 56, 56, 56, 56, 57, 57, 57, 57, 57, 57, 57, 57, 57, 57]
/-- the shapes of what is given at the start -/
def qm_SS : Nat → Option qm_Sh := fun r => match r with
  | 0 => some (Sum.inr (Sum.inl (0, 6)))
  | 1 => some (Sum.inr (Sum.inl (0, 6)))
  | 2 => some (Sum.inr (Sum.inl (0, 3)))
  | 3 => some (Sum.inr (Sum.inl (0, 7)))
  | 4 => some (Sum.inr (Sum.inl (6, 7)))
  | 5 => some (Sum.inl 11)
  | 6 => some (Sum.inl 11)
  | 7 => some (Sum.inl 11)
  | 8 => some (Sum.inl 11)
  | 9 => some (Sum.inl 11)
  | 10 => some (Sum.inl 11)
  | 11 => some (Sum.inl 11)
  | 12 => some (Sum.inl 12)
  | 13 => some (Sum.inl 12)
  | 14 => some (Sum.inl 12)
  | 15 => some (Sum.inl 12)
  | 16 => some (Sum.inl 12)
  | 17 => some (Sum.inl 12)
  | 18 => some (Sum.inl 12)
  | 19 => some (Sum.inl 12)
  | 20 => some (Sum.inl 12)
  | 21 => some (Sum.inl 12)
  | 22 => some (Sum.inl 12)
  | 23 => some (Sum.inl 12)
  | 24 => some (Sum.inl 12)
  | 25 => some (Sum.inr (Sum.inl (1, 3)))
  | 26 => some (Sum.inr (Sum.inl (1, 3)))
  | 27 => some (Sum.inr (Sum.inl (1, 3)))
  | 28 => some (Sum.inr (Sum.inl (1, 4)))
  | 29 => some (Sum.inr (Sum.inl (1, 4)))
  | 30 => some (Sum.inr (Sum.inl (1, 4)))
  | 31 => some (Sum.inr (Sum.inl (1, 6)))
  | 32 => some (Sum.inr (Sum.inl (1, 5)))
  | 33 => some (Sum.inr (Sum.inl (1, 6)))
  | 34 => some (Sum.inr (Sum.inl (1, 5)))
  | 35 => some (Sum.inr (Sum.inl (1, 4)))
  | 36 => some (Sum.inr (Sum.inl (1, 5)))
  | 37 => some (Sum.inr (Sum.inl (1, 4)))
  | 38 => some (Sum.inr (Sum.inl (1, 100)))
  | 39 => some (Sum.inr (Sum.inl (1, 100)))
  | _ => none
/-- ints: arrays; fields (Word: 0 ordinal, 1 letters, 2 digitsLeast, 3 digitsMost; String: 0 value, 1 coder) -/
def qm_SI : Nat → Nat → Int32 := fun r i => match r with
  | 0 => qm_T0.getD i 0
  | 1 => qm_T1.getD i 0
  | 2 => qm_T2.getD i 0
  | 3 => qm_T3.getD i 0
  | 5 => (match i with | 0 => 0 | 2 => 1 | 3 => 1 | _ => 0)
  | 6 => (match i with | 0 => 1 | 2 => 1 | 3 => 1 | _ => 0)
  | 7 => (match i with | 0 => 2 | 2 => 0 | 3 => 0 | _ => 0)
  | 8 => (match i with | 0 => 3 | 2 => 0 | 3 => 0 | _ => 0)
  | 9 => (match i with | 0 => 4 | 2 => 0 | 3 => 0 | _ => 0)
  | 10 => (match i with | 0 => 5 | 2 => 3 | 3 => 4 | _ => 0)
  | 11 => (match i with | 0 => 6 | 2 => 1 | 3 => 1 | _ => 0)
  | _ => 0
def qm_SB : Nat → Nat → Int8 := fun r i => match r with
  | 25 => qm_B25.getD i 0
  | 26 => qm_B26.getD i 0
  | 27 => qm_B27.getD i 0
  | 28 => qm_B28.getD i 0
  | 29 => qm_B29.getD i 0
  | 30 => qm_B30.getD i 0
  | 31 => qm_B31.getD i 0
  | 32 => qm_B32.getD i 0
  | 33 => qm_B33.getD i 0
  | 34 => qm_B34.getD i 0
  | 35 => qm_B35.getD i 0
  | 36 => qm_B36.getD i 0
  | 37 => qm_B37.getD i 0
  | 38 => qm_B38.getD i 0
  | 39 => qm_B39.getD i 0
  | _ => 0
def qm_SR : Nat → Nat → Option qm_Rf := fun r i => match r with
  | 4 => bif Nat.blt i 7 then some (1, i + 5, 0) else none
  | 5 => (match i with | 1 => some (1, 12, 0) | _ => none)
  | 6 => (match i with | 1 => some (1, 13, 0) | _ => none)
  | 7 => (match i with | 1 => some (1, 14, 0) | _ => none)
  | 8 => (match i with | 1 => some (1, 15, 0) | _ => none)
  | 9 => (match i with | 1 => some (1, 16, 0) | _ => none)
  | 10 => (match i with | 1 => some (1, 17, 0) | _ => none)
  | 11 => (match i with | 1 => some (1, 18, 0) | _ => none)
  | 12 => (match i with | 0 => some (1, 25, 0) | _ => none)
  | 13 => (match i with | 0 => some (1, 26, 0) | _ => none)
  | 14 => (match i with | 0 => some (1, 27, 0) | _ => none)
  | 15 => (match i with | 0 => some (1, 28, 0) | _ => none)
  | 16 => (match i with | 0 => some (1, 29, 0) | _ => none)
  | 17 => (match i with | 0 => some (1, 30, 0) | _ => none)
  | 18 => (match i with | 0 => some (1, 31, 0) | _ => none)
  | 19 => (match i with | 0 => some (1, 32, 0) | _ => none)
  | 20 => (match i with | 0 => some (1, 33, 0) | _ => none)
  | 21 => (match i with | 0 => some (1, 34, 0) | _ => none)
  | 22 => (match i with | 0 => some (1, 35, 0) | _ => none)
  | 23 => (match i with | 0 => some (1, 36, 0) | _ => none)
  | 24 => (match i with | 0 => some (1, 37, 0) | _ => none)
  | _ => none
def qm_shp (h : qm_Hp) : qm_Rf → Option qm_Sh
  | (0, r, _) => qm_nth h.1 r
  | (1, r, _) => qm_SS r
  | (_ + 2, _, _) => some (Sum.inr (Sum.inl (0, h.2.2.2.2.2.2.1)))
/-- the receiver, where a call wants one, is an object of that class -/
def qm_rcv (h : qm_Hp) : Option Nat → List qm_V → Bool
  | none, _ => true
  | some ci, Sum.inr (Sum.inr (Sum.inr (Sum.inr (some a)))) :: _ => match qm_shp h a with
    | some (Sum.inl c) => Nat.beq c ci && Nat.beq a.2.2 0
    | _ => false
  | some _, _ => false
abbrev qm_Op : Type := (qm_Lv → List qm_V → qm_Hp → Option (Nat × qm_Lv × List qm_V × qm_Hp)) ⊕ (Nat × Nat × Bool × Nat × Option Nat × Nat) ⊕ Nat
abbrev qm_Cd : Type := Nat → Option qm_Op
/-- whether a value may be returned as this type: 1 int, 2 long, 3 float, 4 double, 5 a reference, 6 boolean, 7 byte (0), 8 char -/
def qm_rok : Nat → qm_V → Bool
  | 1, Sum.inl _ => true
  | 2, Sum.inr (Sum.inl _) => true
  | 3, Sum.inr (Sum.inr (Sum.inl _)) => true
  | 4, Sum.inr (Sum.inr (Sum.inr (Sum.inl _))) => true
  | 5, Sum.inr (Sum.inr (Sum.inr (Sum.inr _))) => true
  | 6, Sum.inl x => decide (x = 0 ∨ x = 1)
  | 7, Sum.inl x => decide (x = 0)
  | 8, Sum.inl x => decide ((x.toUInt32 % 65536).toInt32 = x)
  | _, _ => false
/-- the words that a call of the method y may leave below its own -/
def qm_wr (y : Nat) : Nat := bif Nat.beq y 91 then 9 else 8
def qm_run (P : Nat → qm_Cd) : Nat → qm_Cd → Nat → qm_Lv → List qm_V → qm_Hp → Option (Option qm_V × qm_Hp)
  | 0, _, _, _, _, _ => none
  | n + 1, cd, pc, lv, st, h => match cd pc with
    | none => none
    | some (Sum.inl f) => match f lv st h with
      | none => none
      | some q => qm_run P n cd q.1 q.2.1 q.2.2.1 q.2.2.2
    | some (Sum.inr (Sum.inl (y, na, hr, pc', ci, mL))) => match qm_pop na [] st with
      | none => none
      | some (as, rest) =>
        bif qm_rcv h ci as && (Nat.ble (qm_sum rest) (qm_wr y) && Nat.ble (qm_sum as) mL) then
          match qm_run P n (P y) 0 (qm_args 0 as) [] h with
          | none => none
          | some (none, h') => bif hr then none else qm_run P n cd pc' lv rest h'
          | some (some v, h') => bif hr then qm_run P n cd pc' lv (v :: rest) h' else none
        else none
    | some (Sum.inr (Sum.inr t)) => match st with
      | [] => bif Nat.beq t 0 then some (none, h) else none
      | [v] => bif qm_rok t v then some (some v, h) else none
      | _ :: _ :: _ => none
theorem qm_run_more (P : Nat → qm_Cd) : ∀ (n : Nat) (cd : qm_Cd) (pc : Nat) (lv : qm_Lv) (st : List qm_V) (h : qm_Hp) (r : Option qm_V × qm_Hp), qm_run P n cd pc lv st h = some r → qm_run P (n + 1) cd pc lv st h = some r := by
  intro n
  induction n with
  | zero => intro cd pc lv st h r e; simp [qm_run] at e
  | succ n ih =>
    intro cd pc lv st h r e
    rw [qm_run] at e ⊢
    cases hc : cd pc with
    | none => rw [hc] at e; cases e
    | some op =>
      rw [hc] at e
      rcases op with f | ⟨y, na, hr, pc', ci, mL⟩ | t
      · dsimp only at e ⊢
        cases hf : f lv st h with
        | none => rw [hf] at e; cases e
        | some q => rw [hf] at e; exact ih _ _ _ _ _ _ e
      · dsimp only at e ⊢
        cases hp : qm_pop na [] st with
        | none => rw [hp] at e; cases e
        | some q =>
          rw [hp] at e
          obtain ⟨as, rest⟩ := q
          dsimp only at e ⊢
          cases hb : (qm_rcv h ci as && (Nat.ble (qm_sum rest) (qm_wr y) && Nat.ble (qm_sum as) mL)) with
          | false => rw [hb] at e; cases e
          | true =>
            rw [hb] at e
            dsimp only [cond_true] at e ⊢
            cases hk : qm_run P n (P y) 0 (qm_args 0 as) [] h with
            | none => rw [hk] at e; cases e
            | some q =>
              rw [hk] at e
              rw [ih _ _ _ _ _ _ hk]
              obtain ⟨v, h'⟩ := q
              cases v with
              | none =>
                cases hr with
                | false => exact ih _ _ _ _ _ _ e
                | true => cases e
              | some v =>
                cases hr with
                | false => cases e
                | true => exact ih _ _ _ _ _ _ e
      · exact e
theorem qm_run_le (P : Nat → qm_Cd) {n m : Nat} (hnm : n ≤ m) {cd : qm_Cd} {pc : Nat} {lv : qm_Lv} {st : List qm_V} {h : qm_Hp} {r : Option qm_V × qm_Hp} (e : qm_run P n cd pc lv st h = some r) : qm_run P m cd pc lv st h = some r := by
  induction hnm with
  | refl => exact e
  | step _ ih => exact qm_run_more P _ _ _ _ _ _ _ ih
/-- from here the method comes to its end with Q -/
def qm_G (P : Nat → qm_Cd) (cd : qm_Cd) (pc : Nat) (lv : qm_Lv) (st : List qm_V) (h : qm_Hp) (Q : Option qm_V → qm_Hp → Prop) : Prop :=
  ∃ (n : Nat) (v : Option qm_V) (h' : qm_Hp), qm_run P n cd pc lv st h = some (v, h') ∧ Q v h'
/-- a call -/
def qm_C (P : Nat → qm_Cd) (y : Nat) (as : List qm_V) (h : qm_Hp) (Q : Option qm_V → qm_Hp → Prop) : Prop := qm_G P (P y) 0 (qm_args 0 as) [] h Q
section GL
variable {P : Nat → qm_Cd} {cd : qm_Cd} {pc pc' : Nat} {lv lv' : qm_Lv} {st st' : List qm_V} {h h' : qm_Hp} {Q : Option qm_V → qm_Hp → Prop}
theorem qm_G.op {f : qm_Lv → List qm_V → qm_Hp → Option (Nat × qm_Lv × List qm_V × qm_Hp)} (hc : cd pc = some (Sum.inl f)) (hf : f lv st h = some (pc', lv', st', h')) (k : qm_G P cd pc' lv' st' h' Q) : qm_G P cd pc lv st h Q := by
  obtain ⟨n, v, h2, e, q⟩ := k
  refine ⟨n + 1, v, h2, ?_, q⟩
  rw [qm_run, hc]
  dsimp only
  rw [hf]
  exact e
theorem qm_G.br {f : qm_Lv → List qm_V → qm_Hp → Option (Nat × qm_Lv × List qm_V × qm_Hp)} {c : Prop} {dc : Decidable c} {pc1 pc2 : Nat} {lv1 lv2 : qm_Lv} {st1 st2 : List qm_V} {h1 h2 : qm_Hp} (hc : cd pc = some (Sum.inl f)) (hf : f lv st h = @ite _ c dc (some (pc1, lv1, st1, h1)) (some (pc2, lv2, st2, h2))) (k1 : c → qm_G P cd pc1 lv1 st1 h1 Q) (k2 : ¬ c → qm_G P cd pc2 lv2 st2 h2 Q) : qm_G P cd pc lv st h Q := by
  by_cases h9 : c
  · rw [if_pos h9] at hf
    exact qm_G.op hc hf (k1 h9)
  · rw [if_neg h9] at hf
    exact qm_G.op hc hf (k2 h9)
theorem qm_G.gd {f : qm_Lv → List qm_V → qm_Hp → Option (Nat × qm_Lv × List qm_V × qm_Hp)} {c : Prop} {dc : Decidable c} (hc : cd pc = some (Sum.inl f)) (hf : f lv st h = @ite _ c dc none (some (pc', lv', st', h'))) (h9 : ¬ c) (k : qm_G P cd pc' lv' st' h' Q) : qm_G P cd pc lv st h Q := by
  rw [if_neg h9] at hf
  exact qm_G.op hc hf k
theorem qm_G.mono {Q2 : Option qm_V → qm_Hp → Prop} (k : qm_G P cd pc lv st h Q) (hq : ∀ v h, Q v h → Q2 v h) : qm_G P cd pc lv st h Q2 := by
  obtain ⟨n, v, h2, e, q⟩ := k
  exact ⟨n, v, h2, e, hq _ _ q⟩
theorem qm_G.ret {t : Nat} {v : qm_V} (hc : cd pc = some (Sum.inr (Sum.inr t))) (hr : qm_rok t v = true) (q : Q (some v) h) : qm_G P cd pc lv [v] h Q := by
  refine ⟨1, some v, h, ?_, q⟩
  rw [qm_run, hc]
  dsimp only
  rw [hr]
  rfl
theorem qm_G.retv (hc : cd pc = some (Sum.inr (Sum.inr 0))) (q : Q none h) : qm_G P cd pc lv [] h Q := by
  refine ⟨1, none, h, ?_, q⟩
  rw [qm_run, hc]
  rfl
theorem qm_G.call {y na mL : Nat} {ci : Option Nat} {as rest : List qm_V} (hc : cd pc = some (Sum.inr (Sum.inl (y, na, true, pc', ci, mL)))) (hp : qm_pop na [] st = some (as, rest)) (hr : (qm_rcv h ci as && (Nat.ble (qm_sum rest) (qm_wr y) && Nat.ble (qm_sum as) mL)) = true) (k : qm_C P y as h (fun v h' => ∃ w, v = some w ∧ qm_G P cd pc' lv (w :: rest) h' Q)) : qm_G P cd pc lv st h Q := by
  obtain ⟨n, v, h2, e, w, rfl, n2, v2, h3, e2, q⟩ := k
  refine ⟨max n n2 + 1, v2, h3, ?_, q⟩
  rw [qm_run, hc]
  dsimp only
  rw [hp]
  dsimp only
  rw [hr]
  dsimp only [cond_true]
  rw [qm_run_le P (Nat.le_max_left n n2) e]
  exact qm_run_le P (Nat.le_max_right n n2) e2
theorem qm_G.callv {y na mL : Nat} {ci : Option Nat} {as rest : List qm_V} (hc : cd pc = some (Sum.inr (Sum.inl (y, na, false, pc', ci, mL)))) (hp : qm_pop na [] st = some (as, rest)) (hr : (qm_rcv h ci as && (Nat.ble (qm_sum rest) (qm_wr y) && Nat.ble (qm_sum as) mL)) = true) (k : qm_C P y as h (fun v h' => v = none ∧ qm_G P cd pc' lv rest h' Q)) : qm_G P cd pc lv st h Q := by
  obtain ⟨n, v, h2, e, rfl, n2, v2, h3, e2, q⟩ := k
  refine ⟨max n n2 + 1, v2, h3, ?_, q⟩
  rw [qm_run, hc]
  dsimp only
  rw [hp]
  dsimp only
  rw [hr]
  dsimp only [cond_true]
  rw [qm_run_le P (Nat.le_max_left n n2) e]
  exact qm_run_le P (Nat.le_max_right n n2) e2
/-- some steps that go straight on -/
def qm_steps (cd : qm_Cd) : Nat → Nat → qm_Lv → List qm_V → qm_Hp → Option (Nat × qm_Lv × List qm_V × qm_Hp)
  | 0, pc, lv, st, h => some (pc, lv, st, h)
  | n + 1, pc, lv, st, h => match cd pc with
    | some (Sum.inl f) => match f lv st h with
      | some q => qm_steps cd n q.1 q.2.1 q.2.2.1 q.2.2.2
      | none => none
    | _ => none
theorem qm_G.go (k : Nat) : ∀ {pc : Nat} {lv : qm_Lv} {st : List qm_V} {h : qm_Hp}, qm_steps cd k pc lv st h = some (pc', lv', st', h') → qm_G P cd pc' lv' st' h' Q → qm_G P cd pc lv st h Q := by
  induction k with
  | zero =>
    intro pc lv st h e g
    cases e
    exact g
  | succ k ih =>
    intro pc lv st h e g
    rw [qm_steps] at e
    cases hc : cd pc with
    | none => rw [hc] at e; cases e
    | some op =>
      rw [hc] at e
      rcases op with f | op
      · dsimp only at e
        cases hf : f lv st h with
        | none => rw [hf] at e; cases e
        | some q =>
          rw [hf] at e
          exact qm_G.op hc hf (ih e g)
      · cases e
end GL
