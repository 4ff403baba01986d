/-! THE SECOND LEVEL: ints as integers; what never changes of shapes and references -/
def qm_sh : Nat → Option qm_Sh := (qm_sel 39 (qm_sel 19 (qm_sel 9 (qm_sel 4 (qm_sel 2 (qm_sel 1 (fun _ => some (Sum.inl 0)) (fun _ => some (Sum.inl 1))) (qm_sel 3 (fun _ => some (Sum.inl 2)) (fun _ => some (Sum.inr (Sum.inl (0, 6)))))) (qm_sel 6 (qm_sel 5 (fun _ => some (Sum.inr (Sum.inl (7, 2)))) (fun _ => some (Sum.inr (Sum.inl (0, 6))))) (qm_sel 7 (fun _ => some (Sum.inr (Sum.inl (0, 6)))) (qm_sel 8 (fun _ => some (Sum.inr (Sum.inl (5, 8)))) (fun _ => some (Sum.inr (Sum.inr (7, 0, 3, 4)))))))) (qm_sel 14 (qm_sel 11 (qm_sel 10 (fun _ => some (Sum.inl 3)) (fun _ => some (Sum.inr (Sum.inl (0, 2))))) (qm_sel 12 (fun _ => some (Sum.inl 4)) (qm_sel 13 (fun _ => some (Sum.inr (Sum.inl (0, 5)))) (fun _ => some (Sum.inr (Sum.inl (0, 5))))))) (qm_sel 16 (qm_sel 15 (fun _ => some (Sum.inr (Sum.inl (0, 5)))) (fun _ => some (Sum.inr (Sum.inl (0, 8))))) (qm_sel 17 (fun _ => some (Sum.inr (Sum.inl (0, 8)))) (qm_sel 18 (fun _ => some (Sum.inr (Sum.inr (7, 0, 2, 17)))) (fun _ => some (Sum.inl 1))))))) (qm_sel 29 (qm_sel 24 (qm_sel 21 (qm_sel 20 (fun _ => some (Sum.inl 2)) (fun _ => some (Sum.inr (Sum.inl (0, 6))))) (qm_sel 22 (fun _ => some (Sum.inr (Sum.inl (7, 2)))) (qm_sel 23 (fun _ => some (Sum.inr (Sum.inl (0, 6)))) (fun _ => some (Sum.inr (Sum.inl (0, 6))))))) (qm_sel 26 (qm_sel 25 (fun _ => some (Sum.inr (Sum.inl (5, 8)))) (fun _ => some (Sum.inr (Sum.inr (7, 0, 3, 4))))) (qm_sel 27 (fun _ => some (Sum.inl 3)) (qm_sel 28 (fun _ => some (Sum.inr (Sum.inl (0, 2)))) (fun _ => some (Sum.inl 4)))))) (qm_sel 34 (qm_sel 31 (qm_sel 30 (fun _ => some (Sum.inr (Sum.inl (0, 5)))) (fun _ => some (Sum.inr (Sum.inl (0, 5))))) (qm_sel 32 (fun _ => some (Sum.inr (Sum.inl (0, 5)))) (qm_sel 33 (fun _ => some (Sum.inr (Sum.inl (0, 8)))) (fun _ => some (Sum.inr (Sum.inl (0, 8))))))) (qm_sel 36 (qm_sel 35 (fun _ => some (Sum.inr (Sum.inr (7, 0, 2, 17)))) (fun _ => some (Sum.inl 5))) (qm_sel 37 (fun _ => some (Sum.inr (Sum.inr (7, 0, 2, 7)))) (qm_sel 38 (fun _ => some (Sum.inr (Sum.inr (8, 2, 9, 17)))) (fun _ => some (Sum.inr (Sum.inr (7, 0, 9, 17)))))))))) (qm_sel 58 (qm_sel 48 (qm_sel 43 (qm_sel 41 (qm_sel 40 (fun _ => some (Sum.inr (Sum.inr (7, 0, 9, 17)))) (fun _ => some (Sum.inr (Sum.inr (8, 2, 9, 17))))) (qm_sel 42 (fun _ => some (Sum.inr (Sum.inr (9, 3, 9, 17)))) (fun _ => some (Sum.inl 6)))) (qm_sel 45 (qm_sel 44 (fun _ => some (Sum.inr (Sum.inl (1, 100)))) (fun _ => some (Sum.inr (Sum.inl (6, 12))))) (qm_sel 46 (fun _ => some (Sum.inr (Sum.inl (0, 12)))) (qm_sel 47 (fun _ => some (Sum.inr (Sum.inl (4, 6)))) (fun _ => some (Sum.inl 10)))))) (qm_sel 53 (qm_sel 50 (qm_sel 49 (fun _ => some (Sum.inr (Sum.inl (1, 16)))) (fun _ => some (Sum.inl 8))) (qm_sel 51 (fun _ => some (Sum.inr (Sum.inl (2, 60)))) (qm_sel 52 (fun _ => some (Sum.inl 8)) (fun _ => some (Sum.inr (Sum.inl (2, 60))))))) (qm_sel 55 (qm_sel 54 (fun _ => some (Sum.inl 8)) (fun _ => some (Sum.inr (Sum.inl (2, 60))))) (qm_sel 56 (fun _ => some (Sum.inl 8)) (qm_sel 57 (fun _ => some (Sum.inr (Sum.inl (2, 60)))) (fun _ => some (Sum.inl 8))))))) (qm_sel 68 (qm_sel 63 (qm_sel 60 (qm_sel 59 (fun _ => some (Sum.inr (Sum.inl (2, 60)))) (fun _ => some (Sum.inl 8))) (qm_sel 61 (fun _ => some (Sum.inr (Sum.inl (2, 60)))) (qm_sel 62 (fun _ => some (Sum.inl 9)) (fun _ => some (Sum.inr (Sum.inl (0, 127))))))) (qm_sel 65 (qm_sel 64 (fun _ => some (Sum.inr (Sum.inl (0, 127)))) (fun _ => some (Sum.inr (Sum.inl (2, 153))))) (qm_sel 66 (fun _ => some (Sum.inr (Sum.inl (0, 153)))) (qm_sel 67 (fun _ => some (Sum.inr (Sum.inl (2, 153)))) (fun _ => some (Sum.inr (Sum.inl (3, 153)))))))) (qm_sel 73 (qm_sel 70 (qm_sel 69 (fun _ => some (Sum.inr (Sum.inl (0, 14)))) (fun _ => some (Sum.inr (Sum.inl (0, 100))))) (qm_sel 71 (fun _ => some (Sum.inr (Sum.inl (0, 12)))) (qm_sel 72 (fun _ => some (Sum.inr (Sum.inl (0, 12)))) (fun _ => some (Sum.inr (Sum.inl (0, 40))))))) (qm_sel 75 (qm_sel 74 (fun _ => some (Sum.inr (Sum.inl (0, 6)))) (fun _ => some (Sum.inr (Sum.inl (0, 6))))) (qm_sel 76 (fun _ => some (Sum.inr (Sum.inl (2, 360)))) (qm_sel 77 (fun _ => some (Sum.inr (Sum.inl (2, 60)))) (fun _ => some (Sum.inr (Sum.inl (0, 26)))))))))))
def qm_rf (r i : Nat) : Option Nat := (qm_sel 39 (qm_sel 19 (qm_sel 9 (qm_sel 4 (qm_sel 2 (qm_sel 1 (fun _ => qm_nth [1, 18, 78, 35, 42, 46, 47] i) (fun _ => qm_nth [2, 9, 11, 17] i)) (qm_sel 3 (fun _ => qm_nth [3, 4, 7, 78, 8] i) (fun _ => none))) (qm_sel 6 (qm_sel 5 (fun _ => qm_nth [5, 6] i) (fun _ => none)) (qm_sel 7 (fun _ => none) (qm_sel 8 (fun _ => none) (fun _ => none))))) (qm_sel 14 (qm_sel 11 (qm_sel 10 (fun _ => qm_nth [10] i) (fun _ => none)) (qm_sel 12 (fun _ => qm_nth [12, 13, 14, 78, 15, 16] i) (qm_sel 13 (fun _ => none) (fun _ => none)))) (qm_sel 16 (qm_sel 15 (fun _ => none) (fun _ => none)) (qm_sel 17 (fun _ => none) (qm_sel 18 (fun _ => none) (fun _ => qm_nth [19, 26, 28, 34] i)))))) (qm_sel 29 (qm_sel 24 (qm_sel 21 (qm_sel 20 (fun _ => qm_nth [20, 21, 24, 78, 25] i) (fun _ => none)) (qm_sel 22 (fun _ => qm_nth [22, 23] i) (qm_sel 23 (fun _ => none) (fun _ => none)))) (qm_sel 26 (qm_sel 25 (fun _ => none) (fun _ => none)) (qm_sel 27 (fun _ => qm_nth [27] i) (qm_sel 28 (fun _ => none) (fun _ => qm_nth [29, 30, 31, 78, 32, 33] i))))) (qm_sel 34 (qm_sel 31 (qm_sel 30 (fun _ => none) (fun _ => none)) (qm_sel 32 (fun _ => none) (qm_sel 33 (fun _ => none) (fun _ => none)))) (qm_sel 36 (qm_sel 35 (fun _ => none) (fun _ => qm_nth [36, 37, 38, 39, 40, 41] i)) (qm_sel 37 (fun _ => none) (qm_sel 38 (fun _ => none) (fun _ => none))))))) (qm_sel 58 (qm_sel 48 (qm_sel 43 (qm_sel 41 (qm_sel 40 (fun _ => none) (fun _ => none)) (qm_sel 42 (fun _ => none) (fun _ => qm_nth [43, 78, 78, 44, 45] i))) (qm_sel 45 (qm_sel 44 (fun _ => none) (fun _ => none)) (qm_sel 46 (fun _ => none) (qm_sel 47 (fun _ => qm_nth [49, 51, 53, 55, 57, 59] i) (fun _ => none))))) (qm_sel 53 (qm_sel 50 (qm_sel 49 (fun _ => none) (fun _ => qm_nth [50] i)) (qm_sel 51 (fun _ => none) (qm_sel 52 (fun _ => qm_nth [52] i) (fun _ => none)))) (qm_sel 55 (qm_sel 54 (fun _ => qm_nth [54] i) (fun _ => none)) (qm_sel 56 (fun _ => qm_nth [56] i) (qm_sel 57 (fun _ => none) (fun _ => qm_nth [58] i)))))) (qm_sel 68 (qm_sel 63 (qm_sel 60 (qm_sel 59 (fun _ => none) (fun _ => qm_nth [60] i)) (qm_sel 61 (fun _ => none) (qm_sel 62 (fun _ => qm_nth [62, 63, 78, 78, 78, 78, 78, 64, 65, 66, 67, 68, 78, 69, 70, 71, 78, 78, 78, 72, 73, 74, 75, 76] i) (fun _ => none)))) (qm_sel 65 (qm_sel 64 (fun _ => none) (fun _ => none)) (qm_sel 66 (fun _ => none) (qm_sel 67 (fun _ => none) (fun _ => none))))) (qm_sel 73 (qm_sel 70 (qm_sel 69 (fun _ => none) (fun _ => none)) (qm_sel 71 (fun _ => none) (qm_sel 72 (fun _ => none) (fun _ => none)))) (qm_sel 75 (qm_sel 74 (fun _ => none) (fun _ => none)) (qm_sel 76 (fun _ => none) (qm_sel 77 (fun _ => none) (fun _ => none)))))))) r
def qm_Sd (S : List qm_Sh) : Prop := ∀ r, Nat.blt r 78 = true → qm_nth S r = qm_sh r
def qm_Rd (R : qm_Ct (Option qm_Rf)) : Prop := ∀ r i q, qm_rf r i = some q → Nat.blt q 78 = true → R r 0 i = some (0, q, 0)
def qm_i (z : Int) : Int32 := Int32.ofInt z
def qm_b (z : Int) : Int8 := Int8.ofInt z
def qm_l (z : Int) : Int64 := Int64.ofInt z
abbrev qm_J : Type := Nat → Nat → Nat → Int
abbrev qm_H (S : List qm_Sh) (J K : qm_J) (L : qm_Ct Int64) (D : qm_Ct UInt64) (R : qm_Ct (Option qm_Rf)) (X : Nat × (Nat → Int32)) : qm_Hp := (S, (fun r s i => qm_i (J r s i)), (fun r s i => qm_b (K r s i)), L, D, R, X)
abbrev qm_sm (z : Int) : Prop := -2147483648 ≤ z ∧ z ≤ 2147483647
abbrev qm_sl (z : Int) : Prop := -9223372036854775808 ≤ z ∧ z ≤ 9223372036854775807
theorem qm_sm0 : qm_sm 0 := ⟨by decide, by decide⟩
theorem qm_i_int {z : Int} (h : qm_sm z) : (qm_i z).toInt = z := Int32.toInt_ofInt_of_le (by have := h.1; omega) (by have := h.2; omega)
theorem qm_l_int {z : Int} (h : qm_sl z) : (qm_l z).toInt = z := Int64.toInt_ofInt_of_le (by have := h.1; omega) (by have := h.2; omega)
theorem qm_i_self (a : Int32) : qm_i a.toInt = a := Int32.ofInt_toInt a
theorem qm_i_add (x y : Int) : qm_i x + qm_i y = qm_i (x + y) := (Int32.ofInt_add x y).symm
theorem qm_i_sub (x y : Int) : qm_i x - qm_i y = qm_i (x - y) := (Int32.ofInt_sub x y).symm
theorem qm_i_mul (x y : Int) : qm_i x * qm_i y = qm_i (x * y) := (Int32.ofInt_mul x y).symm
theorem qm_i_neg (x : Int) : -qm_i x = qm_i (-x) := (Int32.ofInt_neg x).symm
theorem qm_l_add (x y : Int) : qm_l x + qm_l y = qm_l (x + y) := (Int64.ofInt_add x y).symm
theorem qm_l_sub (x y : Int) : qm_l x - qm_l y = qm_l (x - y) := (Int64.ofInt_sub x y).symm
theorem qm_l_mul (x y : Int) : qm_l x * qm_l y = qm_l (x * y) := (Int64.ofInt_mul x y).symm
theorem qm_l_neg (x : Int) : -qm_l x = qm_l (-x) := (Int64.ofInt_neg x).symm
theorem qm_i_lt {x y : Int} (hx : qm_sm x) (hy : qm_sm y) : qm_i x < qm_i y ↔ x < y := by rw [Int32.lt_iff_toInt_lt, qm_i_int hx, qm_i_int hy]
theorem qm_i_le {x y : Int} (hx : qm_sm x) (hy : qm_sm y) : qm_i x ≤ qm_i y ↔ x ≤ y := by rw [Int32.le_iff_toInt_le, qm_i_int hx, qm_i_int hy]
theorem qm_i_eq {x y : Int} (hx : qm_sm x) (hy : qm_sm y) : qm_i x = qm_i y ↔ x = y := ⟨fun h => by rw [← qm_i_int hx, ← qm_i_int hy, h], fun h => by rw [h]⟩
theorem qm_l_eq {x y : Int} (hx : qm_sl x) (hy : qm_sl y) : qm_l x = qm_l y ↔ x = y := ⟨fun h => by rw [← qm_l_int hx, ← qm_l_int hy, h], fun h => by rw [h]⟩
theorem qm_i_nat {z : Int} (h0 : 0 ≤ z) (h1 : z ≤ 2147483647) : (qm_i z).toNatClampNeg = z.toNat := by rw [Int32.toNatClampNeg, qm_i_int ⟨by omega, h1⟩]
theorem qm_i_sml (a : Int32) : qm_sm a.toInt := ⟨by have := Int32.le_toInt a; omega, by have := Int32.toInt_lt a; omega⟩
/-- a step -/
def qm_St (op : qm_Op) (lv : qm_Lv) (st : List qm_V) (h : qm_Hp) (n : Nat) (lv' : qm_Lv) (st' : List qm_V) (h' : qm_Hp) : Prop := match op with
  | Sum.inl f => f lv st h = some (n, lv', st', h')
  | _ => False
section G2
variable {P : Nat → qm_Cd} {cd : qm_Cd} {pc n : Nat} {lv lv' lv1 : qm_Lv} {st st' : List qm_V} {h h' : qm_Hp} {Q : Option qm_V → qm_Hp → Prop}
theorem qm_G.s1 {op : qm_Op} (hc : cd pc = some op) (hf : qm_St op lv st h n lv' st' h') (k : qm_G P cd n lv' st' h' Q) : qm_G P cd pc lv st h Q := by
  rcases op with f | o
  · exact qm_G.op hc hf k
  · cases hf
theorem qm_G.sp {op : qm_Op} {ks : List Nat} (hc : cd pc = some (qm_pr ks op)) (hl : qm_pick ks lv = lv1) (hf : qm_St op lv1 st h n lv' st' h') (k : qm_G P cd n lv' st' h' Q) : qm_G P cd pc lv st h Q := by
  rcases op with f | o
  · subst hl
    exact qm_G.op hc hf k
  · cases hf
theorem qm_G.pk {f : qm_Lv → List qm_V → qm_Hp → Option (Nat × qm_Lv × List qm_V × qm_Hp)} {ks : List Nat} (hc : cd pc = some (qm_pr ks (Sum.inl f))) (hl : qm_pick ks lv = lv1) (hl1 : qm_pick ks lv1 = lv1) (k : qm_G P cd pc lv1 st h Q) : qm_G P cd pc lv st h Q := by
  obtain ⟨m, v, h2, e, q⟩ := k
  refine ⟨m, v, h2, ?_, q⟩
  cases m with
  | zero => cases e
  | succ m =>
    rw [qm_run] at e ⊢
    rw [hc] at e ⊢
    dsimp only [qm_pr] at e ⊢
    rw [hl]
    rw [hl1] at e
    exact e
theorem qm_C.go {y : Nat} {as : List qm_V} (hP : P y = cd) (ha : qm_args 0 as = lv) (k : qm_G P cd 0 lv [] h Q) : qm_C P y as h Q := by
  subst hP
  subst ha
  exact k
end G2
section X2
variable {n : Nat} {lv lv' : qm_Lv} {st : List qm_V} {h : qm_Hp} {S : List qm_Sh} {J K : qm_J} {L : qm_Ct Int64} {D : qm_Ct UInt64} {R : qm_Ct (Option qm_Rf)} {X : Nat × (Nat → Int32)} {x y v z : Int} {r s len rows t : Nat}
theorem qm_x_pushI (z : Int) {a : Int32} (hv : a = qm_i z) : qm_St (qm_o_push (qm_I a) n) lv st h n lv (qm_I (qm_i z) :: st) h := by subst hv; rfl
theorem qm_x_pushL (z : Int) {a : Int64} (hv : a = qm_l z) : qm_St (qm_o_push (qm_L a) n) lv st h n lv (qm_L (qm_l z) :: st) h := by subst hv; rfl
theorem qm_x_push {v : qm_V} : qm_St (qm_o_push v n) lv st h n lv (v :: st) h := rfl
theorem qm_x_iload {i : Nat} {a : Int32} (hl : qm_ld lv i = some (qm_I a)) : qm_St (qm_o_iload i n) lv st h n lv (qm_I a :: st) h := by show (match qm_ld lv i with | some (Sum.inl x) => _ | _ => _) = _; rw [hl]
theorem qm_x_lload {i : Nat} {a : Int64} (hl : qm_ld lv i = some (qm_L a)) : qm_St (qm_o_lload i n) lv st h n lv (qm_L a :: st) h := by show (match qm_ld lv i with | some (Sum.inr (Sum.inl x)) => _ | _ => _) = _; rw [hl]
theorem qm_x_fload {i : Nat} {a : UInt32} (hl : qm_ld lv i = some (qm_F a)) : qm_St (qm_o_fload i n) lv st h n lv (qm_F a :: st) h := by show (match qm_ld lv i with | some (Sum.inr (Sum.inr (Sum.inl x))) => _ | _ => _) = _; rw [hl]
theorem qm_x_dload {i : Nat} {a : UInt64} (hl : qm_ld lv i = some (qm_D a)) : qm_St (qm_o_dload i n) lv st h n lv (qm_D a :: st) h := by show (match qm_ld lv i with | some (Sum.inr (Sum.inr (Sum.inr (Sum.inl x)))) => _ | _ => _) = _; rw [hl]
theorem qm_x_aload {i : Nat} {a : Option qm_Rf} (hl : qm_ld lv i = some (qm_R a)) : qm_St (qm_o_aload i n) lv st h n lv (qm_R a :: st) h := by show (match qm_ld lv i with | some (Sum.inr (Sum.inr (Sum.inr (Sum.inr x)))) => _ | _ => _) = _; rw [hl]
theorem qm_x_istore {i : Nat} {a : Int32} (hl : qm_st1 lv i (qm_I a) = lv') : qm_St (qm_o_istore i n) lv (qm_I a :: st) h n lv' st h := by subst hl; rfl
theorem qm_x_lstore {i : Nat} {a : Int64} (hl : qm_st2 lv i (qm_L a) = lv') : qm_St (qm_o_lstore i n) lv (qm_L a :: st) h n lv' st h := by subst hl; rfl
theorem qm_x_fstore {i : Nat} {a : UInt32} (hl : qm_st1 lv i (qm_F a) = lv') : qm_St (qm_o_fstore i n) lv (qm_F a :: st) h n lv' st h := by subst hl; rfl
theorem qm_x_dstore {i : Nat} {a : UInt64} (hl : qm_st2 lv i (qm_D a) = lv') : qm_St (qm_o_dstore i n) lv (qm_D a :: st) h n lv' st h := by subst hl; rfl
theorem qm_x_astore {i : Nat} {a : Option qm_Rf} (hl : qm_st1 lv i (qm_R a) = lv') : qm_St (qm_o_astore i n) lv (qm_R a :: st) h n lv' st h := by subst hl; rfl
theorem qm_x_iinc {i : Nat} {d : Int32} (w : Int) (hd : d = qm_i w) (hl : qm_ld lv i = some (qm_I (qm_i x))) (hs : qm_st1 lv i (qm_I (qm_i (x + w))) = lv') : qm_St (qm_o_iinc i d n) lv st h n lv' st h := by
  subst hd
  subst hs
  show (match qm_ld lv i with | some (Sum.inl x) => _ | _ => _) = _
  rw [hl]
  show some _ = some _
  rw [qm_i_add]
theorem qm_x_iadd : qm_St (qm_o_iadd n) lv (qm_I (qm_i y) :: qm_I (qm_i x) :: st) h n lv (qm_I (qm_i (x + y)) :: st) h := by show some _ = some _; rw [qm_i_add]
theorem qm_x_isub : qm_St (qm_o_isub n) lv (qm_I (qm_i y) :: qm_I (qm_i x) :: st) h n lv (qm_I (qm_i (x - y)) :: st) h := by show some _ = some _; rw [qm_i_sub]
theorem qm_x_imul : qm_St (qm_o_imul n) lv (qm_I (qm_i y) :: qm_I (qm_i x) :: st) h n lv (qm_I (qm_i (x * y)) :: st) h := by show some _ = some _; rw [qm_i_mul]
theorem qm_x_ineg : qm_St (qm_o_ineg n) lv (qm_I (qm_i x) :: st) h n lv (qm_I (qm_i (-x)) :: st) h := by show some _ = some _; rw [qm_i_neg]
theorem qm_i_tdiv {x y : Int} (hx : qm_sm x) (hy : qm_sm y) (h0 : y ≠ 0) (hm : x ≠ -2147483648) : qm_i x / qm_i y = qm_i (x.tdiv y) := (Int32.ofInt_tdiv (show Int32.minValue.toInt ≤ x from hx.1) (show x ≤ Int32.maxValue.toInt from hx.2) (show Int32.minValue.toInt ≤ y from hy.1) (show y ≤ Int32.maxValue.toInt from hy.2)).symm
theorem qm_x_idiv (hx : qm_sm x) (hy : qm_sm y) (h0 : y ≠ 0) (hm : x ≠ -2147483648) : qm_St (qm_o_idiv n) lv (qm_I (qm_i y) :: qm_I (qm_i x) :: st) h n lv (qm_I (qm_i (x.tdiv y)) :: st) h := by
  have hn : ¬ qm_i y = (0 : Int32) := fun e => h0 ((qm_i_eq hy qm_sm0).mp e)
  show (if qm_i y = (0 : Int32) then none else some _) = some _
  rw [if_neg hn, qm_i_tdiv hx hy h0 hm]
theorem qm_x_irem (hx : qm_sm x) (hy : qm_sm y) (h0 : y ≠ 0) (hm : x ≠ -2147483648) : qm_St (qm_o_irem n) lv (qm_I (qm_i y) :: qm_I (qm_i x) :: st) h n lv (qm_I (qm_i (x - x.tdiv y * y)) :: st) h := by
  have hn : ¬ qm_i y = (0 : Int32) := fun e => h0 ((qm_i_eq hy qm_sm0).mp e)
  show (if qm_i y = (0 : Int32) then none else some _) = some _
  rw [if_neg hn, qm_i_tdiv hx hy h0 hm, qm_i_mul, qm_i_sub]
theorem qm_x_goto : qm_St (qm_o_goto n) lv st h n lv st h := rfl
theorem qm_x_dupI {a : Int32} : qm_St (qm_o_dup n) lv (qm_I a :: st) h n lv (qm_I a :: qm_I a :: st) h := rfl
theorem qm_x_dupR {a : Option qm_Rf} : qm_St (qm_o_dup n) lv (qm_R a :: st) h n lv (qm_R a :: qm_R a :: st) h := rfl
theorem qm_x_popI {a : Int32} : qm_St (qm_o_pop n) lv (qm_I a :: st) h n lv st h := rfl
theorem qm_x_popR {a : Option qm_Rf} : qm_St (qm_o_pop n) lv (qm_R a :: st) h n lv st h := rfl
theorem qm_x_dup_x1 {v w : qm_V} (hb : (Nat.beq (qm_cat v) 1 && Nat.beq (qm_cat w) 1) = true) : qm_St (qm_o_dup_x1 n) lv (v :: w :: st) h n lv (v :: w :: v :: st) h := by show (bif _ then _ else _) = _; rw [hb]; rfl
theorem qm_x_dup_x2 {v w u : qm_V} (hb : (Nat.beq (qm_cat v) 1 && (Nat.beq (qm_cat w) 1 && Nat.beq (qm_cat u) 1)) = true) : qm_St (qm_o_dup_x2 n) lv (v :: w :: u :: st) h n lv (v :: w :: u :: v :: st) h := by show (bif _ then _ else _) = _; rw [hb]; rfl
theorem qm_x_dup2 {v w : qm_V} (hb : (Nat.beq (qm_cat v) 1 && Nat.beq (qm_cat w) 1) = true) : qm_St (qm_o_dup2 n) lv (v :: w :: st) h n lv (v :: w :: v :: w :: st) h := by show (bif _ then _ else _) = _; rw [hb]; rfl
theorem qm_x_i2l (hx : qm_sm x) : qm_St (qm_o_i2l n) lv (qm_I (qm_i x) :: st) h n lv (qm_L (qm_l x) :: st) h := by
  show some _ = some _
  have e : (qm_i x).toInt64 = qm_l x := by
    rw [← Int64.ofInt_toInt (qm_i x).toInt64, Int32.toInt_toInt64, qm_i_int hx]; rfl
  rw [e]
theorem qm_x_l2i (hx : qm_sl x) : qm_St (qm_o_l2i n) lv (qm_L (qm_l x) :: st) h n lv (qm_I (qm_i x) :: st) h := by
  show some _ = some _
  have e : (qm_l x).toInt32 = qm_i x := by
    rw [← Int32.ofInt_int64ToInt, qm_l_int hx]
    rfl
  rw [e]
theorem qm_x_ladd {a b : Int64} : qm_St (qm_o_ladd n) lv (qm_L b :: qm_L a :: st) h n lv (qm_L (a + b) :: st) h := rfl
theorem qm_x_lsub {a b : Int64} : qm_St (qm_o_lsub n) lv (qm_L b :: qm_L a :: st) h n lv (qm_L (a - b) :: st) h := rfl
theorem qm_x_lmul {a b : Int64} : qm_St (qm_o_lmul n) lv (qm_L b :: qm_L a :: st) h n lv (qm_L (a * b) :: st) h := rfl
theorem qm_x_laddz : qm_St (qm_o_ladd n) lv (qm_L (qm_l y) :: qm_L (qm_l x) :: st) h n lv (qm_L (qm_l (x + y)) :: st) h := by show some _ = some _; rw [qm_l_add]
theorem qm_x_lsubz : qm_St (qm_o_lsub n) lv (qm_L (qm_l y) :: qm_L (qm_l x) :: st) h n lv (qm_L (qm_l (x - y)) :: st) h := by show some _ = some _; rw [qm_l_sub]
theorem qm_x_lmulz : qm_St (qm_o_lmul n) lv (qm_L (qm_l y) :: qm_L (qm_l x) :: st) h n lv (qm_L (qm_l (x * y)) :: st) h := by show some _ = some _; rw [qm_l_mul]
/-- arrays whose shape never changes -/
def qm_ar (ty r s : Nat) : Option (Nat × Nat × Nat) := match qm_sh r with
  | some (Sum.inr (Sum.inl (ty', n))) => bif Nat.beq ty' ty && Nat.beq s 0 then some (n, 1, 0) else none
  | some (Sum.inr (Sum.inr (tyo, tyi, n, k))) => match s with
    | 0 => bif Nat.beq tyo ty && Nat.ble 4 ty then some (n, 1, 0) else none
    | t + 1 => bif Nat.beq tyi ty && Nat.blt ty 4 then some (k, n, t) else none
  | _ => none
theorem qm_arS {ty : Nat} {q : Nat × Nat × Nat} (hS : qm_Sd S) (hr : Nat.blt r 78 = true) (ha : qm_ar ty r s = some q) : qm_arr ty (qm_H S J K L D R X) (0, r, s) = some q := by
  rw [← ha]
  unfold qm_ar
  rw [← hS r hr]
  rfl
theorem qm_x_iald (ha : qm_arr 0 (qm_H S J K L D R X) (0, r, s) = some (len, rows, t)) (hl : Nat.ble len 2147483647 = true) (h0 : 0 ≤ z) (h1 : z < len) (h2 : t < rows) (hv : J r s z.toNat = v) : qm_St (qm_o_iald n) lv (qm_I (qm_i z) :: qm_R (some (0, r, s)) :: st) (qm_H S J K L D R X) n lv (qm_I (qm_i v) :: st) (qm_H S J K L D R X) := by
  have hl' := Nat.le_of_ble_eq_true hl
  show (match qm_arr 0 (qm_H S J K L D R X) (0, r, s) with | some (len, rows, t) => _ | none => _) = _
  rw [ha]
  have hz : qm_sm z := ⟨by omega, by omega⟩
  show (if _ then _ else _) = _
  rw [if_neg (by
    rintro (c | c | c)
    · have := (qm_i_lt hz qm_sm0).mp c; omega
    · rw [qm_i_nat h0 hz.2] at c; omega
    · omega)]
  show some (n, lv, qm_I (qm_i (J r s (qm_i z).toNatClampNeg)) :: st, _) = _
  rw [qm_i_nat h0 hz.2, hv]
theorem qm_x_bald (ha : qm_arr 1 (qm_H S J K L D R X) (0, r, s) = some (len, rows, t)) (hl : Nat.ble len 2147483647 = true) (h0 : 0 ≤ z) (h1 : z < len) (h2 : t < rows) (hv : K r s z.toNat = v) (hb : -128 ≤ v ∧ v ≤ 127) : qm_St (qm_o_bald n) lv (qm_I (qm_i z) :: qm_R (some (0, r, s)) :: st) (qm_H S J K L D R X) n lv (qm_I (qm_i v) :: st) (qm_H S J K L D R X) := by
  have hl' := Nat.le_of_ble_eq_true hl
  show (match qm_arr 1 (qm_H S J K L D R X) (0, r, s) with | some (len, rows, t) => _ | none => _) = _
  rw [ha]
  have hz : qm_sm z := ⟨by omega, by omega⟩
  show (if _ then _ else _) = _
  rw [if_neg (by
    rintro (c | c | c)
    · have := (qm_i_lt hz qm_sm0).mp c; omega
    · rw [qm_i_nat h0 hz.2] at c; omega
    · omega)]
  show some (n, lv, qm_I (qm_b (K r s (qm_i z).toNatClampNeg)).toInt32 :: st, _) = _
  rw [qm_i_nat h0 hz.2, hv]
  have e : (qm_b v).toInt32 = qm_i v := by
    rw [← Int32.ofInt_toInt (qm_b v).toInt32, Int8.toInt_toInt32]
    show Int32.ofInt (Int8.ofInt v).toInt = _
    rw [Int8.toInt_ofInt_of_le (by omega) (by omega)]; rfl
  rw [e]
theorem qm_x_lald {a : Int64} (ha : qm_arr 2 (qm_H S J K L D R X) (0, r, s) = some (len, rows, t)) (hl : Nat.ble len 2147483647 = true) (h0 : 0 ≤ z) (h1 : z < len) (h2 : t < rows) (hv : L r s z.toNat = a) : qm_St (qm_o_lald n) lv (qm_I (qm_i z) :: qm_R (some (0, r, s)) :: st) (qm_H S J K L D R X) n lv (qm_L a :: st) (qm_H S J K L D R X) := by
  have hl' := Nat.le_of_ble_eq_true hl
  show (match qm_arr 2 (qm_H S J K L D R X) (0, r, s) with | some (len, rows, t) => _ | none => _) = _
  rw [ha]
  have hz : qm_sm z := ⟨by omega, by omega⟩
  show (if _ then _ else _) = _
  rw [if_neg (by
    rintro (c | c | c)
    · have := (qm_i_lt hz qm_sm0).mp c; omega
    · rw [qm_i_nat h0 hz.2] at c; omega
    · omega)]
  show some (n, lv, qm_L (L r s (qm_i z).toNatClampNeg) :: st, _) = _
  rw [qm_i_nat h0 hz.2, hv]
theorem qm_x_dald {a : UInt64} (ha : qm_arr 3 (qm_H S J K L D R X) (0, r, s) = some (len, rows, t)) (hl : Nat.ble len 2147483647 = true) (h0 : 0 ≤ z) (h1 : z < len) (h2 : t < rows) (hv : D r s z.toNat = a) : qm_St (qm_o_dald n) lv (qm_I (qm_i z) :: qm_R (some (0, r, s)) :: st) (qm_H S J K L D R X) n lv (qm_D a :: st) (qm_H S J K L D R X) := by
  have hl' := Nat.le_of_ble_eq_true hl
  show (match qm_arr 3 (qm_H S J K L D R X) (0, r, s) with | some (len, rows, t) => _ | none => _) = _
  rw [ha]
  have hz : qm_sm z := ⟨by omega, by omega⟩
  show (if _ then _ else _) = _
  rw [if_neg (by
    rintro (c | c | c)
    · have := (qm_i_lt hz qm_sm0).mp c; omega
    · rw [qm_i_nat h0 hz.2] at c; omega
    · omega)]
  show some (n, lv, qm_D (D r s (qm_i z).toNatClampNeg) :: st, _) = _
  rw [qm_i_nat h0 hz.2, hv]
/-- a place of the script -/
theorem qm_x_iald2 {r s : Nat} (h0 : 0 ≤ z) (h1 : z < X.1) (h2 : X.1 ≤ 3072) : qm_St (qm_o_iald n) lv (qm_I (qm_i z) :: qm_R (some (2, r, s)) :: st) (qm_H S J K L D R X) n lv (qm_I (qm_i (X.2 z.toNat).toInt) :: st) (qm_H S J K L D R X) := by
  have hz : qm_sm z := ⟨by omega, by omega⟩
  show (if _ then _ else _) = _
  rw [if_neg (by
    rintro (c | c | c)
    · have := (qm_i_lt hz qm_sm0).mp c; omega
    · rw [qm_i_nat h0 hz.2] at c
      have : X.1 ≤ z.toNat := c
      omega
    · exact absurd (show 1 ≤ 0 from c) (by omega))]
  show some (n, lv, qm_I (X.2 (qm_i z).toNatClampNeg) :: st, _) = _
  rw [qm_i_nat h0 hz.2, qm_i_self]
/-- a place of an array of ints that was given -/
theorem qm_x_iald1 {r s len : Nat} (ha : qm_arr 0 (qm_H S J K L D R X) (1, r, s) = some (len, 1, 0)) (hl : Nat.ble len 2147483647 = true) (h0 : 0 ≤ z) (h1 : z < len) (hv : qm_SI r z.toNat = qm_i v) : qm_St (qm_o_iald n) lv (qm_I (qm_i z) :: qm_R (some (1, r, s)) :: st) (qm_H S J K L D R X) n lv (qm_I (qm_i v) :: st) (qm_H S J K L D R X) := by
  have hl' := Nat.le_of_ble_eq_true hl
  show (match qm_arr 0 (qm_H S J K L D R X) (1, r, s) with | some (len, rows, t) => _ | none => _) = _
  rw [ha]
  have hz : qm_sm z := ⟨by omega, by omega⟩
  show (if _ then _ else _) = _
  rw [if_neg (by
    rintro (c | c | c)
    · have := (qm_i_lt hz qm_sm0).mp c; omega
    · rw [qm_i_nat h0 hz.2] at c; omega
    · omega)]
  show some (n, lv, qm_I (qm_SI r (qm_i z).toNatClampNeg) :: st, _) = _
  rw [qm_i_nat h0 hz.2, hv]
theorem qm_set_i {J : qm_J} {r s i : Nat} {v : Int} : qm_set (fun r s i => qm_i (J r s i)) r s i (qm_i v) = fun r' s' i' => qm_i (qm_set J r s i v r' s' i') := by
  funext r' s' i'
  unfold qm_set
  split <;> rfl
theorem qm_set_b {J : qm_J} {r s i : Nat} {v : Int} : qm_set (fun r s i => qm_b (J r s i)) r s i (qm_b v) = fun r' s' i' => qm_b (qm_set J r s i v r' s' i') := by
  funext r' s' i'
  unfold qm_set
  split <;> rfl
theorem qm_x_iast (ha : qm_arr 0 (qm_H S J K L D R X) (0, r, s) = some (len, rows, t)) (hl : Nat.ble len 2147483647 = true) (h0 : 0 ≤ z) (h1 : z < len) (h2 : t < rows) : qm_St (qm_o_iast n) lv (qm_I (qm_i v) :: qm_I (qm_i z) :: qm_R (some (0, r, s)) :: st) (qm_H S J K L D R X) n lv st (qm_H S (qm_set J r s z.toNat v) K L D R X) := by
  have hl' := Nat.le_of_ble_eq_true hl
  show (match qm_arr 0 (qm_H S J K L D R X) (0, r, s) with | some (len, rows, t) => _ | none => _) = _
  rw [ha]
  have hz : qm_sm z := ⟨by omega, by omega⟩
  show (if _ then _ else _) = _
  rw [if_neg (by
    rintro (c | c | c)
    · have := (qm_i_lt hz qm_sm0).mp c; omega
    · rw [qm_i_nat h0 hz.2] at c; omega
    · omega)]
  show some (n, lv, st, (S, qm_set (fun r s i => qm_i (J r s i)) r s (qm_i z).toNatClampNeg (qm_i v), _)) = _
  rw [qm_i_nat h0 hz.2, qm_set_i]
theorem qm_x_bast (ha : qm_arr 1 (qm_H S J K L D R X) (0, r, s) = some (len, rows, t)) (hl : Nat.ble len 2147483647 = true) (h0 : 0 ≤ z) (h1 : z < len) (h2 : t < rows) (hv : qm_sm v) : qm_St (qm_o_bast n) lv (qm_I (qm_i v) :: qm_I (qm_i z) :: qm_R (some (0, r, s)) :: st) (qm_H S J K L D R X) n lv st (qm_H S J (qm_set K r s z.toNat v) L D R X) := by
  have hl' := Nat.le_of_ble_eq_true hl
  show (match qm_arr 1 (qm_H S J K L D R X) (0, r, s) with | some (len, rows, t) => _ | none => _) = _
  rw [ha]
  have hz : qm_sm z := ⟨by omega, by omega⟩
  show (if _ then _ else _) = _
  rw [if_neg (by
    rintro (c | c | c)
    · have := (qm_i_lt hz qm_sm0).mp c; omega
    · rw [qm_i_nat h0 hz.2] at c; omega
    · omega)]
  have e : (qm_i v).toInt8 = qm_b v := by
    exact Int32.toInt8_ofInt
  show some (n, lv, st, (S, _, qm_set (fun r s i => qm_b (K r s i)) r s (qm_i z).toNatClampNeg (qm_i v).toInt8, _)) = _
  rw [qm_i_nat h0 hz.2, e, qm_set_b]
theorem qm_x_last {a : Int64} (ha : qm_arr 2 (qm_H S J K L D R X) (0, r, s) = some (len, rows, t)) (hl : Nat.ble len 2147483647 = true) (h0 : 0 ≤ z) (h1 : z < len) (h2 : t < rows) : qm_St (qm_o_last n) lv (qm_L a :: qm_I (qm_i z) :: qm_R (some (0, r, s)) :: st) (qm_H S J K L D R X) n lv st (qm_H S J K (qm_set L r s z.toNat a) D R X) := by
  have hl' := Nat.le_of_ble_eq_true hl
  show (match qm_arr 2 (qm_H S J K L D R X) (0, r, s) with | some (len, rows, t) => _ | none => _) = _
  rw [ha]
  have hz : qm_sm z := ⟨by omega, by omega⟩
  show (if _ then _ else _) = _
  rw [if_neg (by
    rintro (c | c | c)
    · have := (qm_i_lt hz qm_sm0).mp c; omega
    · rw [qm_i_nat h0 hz.2] at c; omega
    · omega)]
  show some (n, lv, st, (S, _, _, qm_set L r s (qm_i z).toNatClampNeg a, _)) = _
  rw [qm_i_nat h0 hz.2]
theorem qm_x_dast {a : UInt64} (ha : qm_arr 3 (qm_H S J K L D R X) (0, r, s) = some (len, rows, t)) (hl : Nat.ble len 2147483647 = true) (h0 : 0 ≤ z) (h1 : z < len) (h2 : t < rows) : qm_St (qm_o_dast n) lv (qm_D a :: qm_I (qm_i z) :: qm_R (some (0, r, s)) :: st) (qm_H S J K L D R X) n lv st (qm_H S J K L (qm_set D r s z.toNat a) R X) := by
  have hl' := Nat.le_of_ble_eq_true hl
  show (match qm_arr 3 (qm_H S J K L D R X) (0, r, s) with | some (len, rows, t) => _ | none => _) = _
  rw [ha]
  have hz : qm_sm z := ⟨by omega, by omega⟩
  show (if _ then _ else _) = _
  rw [if_neg (by
    rintro (c | c | c)
    · have := (qm_i_lt hz qm_sm0).mp c; omega
    · rw [qm_i_nat h0 hz.2] at c; omega
    · omega)]
  show some (n, lv, st, (S, _, _, _, qm_set D r s (qm_i z).toNatClampNeg a, _)) = _
  rw [qm_i_nat h0 hz.2]
/-- rows of a grid, and arrays of references -/
theorem qm_x_aaldg {a b : Nat} {len k : Nat} (hs : qm_nth S r = some (Sum.inr (Sum.inr (a, b, len, k)))) (hb : (Nat.ble 7 a && Nat.blt a 10) = true) (hl : Nat.ble len 2147483647 = true) (h0 : 0 ≤ z) (h1 : z < len) : qm_St (qm_o_aald n) lv (qm_I (qm_i z) :: qm_R (some (0, r, 0)) :: st) (qm_H S J K L D R X) n lv (qm_R (some (0, r, z.toNat + 1)) :: st) (qm_H S J K L D R X) := by
  have hl' := Nat.le_of_ble_eq_true hl
  have hz : qm_sm z := ⟨by omega, by omega⟩
  have e : qm_arrR (qm_H S J K L D R X) (0, r, 0) = some len := by
    show (match qm_nth S r with | some (Sum.inr (Sum.inl (ty, n))) => _ | some (Sum.inr (Sum.inr (tyo, _, n, _))) => _ | _ => _) = _
    rw [hs]
    show (bif Nat.ble 7 a && (Nat.blt a 10 && true) then some len else none) = some len
    rw [Bool.and_true, hb]
    rfl
  have e2 : qm_rdR (qm_H S J K L D R X) (0, r, 0) z.toNat = some (0, r, z.toNat + 1) := by
    show (match qm_nth S r with | some (Sum.inr (Sum.inr _)) => _ | _ => _) = _
    rw [hs]
  show (match qm_arrR (qm_H S J K L D R X) (0, r, 0) with | some len => _ | none => _) = _
  rw [e]
  show (if _ then _ else _) = _
  rw [if_neg (by
    rintro (c | c)
    · have := (qm_i_lt hz qm_sm0).mp c; omega
    · rw [qm_i_nat h0 hz.2] at c; omega)]
  rw [qm_i_nat h0 hz.2, e2]
theorem qm_x_aaldr {ty len : Nat} {q : Option qm_Rf} (hs : qm_nth S r = some (Sum.inr (Sum.inl (ty, len)))) (hb : (Nat.ble 4 ty && Nat.blt ty 10) = true) (hl : Nat.ble len 2147483647 = true) (h0 : 0 ≤ z) (h1 : z < len) (hv : R r 0 z.toNat = q) : qm_St (qm_o_aald n) lv (qm_I (qm_i z) :: qm_R (some (0, r, 0)) :: st) (qm_H S J K L D R X) n lv (qm_R q :: st) (qm_H S J K L D R X) := by
  have hl' := Nat.le_of_ble_eq_true hl
  have hz : qm_sm z := ⟨by omega, by omega⟩
  have e : qm_arrR (qm_H S J K L D R X) (0, r, 0) = some len := by
    show (match qm_nth S r with | some (Sum.inr (Sum.inl (ty, n))) => _ | some (Sum.inr (Sum.inr (tyo, _, n, _))) => _ | _ => _) = _
    rw [hs]
    show (bif Nat.ble 4 ty && (Nat.blt ty 10 && true) then some len else none) = some len
    rw [Bool.and_true, hb]
    rfl
  have e2 : qm_rdR (qm_H S J K L D R X) (0, r, 0) z.toNat = q := by
    show (match qm_nth S r with | some (Sum.inr (Sum.inr _)) => _ | _ => _) = _
    rw [hs]
    exact hv
  show (match qm_arrR (qm_H S J K L D R X) (0, r, 0) with | some len => _ | none => _) = _
  rw [e]
  show (if _ then _ else _) = _
  rw [if_neg (by
    rintro (c | c)
    · have := (qm_i_lt hz qm_sm0).mp c; omega
    · rw [qm_i_nat h0 hz.2] at c; omega)]
  rw [qm_i_nat h0 hz.2, e2]
theorem qm_x_getfI {ci k : Nat} (hs : qm_nth S r = some (Sum.inl ci)) (hv : J r 0 k = v) : qm_St (qm_o_getf ci k 0 n) lv (qm_R (some (0, r, 0)) :: st) (qm_H S J K L D R X) n lv (qm_I (qm_i v) :: st) (qm_H S J K L D R X) := by
  show (match qm_nth S r with | some (Sum.inl c) => _ | _ => _) = _
  rw [hs]
  show (bif Nat.beq ci ci && true then _ else _) = _
  rw [Nat.beq_refl, ← hv]
  rfl
theorem qm_x_getfD {ci k : Nat} {a : UInt64} (hs : qm_nth S r = some (Sum.inl ci)) (hv : D r 0 k = a) : qm_St (qm_o_getf ci k 3 n) lv (qm_R (some (0, r, 0)) :: st) (qm_H S J K L D R X) n lv (qm_D a :: st) (qm_H S J K L D R X) := by
  show (match qm_nth S r with | some (Sum.inl c) => _ | _ => _) = _
  rw [hs]
  show (bif Nat.beq ci ci && true then _ else _) = _
  rw [Nat.beq_refl, ← hv]
  rfl
theorem qm_x_getfR {ci k : Nat} {q : Option qm_Rf} (hs : qm_nth S r = some (Sum.inl ci)) (hv : R r 0 k = q) : qm_St (qm_o_getf ci k 4 n) lv (qm_R (some (0, r, 0)) :: st) (qm_H S J K L D R X) n lv (qm_R q :: st) (qm_H S J K L D R X) := by
  show (match qm_nth S r with | some (Sum.inl c) => _ | _ => _) = _
  rw [hs]
  show (bif Nat.beq ci ci && true then _ else _) = _
  rw [Nat.beq_refl, ← hv]
  rfl
theorem qm_x_putfI {ci k : Nat} (hs : qm_nth S r = some (Sum.inl ci)) : qm_St (qm_o_putf ci k 0 n) lv (qm_I (qm_i v) :: qm_R (some (0, r, 0)) :: st) (qm_H S J K L D R X) n lv st (qm_H S (qm_set J r 0 k v) K L D R X) := by
  show (match qm_nth S r with | some (Sum.inl c) => _ | _ => _) = _
  rw [hs]
  show (bif Nat.beq ci ci && true then _ else _) = _
  rw [Nat.beq_refl]
  show some (n, lv, st, (S, qm_set (fun r s i => qm_i (J r s i)) r 0 k (qm_i v), _)) = _
  rw [qm_set_i]
theorem qm_x_putfZ {ci k : Nat} (hs : qm_nth S r = some (Sum.inl ci)) (hz : v = 0 ∨ v = 1) : qm_St (qm_o_putf ci k 6 n) lv (qm_I (qm_i v) :: qm_R (some (0, r, 0)) :: st) (qm_H S J K L D R X) n lv st (qm_H S (qm_set J r 0 k v) K L D R X) := by
  show (match qm_nth S r with | some (Sum.inl c) => _ | _ => _) = _
  rw [hs]
  show (bif Nat.beq ci ci && true then _ else _) = _
  rw [Nat.beq_refl]
  show (bif decide (qm_i v = 0 ∨ qm_i v = 1) then some (n, lv, st, (S, qm_set (fun r s i => qm_i (J r s i)) r 0 k (qm_i v), _)) else none) = _
  rw [qm_set_i, decide_eq_true (hz.elim (fun e => Or.inl (by rw [e]; rfl)) (fun e => Or.inr (by rw [e]; rfl)))]
  rfl
theorem qm_x_putfD {ci k : Nat} {a : UInt64} (hs : qm_nth S r = some (Sum.inl ci)) : qm_St (qm_o_putf ci k 3 n) lv (qm_D a :: qm_R (some (0, r, 0)) :: st) (qm_H S J K L D R X) n lv st (qm_H S J K L (qm_set D r 0 k a) R X) := by
  show (match qm_nth S r with | some (Sum.inl c) => _ | _ => _) = _
  rw [hs]
  show (bif Nat.beq ci ci && true then _ else _) = _
  rw [Nat.beq_refl]
  rfl
theorem qm_x_putfR {ci k : Nat} {q : Option qm_Rf} (hs : qm_nth S r = some (Sum.inl ci)) : qm_St (qm_o_putf ci k 4 n) lv (qm_R q :: qm_R (some (0, r, 0)) :: st) (qm_H S J K L D R X) n lv st (qm_H S J K L D (qm_set R r 0 k q) X) := by
  show (match qm_nth S r with | some (Sum.inl c) => _ | _ => _) = _
  rw [hs]
  show (bif Nat.beq ci ci && true then _ else _) = _
  rw [Nat.beq_refl]
  rfl
end X2
section C2
variable {P : Nat → qm_Cd} {cd : qm_Cd} {pc pc' : Nat} {lv : qm_Lv} {st rest : List qm_V} {h : qm_Hp} {Q : Option qm_V → qm_Hp → Prop} {y na mL r : Nat} {as : List qm_V} {S : List qm_Sh} {J K : qm_J} {L : qm_Ct Int64} {D : qm_Ct UInt64} {R : qm_Ct (Option qm_Rf)} {X : Nat × (Nat → Int32)} {ci : Nat}
/-- a call whose receiver is an object of the run -/
theorem qm_G.cm (hc : cd pc = some (Sum.inr (Sum.inl (y, na, true, pc', some ci, mL)))) (hp : qm_pop na [] st = some (qm_R (some (0, r, 0)) :: as, rest)) (hs : qm_nth S r = some (Sum.inl ci)) (hr : (Nat.ble (qm_sum rest) (qm_wr y) && Nat.ble (qm_sum (qm_R (some (0, r, 0)) :: as)) mL) = true) (k : qm_C P y (qm_R (some (0, r, 0)) :: as) (qm_H S J K L D R X) (fun v h' => ∃ w, v = some w ∧ qm_G P cd pc' lv (w :: rest) h' Q)) : qm_G P cd pc lv st (qm_H S J K L D R X) Q := by
  refine qm_G.call hc hp ?_ k
  have e : qm_rcv (qm_H S J K L D R X) (some ci) (qm_R (some (0, r, 0)) :: as) = true := by
    show (match qm_nth S r with | some (Sum.inl c) => _ | _ => _) = _
    rw [hs]
    show (Nat.beq ci ci && true) = true
    rw [Nat.beq_refl]
    rfl
  rw [e, hr]
  rfl
theorem qm_G.cmv (hc : cd pc = some (Sum.inr (Sum.inl (y, na, false, pc', some ci, mL)))) (hp : qm_pop na [] st = some (qm_R (some (0, r, 0)) :: as, rest)) (hs : qm_nth S r = some (Sum.inl ci)) (hr : (Nat.ble (qm_sum rest) (qm_wr y) && Nat.ble (qm_sum (qm_R (some (0, r, 0)) :: as)) mL) = true) (k : qm_C P y (qm_R (some (0, r, 0)) :: as) (qm_H S J K L D R X) (fun v h' => v = none ∧ qm_G P cd pc' lv rest h' Q)) : qm_G P cd pc lv st (qm_H S J K L D R X) Q := by
  refine qm_G.callv hc hp ?_ k
  have e : qm_rcv (qm_H S J K L D R X) (some ci) (qm_R (some (0, r, 0)) :: as) = true := by
    show (match qm_nth S r with | some (Sum.inl c) => _ | _ => _) = _
    rw [hs]
    show (Nat.beq ci ci && true) = true
    rw [Nat.beq_refl]
    rfl
  rw [e, hr]
  rfl
theorem qm_G.cs (hc : cd pc = some (Sum.inr (Sum.inl (y, na, true, pc', none, mL)))) (hp : qm_pop na [] st = some (as, rest)) (hr : (Nat.ble (qm_sum rest) (qm_wr y) && Nat.ble (qm_sum as) mL) = true) (k : qm_C P y as h (fun v h' => ∃ w, v = some w ∧ qm_G P cd pc' lv (w :: rest) h' Q)) : qm_G P cd pc lv st h Q := qm_G.call hc hp hr k
theorem qm_G.csv (hc : cd pc = some (Sum.inr (Sum.inl (y, na, false, pc', none, mL)))) (hp : qm_pop na [] st = some (as, rest)) (hr : (Nat.ble (qm_sum rest) (qm_wr y) && Nat.ble (qm_sum as) mL) = true) (k : qm_C P y as h (fun v h' => v = none ∧ qm_G P cd pc' lv rest h' Q)) : qm_G P cd pc lv st h Q := qm_G.callv hc hp hr k
end C2
section X3
variable {n : Nat} {lv : qm_Lv} {st : List qm_V} {h : qm_Hp} {S : List qm_Sh} {J K : qm_J} {L : qm_Ct Int64} {D : qm_Ct UInt64} {R : qm_Ct (Option qm_Rf)} {X : Nat × (Nat → Int32)} {x v : Int} {r len ty t : Nat}
theorem qm_arD (hs : qm_nth S r = some (Sum.inr (Sum.inl (ty, len)))) : qm_arr ty (qm_H S J K L D R X) (0, r, 0) = some (len, 1, 0) := by
  show (match qm_nth S r with | some (Sum.inr (Sum.inl (ty', n))) => _ | some (Sum.inr (Sum.inr (tyo, tyi, n, k))) => _ | _ => _) = _
  rw [hs]
  show (bif Nat.beq ty ty && true then _ else _) = _
  rw [Nat.beq_refl]
  rfl
theorem qm_x_tsw {k : Int} {ts : List Nat} {d : Nat} (ht : qm_sw k ts d (qm_i x) = t) : qm_St (qm_o_tsw k ts d) lv (qm_I (qm_i x) :: st) h t lv st h := by
  subst ht
  rfl
theorem qm_x_tsweq {k : Int} {ts : List Nat} {d : Nat} (hx : x = v) (ht : qm_sw k ts d (qm_i v) = t) : qm_St (qm_o_tsw k ts d) lv (qm_I (qm_i x) :: st) h t lv st h := by
  subst hx
  subst ht
  rfl
theorem qm_sw_d {x : Int} (hx : qm_sm x) : ∀ (ts : List Nat) (k : Int) (d : Nat), (x < k ∨ k + ts.length ≤ x) → -2147483648 ≤ k → k + ts.length ≤ 2147483647 → qm_sw k ts d (qm_i x) = d := by
  intro ts
  induction ts with
  | nil => intro k d _ _ _; rfl
  | cons a ts ih =>
    intro k d h1 h2 h3
    simp only [List.length_cons] at h1 h3
    rw [qm_sw, if_neg, ih (k + 1) d (by omega) (by omega) (by omega)]
    intro e
    have := (qm_i_eq hx (y := k) ⟨h2, by omega⟩).mp e
    omega
theorem qm_x_tswd {k : Int} {ts : List Nat} {d m : Nat} (hm : ts.length = m) (hx : qm_sm x) (h1 : x < k ∨ k + m ≤ x) (h2 : -2147483648 ≤ k) (h3 : k + m ≤ 2147483647) : qm_St (qm_o_tsw k ts d) lv (qm_I (qm_i x) :: st) h d lv st h := by
  subst hm
  show some (qm_sw k ts d (qm_i x), _) = some _
  rw [qm_sw_d hx ts k d h1 h2 h3]
theorem qm_x_ifnull0 {t n : Nat} : qm_St (qm_o_ifnull t n) lv (qm_R none :: st) h t lv st h := rfl
theorem qm_x_ifnull1 {t n : Nat} {a : qm_Rf} : qm_St (qm_o_ifnull t n) lv (qm_R (some a) :: st) h n lv st h := rfl
theorem qm_x_ifnonnull0 {t n : Nat} : qm_St (qm_o_ifnonnull t n) lv (qm_R none :: st) h n lv st h := rfl
theorem qm_x_ifnonnull1 {t n : Nat} {a : qm_Rf} : qm_St (qm_o_ifnonnull t n) lv (qm_R (some a) :: st) h t lv st h := rfl
theorem qm_x_idup : qm_St (qm_o_goto n) lv st h n lv st h := rfl
theorem qm_lg_eq {a b : Int64} (e : b = a) : lg_cmp b a = qm_i 0 := (lg_cmp_eq b a).mpr e
theorem qm_lg_gt {a b : Int64} (e : a < b) : lg_cmp b a = qm_i 1 := by unfold lg_cmp; rw [if_pos e]; rfl
theorem qm_lg_lt {a b : Int64} (e : b < a) : lg_cmp b a = qm_i (-1) := by
  unfold lg_cmp
  rw [Int64.lt_iff_toInt_lt] at e
  rw [if_neg (by rw [gt_iff_lt, Int64.lt_iff_toInt_lt]; omega), if_neg (by rw [← Int64.toInt_inj]; omega)]
  rfl
theorem qm_x_lcmp_eq {a b : Int64} (e : b = a) : qm_St (qm_o_lcmp n) lv (qm_L a :: qm_L b :: st) h n lv (qm_I (qm_i 0) :: st) h := by show some _ = some _; rw [qm_lg_eq e]
theorem qm_x_lcmp_gt {a b : Int64} (e : a < b) : qm_St (qm_o_lcmp n) lv (qm_L a :: qm_L b :: st) h n lv (qm_I (qm_i 1) :: st) h := by show some _ = some _; rw [qm_lg_gt e]
theorem qm_x_lcmp_lt {a b : Int64} (e : b < a) : qm_St (qm_o_lcmp n) lv (qm_L a :: qm_L b :: st) h n lv (qm_I (qm_i (-1)) :: st) h := by show some _ = some _; rw [qm_lg_lt e]
theorem qm_l_lt {x y : Int} (hx : qm_sl x) (hy : qm_sl y) : qm_l x < qm_l y ↔ x < y := by rw [Int64.lt_iff_toInt_lt, qm_l_int hx, qm_l_int hy]
theorem qm_y_lcmpr {P : Nat → qm_Cd} {cd : qm_Cd} {Q : Option qm_V → qm_Hp → Prop} {pc : Nat} {a b : Int64} (hc : cd pc = some (qm_o_lcmp n)) (k1 : b < a → qm_G P cd n lv (qm_I (qm_i (-1)) :: st) h Q) (k2 : b = a → qm_G P cd n lv (qm_I (qm_i 0) :: st) h Q) (k3 : a < b → qm_G P cd n lv (qm_I (qm_i 1) :: st) h Q) : qm_G P cd pc lv (qm_L a :: qm_L b :: st) h Q := by
  rcases (show b.toInt < a.toInt ∨ b.toInt = a.toInt ∨ a.toInt < b.toInt by omega) with e | e | e
  · have e := Int64.lt_iff_toInt_lt.mpr e
    exact qm_G.s1 hc (qm_x_lcmp_lt e) (k1 e)
  · have e := Int64.toInt_inj.mp e
    exact qm_G.s1 hc (qm_x_lcmp_eq e) (k2 e)
  · have e := Int64.lt_iff_toInt_lt.mpr e
    exact qm_G.s1 hc (qm_x_lcmp_gt e) (k3 e)
theorem qm_y_lcmp {P : Nat → qm_Cd} {cd : qm_Cd} {Q : Option qm_V → qm_Hp → Prop} {pc : Nat} {x y : Int} (hc : cd pc = some (qm_o_lcmp n)) (hx : qm_sl x) (hy : qm_sl y) (k1 : x < y → qm_G P cd n lv (qm_I (qm_i (-1)) :: st) h Q) (k2 : x = y → qm_G P cd n lv (qm_I (qm_i 0) :: st) h Q) (k3 : y < x → qm_G P cd n lv (qm_I (qm_i 1) :: st) h Q) : qm_G P cd pc lv (qm_L (qm_l y) :: qm_L (qm_l x) :: st) h Q :=
  qm_y_lcmpr hc (fun e => k1 ((qm_l_lt hx hy).mp e)) (fun e => k2 ((qm_l_eq hx hy).mp e)) (fun e => k3 ((qm_l_lt hy hx).mp e))
theorem qm_x_lcmpz_eq {x y : Int} (e : x = y) : qm_St (qm_o_lcmp n) lv (qm_L (qm_l y) :: qm_L (qm_l x) :: st) h n lv (qm_I (qm_i 0) :: st) h := qm_x_lcmp_eq (by rw [e])
theorem qm_x_lcmpz_gt {x y : Int} (hx : qm_sl x) (hy : qm_sl y) (e : y < x) : qm_St (qm_o_lcmp n) lv (qm_L (qm_l y) :: qm_L (qm_l x) :: st) h n lv (qm_I (qm_i 1) :: st) h := qm_x_lcmp_gt ((qm_l_lt hy hx).mpr e)
theorem qm_x_lcmpz_lt {x y : Int} (hx : qm_sl x) (hy : qm_sl y) (e : x < y) : qm_St (qm_o_lcmp n) lv (qm_L (qm_l y) :: qm_L (qm_l x) :: st) h n lv (qm_I (qm_i (-1)) :: st) h := qm_x_lcmp_lt ((qm_l_lt hx hy).mpr e)
theorem qm_x_i2b (hb : -128 ≤ x ∧ x ≤ 127) : qm_St (qm_o_i2b n) lv (qm_I (qm_i x) :: st) h n lv (qm_I (qm_i x) :: st) h := by
  show some _ = some _
  have e : (qm_i x).toInt8.toInt32 = qm_i x := by
    rw [← Int32.ofInt_toInt (qm_i x).toInt8.toInt32, Int8.toInt_toInt32, show (qm_i x).toInt8 = Int8.ofInt x from Int32.toInt8_ofInt, Int8.toInt_ofInt_of_le (by omega) (by omega)]
    rfl
  rw [e]
theorem qm_x_i2br : qm_St (qm_o_i2b n) lv (qm_I (qm_i x) :: st) h n lv (qm_I (qm_i (qm_i x).toInt8.toInt) :: st) h := by
  show some _ = some _
  rw [show (qm_i x).toInt8.toInt32 = qm_i (qm_i x).toInt8.toInt by rw [← Int32.ofInt_toInt (qm_i x).toInt8.toInt32, Int8.toInt_toInt32]; rfl]
theorem qm_x_i2sr : qm_St (qm_o_i2s n) lv (qm_I (qm_i x) :: st) h n lv (qm_I (qm_i (qm_i x).toInt16.toInt) :: st) h := by
  show some _ = some _
  rw [show (qm_i x).toInt16.toInt32 = qm_i (qm_i x).toInt16.toInt by rw [← Int32.ofInt_toInt (qm_i x).toInt16.toInt32, Int16.toInt_toInt32]; rfl]
theorem qm_sm8 (a : Int8) : qm_sm a.toInt := ⟨by have := Int8.le_toInt a; omega, by have := Int8.toInt_lt a; omega⟩
theorem qm_sm16 (a : Int16) : qm_sm a.toInt := ⟨by have := Int16.le_toInt a; omega, by have := Int16.toInt_lt a; omega⟩
theorem qm_x_l2ir {a : Int64} : qm_St (qm_o_l2i n) lv (qm_L a :: st) h n lv (qm_I (qm_i a.toInt32.toInt) :: st) h := by
  show some _ = some _
  rw [qm_i_self]
theorem qm_x_lshl {a : Int64} {y : Int} : qm_St (qm_o_lshl n) lv (qm_I (qm_i y) :: qm_L a :: st) h n lv (qm_L (a <<< ((qm_i y).toInt64 &&& 63)) :: st) h := rfl
theorem qm_x_land {a b : Int64} : qm_St (qm_o_land n) lv (qm_L b :: qm_L a :: st) h n lv (qm_L (a &&& b) :: st) h := rfl
theorem qm_x_lor {a b : Int64} : qm_St (qm_o_lor n) lv (qm_L b :: qm_L a :: st) h n lv (qm_L (a ||| b) :: st) h := rfl
theorem qm_x_lneg {a : Int64} : qm_St (qm_o_lneg n) lv (qm_L a :: st) h n lv (qm_L (-a) :: st) h := rfl
theorem qm_x_lnegz {y : Int} : qm_St (qm_o_lneg n) lv (qm_L (qm_l y) :: st) h n lv (qm_L (qm_l (-y)) :: st) h := by show some _ = some _; rw [qm_l_neg]
theorem qm_x_alen1 {r s len : Nat} (hl : qm_len (qm_H S J K L D R X) (1, r, s) = some (len, 1, 0)) : qm_St (qm_o_alen n) lv (qm_R (some (1, r, s)) :: st) (qm_H S J K L D R X) n lv (qm_I (qm_i len) :: st) (qm_H S J K L D R X) := by
  show (match qm_len (qm_H S J K L D R X) (1, r, s) with | some (len, rows, t) => _ | none => _) = _
  rw [hl]
  rfl
theorem qm_x_alen2 {r s : Nat} : qm_St (qm_o_alen n) lv (qm_R (some (2, r, s)) :: st) (qm_H S J K L D R X) n lv (qm_I (qm_i X.1) :: st) (qm_H S J K L D R X) := rfl
theorem qm_x_alen (hs : qm_nth S r = some (Sum.inr (Sum.inl (ty, len)))) (hb : Nat.blt ty 10 = true) : qm_St (qm_o_alen n) lv (qm_R (some (0, r, 0)) :: st) (qm_H S J K L D R X) n lv (qm_I (qm_i len) :: st) (qm_H S J K L D R X) := by
  have e : qm_len (qm_H S J K L D R X) (0, r, 0) = some (len, 1, 0) := by
    show (match qm_nth S r with | some (Sum.inr (Sum.inl (ty, n))) => _ | some (Sum.inr (Sum.inr (tyo, tyi, n, k))) => _ | _ => _) = _
    rw [hs]
    show (bif true && Nat.blt ty 10 then _ else _) = _
    rw [hb]
    rfl
  show (match qm_len (qm_H S J K L D R X) (0, r, 0) with | some (len, rows, t) => _ | none => _) = _
  rw [e]
  rfl
theorem qm_x_aleng {a b k : Nat} (hs : qm_nth S r = some (Sum.inr (Sum.inr (a, b, len, k)))) (hb : Nat.blt a 10 = true) : qm_St (qm_o_alen n) lv (qm_R (some (0, r, 0)) :: st) (qm_H S J K L D R X) n lv (qm_I (qm_i len) :: st) (qm_H S J K L D R X) := by
  have e : qm_len (qm_H S J K L D R X) (0, r, 0) = some (len, 1, 0) := by
    show (match qm_nth S r with | some (Sum.inr (Sum.inl (ty, n))) => _ | some (Sum.inr (Sum.inr (tyo, tyi, n, k))) => _ | _ => _) = _
    rw [hs]
    show (bif Nat.blt a 10 then _ else _) = _
    rw [hb]
    rfl
  show (match qm_len (qm_H S J K L D R X) (0, r, 0) with | some (len, rows, t) => _ | none => _) = _
  rw [e]
  rfl
theorem qm_x_alenr {a b k t : Nat} (hs : qm_nth S r = some (Sum.inr (Sum.inr (a, b, len, k)))) (hb : Nat.blt b 10 = true) (ht : t < len) : qm_St (qm_o_alen n) lv (qm_R (some (0, r, t + 1)) :: st) (qm_H S J K L D R X) n lv (qm_I (qm_i k) :: st) (qm_H S J K L D R X) := by
  have e : qm_len (qm_H S J K L D R X) (0, r, t + 1) = some (k, len, t) := by
    show (match qm_nth S r with | some (Sum.inr (Sum.inl (ty, n))) => _ | some (Sum.inr (Sum.inr (tyo, tyi, n, k))) => _ | _ => _) = _
    rw [hs]
    show (bif Nat.blt b 10 then _ else _) = _
    rw [hb]
    rfl
  show (match qm_len (qm_H S J K L D R X) (0, r, t + 1) with | some (len, rows, t) => _ | none => _) = _
  rw [e]
  show (if len ≤ t then none else _) = _
  rw [if_neg (by omega)]
  rfl
theorem qm_x_idivp (hx : qm_sm x) (h0 : 0 ≤ x) {y : Int} (hy : qm_sm y) (h1 : 0 < y) : qm_St (qm_o_idiv n) lv (qm_I (qm_i y) :: qm_I (qm_i x) :: st) h n lv (qm_I (qm_i (x / y)) :: st) h := by
  rw [← Int.tdiv_eq_ediv_of_nonneg h0]
  exact qm_x_idiv hx hy (by omega) (by omega)
theorem qm_x_iremp (hx : qm_sm x) (h0 : 0 ≤ x) {y : Int} (hy : qm_sm y) (h1 : 0 < y) : qm_St (qm_o_irem n) lv (qm_I (qm_i y) :: qm_I (qm_i x) :: st) h n lv (qm_I (qm_i (x % y)) :: st) h := by
  have e : x % y = x - x.tdiv y * y := by
    rw [Int.tdiv_eq_ediv_of_nonneg h0, Int.mul_comm]
    have := Int.mul_ediv_add_emod x y
    omega
  rw [e]
  exact qm_x_irem hx hy (by omega) (by omega)
theorem qm_i_shr4 : ∀ a : Nat, a < 16 → ∀ p : Nat, p < 4 → qm_i (a : Int) >>> (qm_i (p : Int) &&& 31) = qm_i (a / 2 ^ p : Nat) := by decide +kernel
theorem qm_i_and1 : ∀ a : Nat, a < 16 → qm_i (a : Int) &&& qm_i 1 = qm_i (a % 2 : Nat) := by decide +kernel
theorem qm_x_ishr4 {p : Nat} (hx : 0 ≤ x ∧ x ≤ 15) (hp : p < 4) {y : Int} (hy : y = p) {v : Int} (hv : v = x / 2 ^ p) : qm_St (qm_o_ishr n) lv (qm_I (qm_i y) :: qm_I (qm_i x) :: st) h n lv (qm_I (qm_i v) :: st) h := by
  show some (n, lv, qm_I (qm_i x >>> (qm_i y &&& 31)) :: st, h) = _
  subst hy
  subst hv
  obtain ⟨a, rfl⟩ := Int.eq_ofNat_of_zero_le hx.1
  rw [qm_i_shr4 a (by omega) p hp]
  rfl
theorem qm_x_iand1 (hx : 0 ≤ x ∧ x ≤ 15) : qm_St (qm_o_iand n) lv (qm_I (qm_i 1) :: qm_I (qm_i x) :: st) h n lv (qm_I (qm_i (x % 2)) :: st) h := by
  show some (n, lv, qm_I (qm_i x &&& qm_i 1) :: st, h) = _
  obtain ⟨a, rfl⟩ := Int.eq_ofNat_of_zero_le hx.1
  rw [qm_i_and1 a (by omega)]
  rfl
theorem qm_y_iand63 {P : Nat → qm_Cd} {cd : qm_Cd} {Q : Option qm_V → qm_Hp → Prop} {pc : Nat} (hc : cd pc = some (qm_o_iand n)) (k : ∀ w : Int, 0 ≤ w → w ≤ 63 → qm_G P cd n lv (qm_I (qm_i w) :: st) h Q) : qm_G P cd pc lv (qm_I (qm_i 63) :: qm_I (qm_i x) :: st) h Q := by
  have e : (qm_i x &&& qm_i 63).toBitVec.toNat ≤ 63 := by
    rw [Int32.toBitVec_and, BitVec.toNat_and]
    exact Nat.and_le_right
  refine qm_G.s1 hc (show qm_St _ _ _ _ _ _ (qm_I (qm_i (qm_i x &&& qm_i 63).toInt) :: st) _ by rw [qm_i_self]; rfl) (k _ ?_ ?_)
  · rw [← Int32.toInt_toBitVec, BitVec.toInt_eq_toNat_of_lt (by omega)]
    omega
  · rw [← Int32.toInt_toBitVec, BitVec.toInt_eq_toNat_of_lt (by omega)]
    omega
end X3

theorem qm_x_icmp_eq_t {t n : Nat} {lv : qm_Lv} {st : List qm_V} {h : qm_Hp} {x y : Int} (hx : qm_sm x) (hy : qm_sm y) (c : x = y) : qm_St (qm_o_icmp_eq t n) lv (qm_I (qm_i y) :: qm_I (qm_i x) :: st) h t lv st h := if_pos ((qm_i_eq hx hy).mpr c)
theorem qm_x_icmp_eq_f {t n : Nat} {lv : qm_Lv} {st : List qm_V} {h : qm_Hp} {x y : Int} (hx : qm_sm x) (hy : qm_sm y) (c : ¬ x = y) : qm_St (qm_o_icmp_eq t n) lv (qm_I (qm_i y) :: qm_I (qm_i x) :: st) h n lv st h := if_neg (fun h => c ((qm_i_eq hx hy).mp h))
theorem qm_y_icmp_eq {P : Nat → qm_Cd} {cd : qm_Cd} {Q : Option qm_V → qm_Hp → Prop} {pc t n : Nat} {lv : qm_Lv} {st : List qm_V} {h : qm_Hp} {x y : Int} (hc : cd pc = some (qm_o_icmp_eq t n)) (hx : qm_sm x) (hy : qm_sm y) (k1 : x = y → qm_G P cd t lv st h Q) (k2 : ¬ x = y → qm_G P cd n lv st h Q) : qm_G P cd pc lv (qm_I (qm_i y) :: qm_I (qm_i x) :: st) h Q := (Decidable.em (x = y)).elim (fun c => qm_G.s1 hc (qm_x_icmp_eq_t hx hy c) (k1 c)) (fun c => qm_G.s1 hc (qm_x_icmp_eq_f hx hy c) (k2 c))
theorem qm_x_if_eq_t {t n : Nat} {lv : qm_Lv} {st : List qm_V} {h : qm_Hp} {x : Int} (hx : qm_sm x) (c : x = 0) : qm_St (qm_o_if_eq t n) lv (qm_I (qm_i x) :: st) h t lv st h := if_pos ((qm_i_eq hx qm_sm0).mpr c)
theorem qm_x_if_eq_f {t n : Nat} {lv : qm_Lv} {st : List qm_V} {h : qm_Hp} {x : Int} (hx : qm_sm x) (c : ¬ x = 0) : qm_St (qm_o_if_eq t n) lv (qm_I (qm_i x) :: st) h n lv st h := if_neg (fun h => c ((qm_i_eq hx qm_sm0).mp h))
theorem qm_y_if_eq {P : Nat → qm_Cd} {cd : qm_Cd} {Q : Option qm_V → qm_Hp → Prop} {pc t n : Nat} {lv : qm_Lv} {st : List qm_V} {h : qm_Hp} {x : Int} (hc : cd pc = some (qm_o_if_eq t n)) (hx : qm_sm x) (k1 : x = 0 → qm_G P cd t lv st h Q) (k2 : ¬ x = 0 → qm_G P cd n lv st h Q) : qm_G P cd pc lv (qm_I (qm_i x) :: st) h Q := (Decidable.em (x = 0)).elim (fun c => qm_G.s1 hc (qm_x_if_eq_t hx c) (k1 c)) (fun c => qm_G.s1 hc (qm_x_if_eq_f hx c) (k2 c))
theorem qm_x_icmp_ne_t {t n : Nat} {lv : qm_Lv} {st : List qm_V} {h : qm_Hp} {x y : Int} (hx : qm_sm x) (hy : qm_sm y) (c : ¬ x = y) : qm_St (qm_o_icmp_ne t n) lv (qm_I (qm_i y) :: qm_I (qm_i x) :: st) h t lv st h := if_pos (fun h => c ((qm_i_eq hx hy).mp h))
theorem qm_x_icmp_ne_f {t n : Nat} {lv : qm_Lv} {st : List qm_V} {h : qm_Hp} {x y : Int} (hx : qm_sm x) (hy : qm_sm y) (c : x = y) : qm_St (qm_o_icmp_ne t n) lv (qm_I (qm_i y) :: qm_I (qm_i x) :: st) h n lv st h := if_neg (fun h => h ((qm_i_eq hx hy).mpr c))
theorem qm_y_icmp_ne {P : Nat → qm_Cd} {cd : qm_Cd} {Q : Option qm_V → qm_Hp → Prop} {pc t n : Nat} {lv : qm_Lv} {st : List qm_V} {h : qm_Hp} {x y : Int} (hc : cd pc = some (qm_o_icmp_ne t n)) (hx : qm_sm x) (hy : qm_sm y) (k1 : ¬ x = y → qm_G P cd t lv st h Q) (k2 : x = y → qm_G P cd n lv st h Q) : qm_G P cd pc lv (qm_I (qm_i y) :: qm_I (qm_i x) :: st) h Q := (Decidable.em (x = y)).elim (fun c => qm_G.s1 hc (qm_x_icmp_ne_f hx hy c) (k2 c)) (fun c => qm_G.s1 hc (qm_x_icmp_ne_t hx hy c) (k1 c))
theorem qm_x_if_ne_t {t n : Nat} {lv : qm_Lv} {st : List qm_V} {h : qm_Hp} {x : Int} (hx : qm_sm x) (c : ¬ x = 0) : qm_St (qm_o_if_ne t n) lv (qm_I (qm_i x) :: st) h t lv st h := if_pos (fun h => c ((qm_i_eq hx qm_sm0).mp h))
theorem qm_x_if_ne_f {t n : Nat} {lv : qm_Lv} {st : List qm_V} {h : qm_Hp} {x : Int} (hx : qm_sm x) (c : x = 0) : qm_St (qm_o_if_ne t n) lv (qm_I (qm_i x) :: st) h n lv st h := if_neg (fun h => h ((qm_i_eq hx qm_sm0).mpr c))
theorem qm_y_if_ne {P : Nat → qm_Cd} {cd : qm_Cd} {Q : Option qm_V → qm_Hp → Prop} {pc t n : Nat} {lv : qm_Lv} {st : List qm_V} {h : qm_Hp} {x : Int} (hc : cd pc = some (qm_o_if_ne t n)) (hx : qm_sm x) (k1 : ¬ x = 0 → qm_G P cd t lv st h Q) (k2 : x = 0 → qm_G P cd n lv st h Q) : qm_G P cd pc lv (qm_I (qm_i x) :: st) h Q := (Decidable.em (x = 0)).elim (fun c => qm_G.s1 hc (qm_x_if_ne_f hx c) (k2 c)) (fun c => qm_G.s1 hc (qm_x_if_ne_t hx c) (k1 c))
theorem qm_x_icmp_lt_t {t n : Nat} {lv : qm_Lv} {st : List qm_V} {h : qm_Hp} {x y : Int} (hx : qm_sm x) (hy : qm_sm y) (c : x < y) : qm_St (qm_o_icmp_lt t n) lv (qm_I (qm_i y) :: qm_I (qm_i x) :: st) h t lv st h := if_pos ((qm_i_lt hx hy).mpr c)
theorem qm_x_icmp_lt_f {t n : Nat} {lv : qm_Lv} {st : List qm_V} {h : qm_Hp} {x y : Int} (hx : qm_sm x) (hy : qm_sm y) (c : y ≤ x) : qm_St (qm_o_icmp_lt t n) lv (qm_I (qm_i y) :: qm_I (qm_i x) :: st) h n lv st h := if_neg (fun h => (Int.not_lt.mpr c) ((qm_i_lt hx hy).mp h))
theorem qm_y_icmp_lt {P : Nat → qm_Cd} {cd : qm_Cd} {Q : Option qm_V → qm_Hp → Prop} {pc t n : Nat} {lv : qm_Lv} {st : List qm_V} {h : qm_Hp} {x y : Int} (hc : cd pc = some (qm_o_icmp_lt t n)) (hx : qm_sm x) (hy : qm_sm y) (k1 : x < y → qm_G P cd t lv st h Q) (k2 : y ≤ x → qm_G P cd n lv st h Q) : qm_G P cd pc lv (qm_I (qm_i y) :: qm_I (qm_i x) :: st) h Q := (Int.lt_or_le x y).elim (fun c => qm_G.s1 hc (qm_x_icmp_lt_t hx hy c) (k1 c)) (fun c => qm_G.s1 hc (qm_x_icmp_lt_f hx hy c) (k2 c))
theorem qm_x_if_lt_t {t n : Nat} {lv : qm_Lv} {st : List qm_V} {h : qm_Hp} {x : Int} (hx : qm_sm x) (c : x < 0) : qm_St (qm_o_if_lt t n) lv (qm_I (qm_i x) :: st) h t lv st h := if_pos ((qm_i_lt hx qm_sm0).mpr c)
theorem qm_x_if_lt_f {t n : Nat} {lv : qm_Lv} {st : List qm_V} {h : qm_Hp} {x : Int} (hx : qm_sm x) (c : 0 ≤ x) : qm_St (qm_o_if_lt t n) lv (qm_I (qm_i x) :: st) h n lv st h := if_neg (fun h => (Int.not_lt.mpr c) ((qm_i_lt hx qm_sm0).mp h))
theorem qm_y_if_lt {P : Nat → qm_Cd} {cd : qm_Cd} {Q : Option qm_V → qm_Hp → Prop} {pc t n : Nat} {lv : qm_Lv} {st : List qm_V} {h : qm_Hp} {x : Int} (hc : cd pc = some (qm_o_if_lt t n)) (hx : qm_sm x) (k1 : x < 0 → qm_G P cd t lv st h Q) (k2 : 0 ≤ x → qm_G P cd n lv st h Q) : qm_G P cd pc lv (qm_I (qm_i x) :: st) h Q := (Int.lt_or_le x 0).elim (fun c => qm_G.s1 hc (qm_x_if_lt_t hx c) (k1 c)) (fun c => qm_G.s1 hc (qm_x_if_lt_f hx c) (k2 c))
theorem qm_x_icmp_ge_t {t n : Nat} {lv : qm_Lv} {st : List qm_V} {h : qm_Hp} {x y : Int} (hx : qm_sm x) (hy : qm_sm y) (c : y ≤ x) : qm_St (qm_o_icmp_ge t n) lv (qm_I (qm_i y) :: qm_I (qm_i x) :: st) h t lv st h := if_pos ((qm_i_le hy hx).mpr c)
theorem qm_x_icmp_ge_f {t n : Nat} {lv : qm_Lv} {st : List qm_V} {h : qm_Hp} {x y : Int} (hx : qm_sm x) (hy : qm_sm y) (c : x < y) : qm_St (qm_o_icmp_ge t n) lv (qm_I (qm_i y) :: qm_I (qm_i x) :: st) h n lv st h := if_neg (fun h => (Int.not_le.mpr c) ((qm_i_le hy hx).mp h))
theorem qm_y_icmp_ge {P : Nat → qm_Cd} {cd : qm_Cd} {Q : Option qm_V → qm_Hp → Prop} {pc t n : Nat} {lv : qm_Lv} {st : List qm_V} {h : qm_Hp} {x y : Int} (hc : cd pc = some (qm_o_icmp_ge t n)) (hx : qm_sm x) (hy : qm_sm y) (k1 : y ≤ x → qm_G P cd t lv st h Q) (k2 : x < y → qm_G P cd n lv st h Q) : qm_G P cd pc lv (qm_I (qm_i y) :: qm_I (qm_i x) :: st) h Q := (Int.lt_or_le x y).elim (fun c => qm_G.s1 hc (qm_x_icmp_ge_f hx hy c) (k2 c)) (fun c => qm_G.s1 hc (qm_x_icmp_ge_t hx hy c) (k1 c))
theorem qm_x_if_ge_t {t n : Nat} {lv : qm_Lv} {st : List qm_V} {h : qm_Hp} {x : Int} (hx : qm_sm x) (c : 0 ≤ x) : qm_St (qm_o_if_ge t n) lv (qm_I (qm_i x) :: st) h t lv st h := if_pos ((qm_i_le qm_sm0 hx).mpr c)
theorem qm_x_if_ge_f {t n : Nat} {lv : qm_Lv} {st : List qm_V} {h : qm_Hp} {x : Int} (hx : qm_sm x) (c : x < 0) : qm_St (qm_o_if_ge t n) lv (qm_I (qm_i x) :: st) h n lv st h := if_neg (fun h => (Int.not_le.mpr c) ((qm_i_le qm_sm0 hx).mp h))
theorem qm_y_if_ge {P : Nat → qm_Cd} {cd : qm_Cd} {Q : Option qm_V → qm_Hp → Prop} {pc t n : Nat} {lv : qm_Lv} {st : List qm_V} {h : qm_Hp} {x : Int} (hc : cd pc = some (qm_o_if_ge t n)) (hx : qm_sm x) (k1 : 0 ≤ x → qm_G P cd t lv st h Q) (k2 : x < 0 → qm_G P cd n lv st h Q) : qm_G P cd pc lv (qm_I (qm_i x) :: st) h Q := (Int.lt_or_le x 0).elim (fun c => qm_G.s1 hc (qm_x_if_ge_f hx c) (k2 c)) (fun c => qm_G.s1 hc (qm_x_if_ge_t hx c) (k1 c))
theorem qm_x_icmp_gt_t {t n : Nat} {lv : qm_Lv} {st : List qm_V} {h : qm_Hp} {x y : Int} (hx : qm_sm x) (hy : qm_sm y) (c : y < x) : qm_St (qm_o_icmp_gt t n) lv (qm_I (qm_i y) :: qm_I (qm_i x) :: st) h t lv st h := if_pos ((qm_i_lt hy hx).mpr c)
theorem qm_x_icmp_gt_f {t n : Nat} {lv : qm_Lv} {st : List qm_V} {h : qm_Hp} {x y : Int} (hx : qm_sm x) (hy : qm_sm y) (c : x ≤ y) : qm_St (qm_o_icmp_gt t n) lv (qm_I (qm_i y) :: qm_I (qm_i x) :: st) h n lv st h := if_neg (fun h => (Int.not_lt.mpr c) ((qm_i_lt hy hx).mp h))
theorem qm_y_icmp_gt {P : Nat → qm_Cd} {cd : qm_Cd} {Q : Option qm_V → qm_Hp → Prop} {pc t n : Nat} {lv : qm_Lv} {st : List qm_V} {h : qm_Hp} {x y : Int} (hc : cd pc = some (qm_o_icmp_gt t n)) (hx : qm_sm x) (hy : qm_sm y) (k1 : y < x → qm_G P cd t lv st h Q) (k2 : x ≤ y → qm_G P cd n lv st h Q) : qm_G P cd pc lv (qm_I (qm_i y) :: qm_I (qm_i x) :: st) h Q := (Int.lt_or_le y x).elim (fun c => qm_G.s1 hc (qm_x_icmp_gt_t hx hy c) (k1 c)) (fun c => qm_G.s1 hc (qm_x_icmp_gt_f hx hy c) (k2 c))
theorem qm_x_if_gt_t {t n : Nat} {lv : qm_Lv} {st : List qm_V} {h : qm_Hp} {x : Int} (hx : qm_sm x) (c : 0 < x) : qm_St (qm_o_if_gt t n) lv (qm_I (qm_i x) :: st) h t lv st h := if_pos ((qm_i_lt qm_sm0 hx).mpr c)
theorem qm_x_if_gt_f {t n : Nat} {lv : qm_Lv} {st : List qm_V} {h : qm_Hp} {x : Int} (hx : qm_sm x) (c : x ≤ 0) : qm_St (qm_o_if_gt t n) lv (qm_I (qm_i x) :: st) h n lv st h := if_neg (fun h => (Int.not_lt.mpr c) ((qm_i_lt qm_sm0 hx).mp h))
theorem qm_y_if_gt {P : Nat → qm_Cd} {cd : qm_Cd} {Q : Option qm_V → qm_Hp → Prop} {pc t n : Nat} {lv : qm_Lv} {st : List qm_V} {h : qm_Hp} {x : Int} (hc : cd pc = some (qm_o_if_gt t n)) (hx : qm_sm x) (k1 : 0 < x → qm_G P cd t lv st h Q) (k2 : x ≤ 0 → qm_G P cd n lv st h Q) : qm_G P cd pc lv (qm_I (qm_i x) :: st) h Q := (Int.lt_or_le 0 x).elim (fun c => qm_G.s1 hc (qm_x_if_gt_t hx c) (k1 c)) (fun c => qm_G.s1 hc (qm_x_if_gt_f hx c) (k2 c))
theorem qm_x_icmp_le_t {t n : Nat} {lv : qm_Lv} {st : List qm_V} {h : qm_Hp} {x y : Int} (hx : qm_sm x) (hy : qm_sm y) (c : x ≤ y) : qm_St (qm_o_icmp_le t n) lv (qm_I (qm_i y) :: qm_I (qm_i x) :: st) h t lv st h := if_pos ((qm_i_le hx hy).mpr c)
theorem qm_x_icmp_le_f {t n : Nat} {lv : qm_Lv} {st : List qm_V} {h : qm_Hp} {x y : Int} (hx : qm_sm x) (hy : qm_sm y) (c : y < x) : qm_St (qm_o_icmp_le t n) lv (qm_I (qm_i y) :: qm_I (qm_i x) :: st) h n lv st h := if_neg (fun h => (Int.not_le.mpr c) ((qm_i_le hx hy).mp h))
theorem qm_y_icmp_le {P : Nat → qm_Cd} {cd : qm_Cd} {Q : Option qm_V → qm_Hp → Prop} {pc t n : Nat} {lv : qm_Lv} {st : List qm_V} {h : qm_Hp} {x y : Int} (hc : cd pc = some (qm_o_icmp_le t n)) (hx : qm_sm x) (hy : qm_sm y) (k1 : x ≤ y → qm_G P cd t lv st h Q) (k2 : y < x → qm_G P cd n lv st h Q) : qm_G P cd pc lv (qm_I (qm_i y) :: qm_I (qm_i x) :: st) h Q := (Int.lt_or_le y x).elim (fun c => qm_G.s1 hc (qm_x_icmp_le_f hx hy c) (k2 c)) (fun c => qm_G.s1 hc (qm_x_icmp_le_t hx hy c) (k1 c))
theorem qm_x_if_le_t {t n : Nat} {lv : qm_Lv} {st : List qm_V} {h : qm_Hp} {x : Int} (hx : qm_sm x) (c : x ≤ 0) : qm_St (qm_o_if_le t n) lv (qm_I (qm_i x) :: st) h t lv st h := if_pos ((qm_i_le hx qm_sm0).mpr c)
theorem qm_x_if_le_f {t n : Nat} {lv : qm_Lv} {st : List qm_V} {h : qm_Hp} {x : Int} (hx : qm_sm x) (c : 0 < x) : qm_St (qm_o_if_le t n) lv (qm_I (qm_i x) :: st) h n lv st h := if_neg (fun h => (Int.not_le.mpr c) ((qm_i_le hx qm_sm0).mp h))
theorem qm_y_if_le {P : Nat → qm_Cd} {cd : qm_Cd} {Q : Option qm_V → qm_Hp → Prop} {pc t n : Nat} {lv : qm_Lv} {st : List qm_V} {h : qm_Hp} {x : Int} (hc : cd pc = some (qm_o_if_le t n)) (hx : qm_sm x) (k1 : x ≤ 0 → qm_G P cd t lv st h Q) (k2 : 0 < x → qm_G P cd n lv st h Q) : qm_G P cd pc lv (qm_I (qm_i x) :: st) h Q := (Int.lt_or_le 0 x).elim (fun c => qm_G.s1 hc (qm_x_if_le_f hx c) (k2 c)) (fun c => qm_G.s1 hc (qm_x_if_le_t hx c) (k1 c))
