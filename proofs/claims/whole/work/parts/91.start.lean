/-! THE START: the heap behind both constructors, computed with no script -/
def qm_X0 : Nat × (Nat → Int32) := (0, fun _ => 0)
def qm_b0 : qm_Hp := qm_new (qm_h0 qm_X0) (Sum.inl 0)
def qm_rn1 : Option (Option qm_V × qm_Hp) := qm_runN qm_Pn 1700 (qm_Pn 163) 0 [(0, qm_R (some (0, 0, 0)))] [] qm_b0
def qm_ln9 (o : Option (Option qm_V × qm_Hp)) : Nat := match o with | some (none, h) => h.1.length | _ => 1000
theorem qm_ln91 : qm_ln9 qm_rn1 = 61 := by decide +kernel
def qm_rn2 : Option (Option qm_V × qm_Hp) := match qm_rn1 with
  | some (none, h) => qm_runN qm_Pn 1200 (qm_Pn 57) 0 [(0, qm_R (some (0, 61, 0)))] [] (qm_new h (Sum.inl 9))
  | _ => none
theorem qm_ln92 : qm_ln9 qm_rn2 = 78 := by decide +kernel
def qm_JI (h : qm_Hp) : qm_J := fun r s i => (h.2.1 r s i).toInt
def qm_KI (h : qm_Hp) : qm_J := fun r s i => (h.2.2.1 r s i).toInt
def qm_rkb (a : Option Nat) (b : Option qm_Rf) : Bool := match a with
  | none => true
  | some q => bif Nat.blt q 78 then (match b with
    | some (0, q', 0) => Nat.beq q' q
    | _ => false) else true
theorem qm_rkb_at {q : Nat} {b : Option qm_Rf} (hq : Nat.blt q 78 = true) (h : qm_rkb (some q) b = true) : b = some (0, q, 0) := by
  unfold qm_rkb at h
  dsimp only at h
  rw [hq] at h
  simp only [cond_true] at h
  split at h
  · rw [Nat.eq_of_beq_eq_true h]
  · cases h
theorem qm_rf40 {r : Nat} (hr : r < 78) (j : Nat) : qm_rf r (j + 40) = none := by
  rcases (show r = 0 ∨ r = 1 ∨ r = 2 ∨ r = 3 ∨ r = 4 ∨ r = 5 ∨ r = 6 ∨ r = 7 ∨ r = 8 ∨ r = 9 ∨ r = 10 ∨ r = 11 ∨ r = 12 ∨ r = 13 ∨ r = 14 ∨ r = 15 ∨ r = 16 ∨ r = 17 ∨ r = 18 ∨ r = 19 ∨ r = 20 ∨ r = 21 ∨ r = 22 ∨ r = 23 ∨ r = 24 ∨ r = 25 ∨ r = 26 ∨ r = 27 ∨ r = 28 ∨ r = 29 ∨ r = 30 ∨ r = 31 ∨ r = 32 ∨ r = 33 ∨ r = 34 ∨ r = 35 ∨ r = 36 ∨ r = 37 ∨ r = 38 ∨ r = 39 ∨ r = 40 ∨ r = 41 ∨ r = 42 ∨ r = 43 ∨ r = 44 ∨ r = 45 ∨ r = 46 ∨ r = 47 ∨ r = 48 ∨ r = 49 ∨ r = 50 ∨ r = 51 ∨ r = 52 ∨ r = 53 ∨ r = 54 ∨ r = 55 ∨ r = 56 ∨ r = 57 ∨ r = 58 ∨ r = 59 ∨ r = 60 ∨ r = 61 ∨ r = 62 ∨ r = 63 ∨ r = 64 ∨ r = 65 ∨ r = 66 ∨ r = 67 ∨ r = 68 ∨ r = 69 ∨ r = 70 ∨ r = 71 ∨ r = 72 ∨ r = 73 ∨ r = 74 ∨ r = 75 ∨ r = 76 ∨ r = 77 by omega) with h | h | h | h | h | h | h | h | h | h | h | h | h | h | h | h | h | h | h | h | h | h | h | h | h | h | h | h | h | h | h | h | h | h | h | h | h | h | h | h | h | h | h | h | h | h | h | h | h | h | h | h | h | h | h | h | h | h | h | h | h | h | h | h | h | h | h | h | h | h | h | h | h | h | h | h | h | h <;> subst h <;> rfl
def qm_all9 : Nat → (Nat → Bool) → Bool
  | 0, _ => true
  | n + 1, f => f n && qm_all9 n f
theorem qm_all9_at {f : Nat → Bool} : ∀ {n : Nat}, qm_all9 n f = true → ∀ i, i < n → f i = true := by
  intro n
  induction n with
  | zero => intro _ i h; exact absurd h (Nat.not_lt_zero i)
  | succ n ih =>
    intro h i hi
    have h2 := (Bool.and_eq_true _ _).mp h
    by_cases e : i = n
    · rw [e]; exact h2.1
    · exact ih h2.2 i (by omega)
def qm_ck_sd (h : qm_Hp) : Bool := qm_all9 78 (fun r => decide (qm_nth h.1 r = qm_sh r))
def qm_ck_rd (h : qm_Hp) : Bool := qm_all9 78 (fun r => qm_all9 40 (fun i => decide (qm_rkb (qm_rf r i) (h.2.2.2.2.2.1 r 0 i) = true)))
def qm_ck_set (h : qm_Hp) : Bool := qm_all9 6 (fun i => decide ((qm_JI h) 3 0 i = (qm_JI h) 62 0 i))
def qm_ck_r0 (h : qm_Hp) : Bool := decide (100 ≤ (qm_JI h) 62 0 0 ∧ (qm_JI h) 62 0 0 ≤ 9999)
def qm_ck_r1 (h : qm_Hp) : Bool := decide (1 ≤ (qm_JI h) 62 0 1 ∧ (qm_JI h) 62 0 1 ≤ 8)
def qm_ck_r2 (h : qm_Hp) : Bool := decide (0 ≤ (qm_JI h) 62 0 2 ∧ (qm_JI h) 62 0 2 ≤ 8)
def qm_ck_r3 (h : qm_Hp) : Bool := decide (0 ≤ (qm_JI h) 62 0 3 ∧ (qm_JI h) 62 0 3 ≤ 99)
def qm_ck_r4 (h : qm_Hp) : Bool := decide (0 ≤ (qm_JI h) 62 0 4 ∧ (qm_JI h) 62 0 4 ≤ 99)
def qm_ck_r5 (h : qm_Hp) : Bool := decide (1 ≤ (qm_JI h) 62 0 5 ∧ (qm_JI h) 62 0 5 ≤ 1000000)
def qm_ck_str (h : qm_Hp) : Bool := decide ((qm_JI h) 2 0 5 = (qm_JI h) 62 0 6)
def qm_ck_rstr (h : qm_Hp) : Bool := decide (0 ≤ (qm_JI h) 62 0 6 ∧ (qm_JI h) 62 0 6 ≤ 2)
def qm_ck_rc (h : qm_Hp) : Bool := decide ((qm_JI h) 2 0 3 = (qm_JI h) 62 0 7)
def qm_ck_rrc (h : qm_Hp) : Bool := decide (0 ≤ (qm_JI h) 62 0 7 ∧ (qm_JI h) 62 0 7 ≤ 8)
def qm_ck_odb (h : qm_Hp) : Bool := qm_all9 6 (fun d => decide ((qm_JI h) 5 0 d = (qm_JI h) 62 0 (14 + d)))
def qm_ck_oda (h : qm_Hp) : Bool := qm_all9 6 (fun d => decide ((qm_JI h) 6 0 d = (qm_JI h) 62 0 (20 + d)))
def qm_ck_rod (h : qm_Hp) : Bool := qm_all9 12 (fun d => decide (0 ≤ (qm_JI h) 62 0 (14 + d) ∧ (qm_JI h) 62 0 (14 + d) ≤ 1000))
def qm_ck_riv (h : qm_Hp) : Bool := decide ((qm_JI h) 62 0 7 = 0)
def qm_ck_dek (h : qm_Hp) : Bool := qm_all9 3 (fun d => qm_all9 4 (fun p => decide ((qm_JI h) 8 (d + 1) p = -1 ∧ (qm_JI h) 62 0 (50 + 4 * d + p) = -5)))
def qm_ck_qb (h : qm_Hp) : Bool := decide ((qm_JI h) 10 0 0 = (qm_JI h) 62 0 8)
def qm_ck_qa (h : qm_Hp) : Bool := decide ((qm_JI h) 10 0 1 = (qm_JI h) 62 0 9)
def qm_ck_rqb (h : qm_Hp) : Bool := decide (0 ≤ (qm_JI h) 62 0 8 ∧ (qm_JI h) 62 0 8 ≤ 6)
def qm_ck_rqa (h : qm_Hp) : Bool := decide (0 ≤ (qm_JI h) 62 0 9 ∧ (qm_JI h) 62 0 9 ≤ 6)
def qm_ck_stk (h : qm_Hp) : Bool := decide ((qm_JI h) 9 0 1 = (qm_JI h) 62 0 10)
def qm_ck_rstk (h : qm_Hp) : Bool := decide (-8 ≤ (qm_JI h) 62 0 10 ∧ (qm_JI h) 62 0 10 ≤ 8)
def qm_ck_csh (h : qm_Hp) : Bool := decide ((qm_JI h) 9 0 2 = (qm_JI h) 62 0 11)
def qm_ck_rcsh (h : qm_Hp) : Bool := decide (qm_sm ((qm_JI h) 62 0 11))
def qm_ck_mid (h : qm_Hp) : Bool := decide (h.2.2.2.2.1 9 0 3 = h.2.2.2.2.1 61 0 2)
def qm_ck_spr (h : qm_Hp) : Bool := decide (h.2.2.2.2.1 9 0 4 = h.2.2.2.2.1 61 0 3)
def qm_ck_sc (h : qm_Hp) : Bool := decide ((qm_JI h) 11 0 3 = (qm_JI h) 62 0 12)
def qm_ck_rsc (h : qm_Hp) : Bool := decide (0 ≤ (qm_JI h) 62 0 12 ∧ (qm_JI h) 62 0 12 ≤ 5)
def qm_ck_ec (h : qm_Hp) : Bool := decide ((qm_JI h) 11 0 6 = (qm_JI h) 62 0 13)
def qm_ck_rec (h : qm_Hp) : Bool := decide (0 ≤ (qm_JI h) 62 0 13 ∧ (qm_JI h) 62 0 13 ≤ 8)
def qm_ck_see (h : qm_Hp) : Bool := qm_all9 5 (fun i => decide ((qm_JI h) 12 0 i = (qm_JI h) 62 0 (96 + 3 * i) ∧ (qm_JI h) 13 0 i = (qm_JI h) 62 0 (97 + 3 * i) ∧ (qm_JI h) 14 0 i = (qm_JI h) 62 0 (98 + 3 * i)))
def qm_ck_rsee (h : qm_Hp) : Bool := qm_all9 5 (fun i => decide ((-8 ≤ (qm_JI h) 62 0 (96 + 3 * i) ∧ (qm_JI h) 62 0 (96 + 3 * i) ≤ 8) ∧ (0 ≤ (qm_JI h) 62 0 (97 + 3 * i) ∧ (qm_JI h) 62 0 (97 + 3 * i) ≤ 6) ∧ 0 ≤ (qm_JI h) 62 0 (98 + 3 * i) ∧ (qm_JI h) 62 0 (98 + 3 * i) ≤ 6))
def qm_ck_evt (h : qm_Hp) : Bool := qm_all9 8 (fun i => decide ((qm_JI h) 15 0 i = (qm_JI h) 62 0 (111 + 2 * i) ∧ (qm_JI h) 16 0 i = (qm_JI h) 62 0 (112 + 2 * i)))
def qm_ck_revt (h : qm_Hp) : Bool := qm_all9 8 (fun i => decide ((0 ≤ (qm_JI h) 62 0 (111 + 2 * i) ∧ (qm_JI h) 62 0 (111 + 2 * i) ≤ 3) ∧ 0 ≤ (qm_JI h) 62 0 (112 + 2 * i) ∧ (qm_JI h) 62 0 (112 + 2 * i) ≤ 99 ∧ (((qm_JI h) 62 0 (111 + 2 * i) = 1 → 1 ≤ (qm_JI h) 62 0 (112 + 2 * i)) ∧ (1 ≤ (qm_JI h) 62 0 (111 + 2 * i) → (qm_JI h) 62 0 (112 + 2 * i) ≤ 8) ∧ ((qm_JI h) 62 0 (111 + 2 * i) = 3 → (qm_JI h) 62 0 (112 + 2 * i) ≤ 3))))
def qm_ck_rule (h : qm_Hp) : Bool := qm_all9 17 (fun i => decide ((qm_JI h) 17 1 i = (qm_JI h) 62 0 (62 + 2 * i) ∧ (qm_JI h) 17 2 i = (qm_JI h) 62 0 (63 + 2 * i)))
def qm_ck_rrule (h : qm_Hp) : Bool := qm_all9 17 (fun i => decide ((0 ≤ (qm_JI h) 62 0 (62 + 2 * i) ∧ (qm_JI h) 62 0 (62 + 2 * i) ≤ 6) ∧ 0 ≤ (qm_JI h) 62 0 (63 + 2 * i) ∧ (qm_JI h) 62 0 (63 + 2 * i) ≤ 6))
def qm_ck_tx (h : qm_Hp) : Bool := decide ((qm_JI h) 42 0 1 = (qm_JI h) 61 0 12)
def qm_ck_rtx (h : qm_Hp) : Bool := decide (0 ≤ (qm_JI h) 61 0 12 ∧ (qm_JI h) 61 0 12 ≤ 100)
def qm_ck_sgn (h : qm_Hp) : Bool := qm_all9 100 (fun i => decide ((qm_KI h) 43 0 i = (qm_JI h) 69 0 i ∧ 0 ≤ (qm_JI h) 69 0 i ∧ (qm_JI h) 69 0 i ≤ 127))
def qm_ck_srt (h : qm_Hp) : Bool := qm_all9 6 (fun t => decide ((qm_JI h) (49 + 2 * t) 0 1 = (qm_JI h) 73 0 t - 1 ∧ 0 ≤ (qm_JI h) 73 0 t ∧ (qm_JI h) 73 0 t ≤ 5))
def qm_ck_len (h : qm_Hp) : Bool := qm_all9 6 (fun t => decide ((qm_JI h) (49 + 2 * t) 0 2 = (qm_JI h) 74 0 t ∧ 0 ≤ (qm_JI h) 74 0 t ∧ (qm_JI h) 74 0 t ≤ 60 ∧ ((qm_JI h) 73 0 t = 0 → (qm_JI h) 74 0 t = 0)))
def qm_ck_itm (h : qm_Hp) : Bool := qm_all9 6 (fun t => qm_all9 60 (fun i => decide (h.2.2.2.1 (50 + 2 * t) 0 i = h.2.2.2.1 75 0 (60 * t + i))))
def qm_ck_img (h : qm_Hp) : Bool := decide ((qm_JI h) 0 0 2 = (qm_JI h) 61 0 4)
def qm_ck_rimg (h : qm_Hp) : Bool := decide ((qm_JI h) 61 0 4 = 0)
def qm_ck_slp (h : qm_Hp) : Bool := decide (h.2.2.2.2.2.1 47 0 0 = some (0, 48, 0))
def qm_ck_slp2 (h : qm_Hp) : Bool := decide (qm_nth h.1 48 = some (Sum.inr (Sum.inl (1, 16))))
def qm_ck_slp3 (h : qm_Hp) : Bool := qm_all9 8 (fun i => decide (h.2.2.2.2.2.1 7 0 i = none ∧ h.2.2.2.2.2.1 24 0 i = none))
def qm_ck_sl1 (h : qm_Hp) : Bool := decide ((qm_JI h) 47 0 1 = 0)
def qm_ck_sl2 (h : qm_Hp) : Bool := decide (0 ≤ (qm_JI h) 47 0 3 ∧ (qm_JI h) 47 0 3 ≤ 34)
def qm_ck_room (h : qm_Hp) : Bool := decide (qm_tot h.1 ≤ 1000 ∧ qm_slt h.1 ≤ 8000)
def qm_ck_tall (h : qm_Hp) : Bool := decide ((qm_JI h) 61 0 12 = 0)
def qm_ck_tall2 (h : qm_Hp) : Bool := decide (4607182418800017408 ≤ (h.2.2.2.2.1 61 0 2).toNat ∧ (h.2.2.2.2.1 61 0 2).toNat ≤ 4670232813583204352)
def qm_ck_tall3 (h : qm_Hp) : Bool := decide ((h.2.2.2.2.1 61 0 3).toNat = 0)
def qm_ckb (h : qm_Hp) : Bool := qm_ck_sd h && qm_ck_rd h && qm_ck_set h && qm_ck_r0 h && qm_ck_r1 h && qm_ck_r2 h && qm_ck_r3 h && qm_ck_r4 h && qm_ck_r5 h && qm_ck_str h && qm_ck_rstr h && qm_ck_rc h && qm_ck_rrc h && qm_ck_odb h && qm_ck_oda h && qm_ck_rod h && qm_ck_riv h && qm_ck_dek h && qm_ck_qb h && qm_ck_qa h && qm_ck_rqb h && qm_ck_rqa h && qm_ck_stk h && qm_ck_rstk h && qm_ck_csh h && qm_ck_rcsh h && qm_ck_mid h && qm_ck_spr h && qm_ck_sc h && qm_ck_rsc h && qm_ck_ec h && qm_ck_rec h && qm_ck_see h && qm_ck_rsee h && qm_ck_evt h && qm_ck_revt h && qm_ck_rule h && qm_ck_rrule h && qm_ck_tx h && qm_ck_rtx h && qm_ck_sgn h && qm_ck_srt h && qm_ck_len h && qm_ck_itm h && qm_ck_img h && qm_ck_rimg h && qm_ck_slp h && qm_ck_slp2 h && qm_ck_slp3 h && qm_ck_sl1 h && qm_ck_sl2 h && qm_ck_room h && qm_ck_tall h && qm_ck_tall2 h && qm_ck_tall3 h
theorem qm_ck_inv {h : qm_Hp} (c : qm_ckb h = true) : qm_Inv h.1 (qm_JI h) (qm_KI h) h.2.2.2.1 h.2.2.2.2.1 h.2.2.2.2.2.1 0 := by
  unfold qm_ckb at c
  simp only [Bool.and_eq_true] at c
  obtain ⟨⟨⟨⟨⟨⟨⟨⟨⟨⟨⟨⟨⟨⟨⟨⟨⟨⟨⟨⟨⟨⟨⟨⟨⟨⟨⟨⟨⟨⟨⟨⟨⟨⟨⟨⟨⟨⟨⟨⟨⟨⟨⟨⟨⟨⟨⟨⟨⟨⟨⟨⟨⟨⟨c_sd, c_rd⟩, c_set⟩, c_r0⟩, c_r1⟩, c_r2⟩, c_r3⟩, c_r4⟩, c_r5⟩, c_str⟩, c_rstr⟩, c_rc⟩, c_rrc⟩, c_odb⟩, c_oda⟩, c_rod⟩, c_riv⟩, c_dek⟩, c_qb⟩, c_qa⟩, c_rqb⟩, c_rqa⟩, c_stk⟩, c_rstk⟩, c_csh⟩, c_rcsh⟩, c_mid⟩, c_spr⟩, c_sc⟩, c_rsc⟩, c_ec⟩, c_rec⟩, c_see⟩, c_rsee⟩, c_evt⟩, c_revt⟩, c_rule⟩, c_rrule⟩, c_tx⟩, c_rtx⟩, c_sgn⟩, c_srt⟩, c_len⟩, c_itm⟩, c_img⟩, c_rimg⟩, c_slp⟩, c_slp2⟩, c_slp3⟩, c_sl1⟩, c_sl2⟩, c_room⟩, c_tall⟩, c_tall2⟩, c_tall3⟩ := c
  have x_sd : ∀ r, r < 78 → qm_nth h.1 r = qm_sh r := fun r h_r => of_decide_eq_true (qm_all9_at c_sd r h_r)
  have x_rd : ∀ r, r < 78 → ∀ i, i < 40 → qm_rkb (qm_rf r i) (h.2.2.2.2.2.1 r 0 i) = true := fun r h_r => fun i h_i => of_decide_eq_true (qm_all9_at (qm_all9_at c_rd r h_r) i h_i)
  have x_set : ∀ i, i < 6 → (qm_JI h) 3 0 i = (qm_JI h) 62 0 i := fun i h_i => of_decide_eq_true (qm_all9_at c_set i h_i)
  have x_r0 : 100 ≤ (qm_JI h) 62 0 0 ∧ (qm_JI h) 62 0 0 ≤ 9999 := of_decide_eq_true c_r0
  have x_r1 : 1 ≤ (qm_JI h) 62 0 1 ∧ (qm_JI h) 62 0 1 ≤ 8 := of_decide_eq_true c_r1
  have x_r2 : 0 ≤ (qm_JI h) 62 0 2 ∧ (qm_JI h) 62 0 2 ≤ 8 := of_decide_eq_true c_r2
  have x_r3 : 0 ≤ (qm_JI h) 62 0 3 ∧ (qm_JI h) 62 0 3 ≤ 99 := of_decide_eq_true c_r3
  have x_r4 : 0 ≤ (qm_JI h) 62 0 4 ∧ (qm_JI h) 62 0 4 ≤ 99 := of_decide_eq_true c_r4
  have x_r5 : 1 ≤ (qm_JI h) 62 0 5 ∧ (qm_JI h) 62 0 5 ≤ 1000000 := of_decide_eq_true c_r5
  have x_str : (qm_JI h) 2 0 5 = (qm_JI h) 62 0 6 := of_decide_eq_true c_str
  have x_rstr : 0 ≤ (qm_JI h) 62 0 6 ∧ (qm_JI h) 62 0 6 ≤ 2 := of_decide_eq_true c_rstr
  have x_rc : (qm_JI h) 2 0 3 = (qm_JI h) 62 0 7 := of_decide_eq_true c_rc
  have x_rrc : 0 ≤ (qm_JI h) 62 0 7 ∧ (qm_JI h) 62 0 7 ≤ 8 := of_decide_eq_true c_rrc
  have x_odb : ∀ d, d < 6 → (qm_JI h) 5 0 d = (qm_JI h) 62 0 (14 + d) := fun d h_d => of_decide_eq_true (qm_all9_at c_odb d h_d)
  have x_oda : ∀ d, d < 6 → (qm_JI h) 6 0 d = (qm_JI h) 62 0 (20 + d) := fun d h_d => of_decide_eq_true (qm_all9_at c_oda d h_d)
  have x_rod : ∀ d, d < 12 → 0 ≤ (qm_JI h) 62 0 (14 + d) ∧ (qm_JI h) 62 0 (14 + d) ≤ 1000 := fun d h_d => of_decide_eq_true (qm_all9_at c_rod d h_d)
  have x_riv : (qm_JI h) 62 0 7 = 0 := of_decide_eq_true c_riv
  have x_dek : ∀ d, d < 3 → ∀ p, p < 4 → (qm_JI h) 8 (d + 1) p = -1 ∧ (qm_JI h) 62 0 (50 + 4 * d + p) = -5 := fun d h_d => fun p h_p => of_decide_eq_true (qm_all9_at (qm_all9_at c_dek d h_d) p h_p)
  have x_qb : (qm_JI h) 10 0 0 = (qm_JI h) 62 0 8 := of_decide_eq_true c_qb
  have x_qa : (qm_JI h) 10 0 1 = (qm_JI h) 62 0 9 := of_decide_eq_true c_qa
  have x_rqb : 0 ≤ (qm_JI h) 62 0 8 ∧ (qm_JI h) 62 0 8 ≤ 6 := of_decide_eq_true c_rqb
  have x_rqa : 0 ≤ (qm_JI h) 62 0 9 ∧ (qm_JI h) 62 0 9 ≤ 6 := of_decide_eq_true c_rqa
  have x_stk : (qm_JI h) 9 0 1 = (qm_JI h) 62 0 10 := of_decide_eq_true c_stk
  have x_rstk : -8 ≤ (qm_JI h) 62 0 10 ∧ (qm_JI h) 62 0 10 ≤ 8 := of_decide_eq_true c_rstk
  have x_csh : (qm_JI h) 9 0 2 = (qm_JI h) 62 0 11 := of_decide_eq_true c_csh
  have x_rcsh : qm_sm ((qm_JI h) 62 0 11) := of_decide_eq_true c_rcsh
  have x_mid : h.2.2.2.2.1 9 0 3 = h.2.2.2.2.1 61 0 2 := of_decide_eq_true c_mid
  have x_spr : h.2.2.2.2.1 9 0 4 = h.2.2.2.2.1 61 0 3 := of_decide_eq_true c_spr
  have x_sc : (qm_JI h) 11 0 3 = (qm_JI h) 62 0 12 := of_decide_eq_true c_sc
  have x_rsc : 0 ≤ (qm_JI h) 62 0 12 ∧ (qm_JI h) 62 0 12 ≤ 5 := of_decide_eq_true c_rsc
  have x_ec : (qm_JI h) 11 0 6 = (qm_JI h) 62 0 13 := of_decide_eq_true c_ec
  have x_rec : 0 ≤ (qm_JI h) 62 0 13 ∧ (qm_JI h) 62 0 13 ≤ 8 := of_decide_eq_true c_rec
  have x_see : ∀ i, i < 5 → (qm_JI h) 12 0 i = (qm_JI h) 62 0 (96 + 3 * i) ∧ (qm_JI h) 13 0 i = (qm_JI h) 62 0 (97 + 3 * i) ∧ (qm_JI h) 14 0 i = (qm_JI h) 62 0 (98 + 3 * i) := fun i h_i => of_decide_eq_true (qm_all9_at c_see i h_i)
  have x_rsee : ∀ i, i < 5 → (-8 ≤ (qm_JI h) 62 0 (96 + 3 * i) ∧ (qm_JI h) 62 0 (96 + 3 * i) ≤ 8) ∧ (0 ≤ (qm_JI h) 62 0 (97 + 3 * i) ∧ (qm_JI h) 62 0 (97 + 3 * i) ≤ 6) ∧ 0 ≤ (qm_JI h) 62 0 (98 + 3 * i) ∧ (qm_JI h) 62 0 (98 + 3 * i) ≤ 6 := fun i h_i => of_decide_eq_true (qm_all9_at c_rsee i h_i)
  have x_evt : ∀ i, i < 8 → (qm_JI h) 15 0 i = (qm_JI h) 62 0 (111 + 2 * i) ∧ (qm_JI h) 16 0 i = (qm_JI h) 62 0 (112 + 2 * i) := fun i h_i => of_decide_eq_true (qm_all9_at c_evt i h_i)
  have x_revt : ∀ i, i < 8 → (0 ≤ (qm_JI h) 62 0 (111 + 2 * i) ∧ (qm_JI h) 62 0 (111 + 2 * i) ≤ 3) ∧ 0 ≤ (qm_JI h) 62 0 (112 + 2 * i) ∧ (qm_JI h) 62 0 (112 + 2 * i) ≤ 99 ∧ (((qm_JI h) 62 0 (111 + 2 * i) = 1 → 1 ≤ (qm_JI h) 62 0 (112 + 2 * i)) ∧ (1 ≤ (qm_JI h) 62 0 (111 + 2 * i) → (qm_JI h) 62 0 (112 + 2 * i) ≤ 8) ∧ ((qm_JI h) 62 0 (111 + 2 * i) = 3 → (qm_JI h) 62 0 (112 + 2 * i) ≤ 3)) := fun i h_i => of_decide_eq_true (qm_all9_at c_revt i h_i)
  have x_rule : ∀ i, i < 17 → (qm_JI h) 17 1 i = (qm_JI h) 62 0 (62 + 2 * i) ∧ (qm_JI h) 17 2 i = (qm_JI h) 62 0 (63 + 2 * i) := fun i h_i => of_decide_eq_true (qm_all9_at c_rule i h_i)
  have x_rrule : ∀ i, i < 17 → (0 ≤ (qm_JI h) 62 0 (62 + 2 * i) ∧ (qm_JI h) 62 0 (62 + 2 * i) ≤ 6) ∧ 0 ≤ (qm_JI h) 62 0 (63 + 2 * i) ∧ (qm_JI h) 62 0 (63 + 2 * i) ≤ 6 := fun i h_i => of_decide_eq_true (qm_all9_at c_rrule i h_i)
  have x_tx : (qm_JI h) 42 0 1 = (qm_JI h) 61 0 12 := of_decide_eq_true c_tx
  have x_rtx : 0 ≤ (qm_JI h) 61 0 12 ∧ (qm_JI h) 61 0 12 ≤ 100 := of_decide_eq_true c_rtx
  have x_sgn : ∀ i, i < 100 → (qm_KI h) 43 0 i = (qm_JI h) 69 0 i ∧ 0 ≤ (qm_JI h) 69 0 i ∧ (qm_JI h) 69 0 i ≤ 127 := fun i h_i => of_decide_eq_true (qm_all9_at c_sgn i h_i)
  have x_srt : ∀ t, t < 6 → (qm_JI h) (49 + 2 * t) 0 1 = (qm_JI h) 73 0 t - 1 ∧ 0 ≤ (qm_JI h) 73 0 t ∧ (qm_JI h) 73 0 t ≤ 5 := fun t h_t => of_decide_eq_true (qm_all9_at c_srt t h_t)
  have x_len : ∀ t, t < 6 → (qm_JI h) (49 + 2 * t) 0 2 = (qm_JI h) 74 0 t ∧ 0 ≤ (qm_JI h) 74 0 t ∧ (qm_JI h) 74 0 t ≤ 60 ∧ ((qm_JI h) 73 0 t = 0 → (qm_JI h) 74 0 t = 0) := fun t h_t => of_decide_eq_true (qm_all9_at c_len t h_t)
  have x_itm : ∀ t, t < 6 → ∀ i, i < 60 → h.2.2.2.1 (50 + 2 * t) 0 i = h.2.2.2.1 75 0 (60 * t + i) := fun t h_t => fun i h_i => of_decide_eq_true (qm_all9_at (qm_all9_at c_itm t h_t) i h_i)
  have x_img : (qm_JI h) 0 0 2 = (qm_JI h) 61 0 4 := of_decide_eq_true c_img
  have x_rimg : (qm_JI h) 61 0 4 = 0 := of_decide_eq_true c_rimg
  have x_slp : h.2.2.2.2.2.1 47 0 0 = some (0, 48, 0) := of_decide_eq_true c_slp
  have x_slp2 : qm_nth h.1 48 = some (Sum.inr (Sum.inl (1, 16))) := of_decide_eq_true c_slp2
  have x_slp3 : ∀ i, i < 8 → h.2.2.2.2.2.1 7 0 i = none ∧ h.2.2.2.2.2.1 24 0 i = none := fun i h_i => of_decide_eq_true (qm_all9_at c_slp3 i h_i)
  have x_sl1 : (qm_JI h) 47 0 1 = 0 := of_decide_eq_true c_sl1
  have x_sl2 : 0 ≤ (qm_JI h) 47 0 3 ∧ (qm_JI h) 47 0 3 ≤ 34 := of_decide_eq_true c_sl2
  have x_room : qm_tot h.1 ≤ 1000 ∧ qm_slt h.1 ≤ 8000 := of_decide_eq_true c_room
  have x_tall : (qm_JI h) 61 0 12 = 0 := of_decide_eq_true c_tall
  have x_tall2 : 4607182418800017408 ≤ (h.2.2.2.2.1 61 0 2).toNat ∧ (h.2.2.2.2.1 61 0 2).toNat ≤ 4670232813583204352 := of_decide_eq_true c_tall2
  have x_tall3 : (h.2.2.2.2.1 61 0 3).toNat = 0 := of_decide_eq_true c_tall3
  have rd9 : qm_Rd h.2.2.2.2.2.1 := by
    intro r i q h1 h2
    by_cases cr : r < 78
    · by_cases ci : i < 40
      · have h3 := x_rd r cr i ci
        rw [h1] at h3
        exact qm_rkb_at h2 h3
      · have h3 := qm_rf40 cr (i - 40)
        rw [show i - 40 + 40 = i by omega, h1] at h3
        cases h3
    · rw [qm_rf_hi (by omega)] at h1
      cases h1
  have mk9 : qm_Mkn h.1 (qm_JI h) h.2.2.2.2.2.1 := ⟨x_set, x_r0, x_r1, x_r2, x_r3, x_r4, x_r5, x_str, x_rstr, x_rc, x_rrc, x_odb, x_oda, x_rod, (fun i _ hi => absurd hi (by omega)), (fun d p hd hp => Or.inl (x_dek d hd p hp))⟩
  have tr9 : qm_Trn (qm_JI h) h.2.2.2.2.1 := ⟨x_qb, x_qa, x_rqb, x_rqa, x_stk, x_rstk, x_csh, x_rcsh, x_mid, x_spr⟩
  have nt9 : qm_Ntn (qm_JI h) := ⟨x_sc, x_rsc, x_ec, x_rec, x_see, x_rsee, x_evt, x_revt, x_rule, x_rrule⟩
  exact ⟨(fun r hr => x_sd r (Nat.le_of_ble_eq_true hr)), rd9, mk9, tr9, nt9, x_tx, x_rtx, x_sgn, x_srt, x_len, (fun t i h1 h2 => x_itm t h1 i h2), x_img, Or.inl x_rimg, (fun h9 => absurd h9 (by omega)), ⟨⟨48, 16, x_slp, Or.inl rfl, x_slp2, Or.inl rfl⟩, fun i hi => ⟨Or.inl (x_slp3 i hi).1, Or.inl (x_slp3 i hi).2⟩⟩, x_sl1, x_sl2, ⟨by have := x_room.1; omega, by have := x_room.2; omega⟩, ⟨⟨0, by rw [x_tall]; decide, ⟨x_tall2.1, x_tall2.2⟩, Or.inl x_tall3⟩, fun h9 => absurd h9 (by omega)⟩⟩
def qm_cko (o : Option (Option qm_V × qm_Hp)) : Bool := match o with
  | some (none, h) => qm_ckb h
  | _ => false
theorem qm_ckall : qm_cko qm_rn2 = true := by decide +kernel
theorem qm_st91 : ∃ h1 h2, qm_rn1 = some (none, h1) ∧ h1.1.length = 61 ∧ qm_runN qm_Pn 1200 (qm_Pn 57) 0 [(0, qm_R (some (0, 61, 0)))] [] (qm_new h1 (Sum.inl 9)) = some (none, h2) ∧ qm_ckb h2 = true := by
  have a := qm_ln91
  have b := qm_ckall
  unfold qm_rn2 at b
  cases e1 : qm_rn1 with
  | none => rw [e1] at b; cases b
  | some q =>
    obtain ⟨v, h1⟩ := q
    cases v with
    | some v => rw [e1] at b; cases b
    | none =>
      rw [e1] at a b
      dsimp only at b
      cases e2 : qm_runN qm_Pn 1200 (qm_Pn 57) 0 [(0, qm_R (some (0, 61, 0)))] [] (qm_new h1 (Sum.inl 9)) with
      | none => rw [e2] at b; cases b
      | some q2 =>
        obtain ⟨v2, h2⟩ := q2
        cases v2 with
        | some v2 => rw [e2] at b; cases b
        | none =>
          rw [e2] at b
          exact ⟨h1, h2, rfl, a, e2, b⟩
theorem qm_start {X : Nat × (Nat → Int32)} {Q : Option qm_V → qm_Hp → Prop} (k : ∀ (S : List qm_Sh) (J K : qm_J) (L : qm_Ct Int64) (D : qm_Ct UInt64) (R : qm_Ct (Option qm_Rf)), qm_Inv S J K L D R 0 → qm_G qm_P qm_P222 18 [(3, qm_I (qm_i 0)), (2, qm_R (some (0, 61, 0))), (1, qm_R (some (0, 0, 0))), (0, qm_R (some (2, 0, 0)))] [] (qm_H S J K L D R X) Q) : qm_G qm_P qm_P222 0 [(0, qm_R (some (2, 0, 0)))] [] (qm_h0 X) Q := by
  obtain ⟨h1, h2, e1, e2, e3, e4⟩ := qm_st91
  have r1 := qm_runN_sx (fun y => qm_Pn_s y) qm_Pn_b X _ _ _ _ _ _ _ _ e1
  have r2 := qm_runN_sx (fun y => qm_Pn_s y) qm_Pn_b X _ _ _ _ _ _ _ _ e3
  have hi := qm_ck_inv e4
  have eh : qm_sx h2 X = qm_H h2.1 (qm_JI h2) (qm_KI h2) h2.2.2.2.1 h2.2.2.2.2.1 h2.2.2.2.2.2.1 X := by
    show (h2.1, h2.2.1, h2.2.2.1, _) = (h2.1, (fun r s i => qm_i (qm_JI h2 r s i)), (fun r s i => qm_b (qm_KI h2 r s i)), _)
    have a : (fun r s i => qm_i (qm_JI h2 r s i)) = h2.2.1 := by funext r s i; exact qm_i_self _
    have b : (fun r s i => qm_b (qm_KI h2 r s i)) = h2.2.2.1 := by funext r s i; exact Int8.ofInt_toInt _
    rw [a, b]
  refine qm_G.op rfl (show _ = some (3, [(0, qm_R (some (2, 0, 0)))], [qm_R (some (0, 0, 0))], qm_new (qm_h0 X) (Sum.inl 0)) from rfl) ?_
  refine qm_G.op rfl (show _ = some (4, [(0, qm_R (some (2, 0, 0)))], [qm_R (some (0, 0, 0)), qm_R (some (0, 0, 0))], qm_new (qm_h0 X) (Sum.inl 0)) from rfl) ?_
  refine qm_G.callv rfl rfl rfl ⟨_, _, _, r1, rfl, ?_⟩
  refine qm_G.op rfl rfl ?_
  refine qm_G.op rfl (show _ = some (11, _, [qm_R (some (0, (qm_sx h1 X).1.length, 0))], qm_new (qm_sx h1 X) (Sum.inl 9)) from rfl) ?_
  rw [show (qm_sx h1 X).1.length = 61 from e2]
  refine qm_G.op rfl rfl ?_
  refine qm_G.callv rfl rfl ?_ ⟨_, _, _, r2, rfl, ?_⟩
  · have e9 : qm_nth (qm_new (qm_sx h1 X) (Sum.inl 9)).1 61 = some (Sum.inl 9) := by
      have h9 := qm_nth_ae h1.1 (Sum.inl 9)
      rw [e2] at h9
      exact h9
    have e8 : qm_rcv (qm_new (qm_sx h1 X) (Sum.inl 9)) (some 9) [qm_R (some (0, 61, 0))] = true := by
      show (match qm_nth (qm_new (qm_sx h1 X) (Sum.inl 9)).1 61 with | some (Sum.inl c) => _ | _ => _) = _
      rw [e9]
      rfl
    rw [e8]
    rfl
  rw [eh]
  refine qm_G.op rfl rfl ?_
  refine qm_G.op rfl rfl ?_
  refine qm_G.op rfl rfl ?_
  exact k _ _ _ _ _ _ hi
