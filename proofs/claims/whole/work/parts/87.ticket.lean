/-! THE TICKET -/
def qm_qc (b : Int) : Int := if b = 6 then 45 else 48 + b
def qm_tb (s : Int) : Nat := if 0 < s then 32 else if s < 0 then 33 else 34
def qm_tn (s : Int) : Nat := if 0 < s then 5 else if s < 0 then 6 else 5
def qm_tkp (F : Nat → Int) (s c b a : Int) (n1 n2 : Nat) : Prop := (∀ j, j < n1 → F j = qm_dg s n1 j) ∧ F n1 = 32 ∧ (∀ j, j < n2 → F (n1 + 1 + j) = qm_dg c n2 j) ∧ F (n1 + n2 + 1) = 32 ∧ F (n1 + n2 + 2) = qm_qc b ∧ F (n1 + n2 + 3) = 47 ∧ F (n1 + n2 + 4) = qm_qc a ∧ ∀ j, j < qm_tn s → F (n1 + n2 + 5 + j) = (qm_SB (qm_tb s) j).toInt
def qm_tkf (s c b a : Int) (n1 n2 : Nat) : Nat → Int := fun i => if i < n1 then qm_dg s n1 i else if i = n1 then 32 else if i < n1 + 1 + n2 then qm_dg c n2 (i - (n1 + 1)) else if i = n1 + n2 + 1 then 32 else if i = n1 + n2 + 2 then qm_qc b else if i = n1 + n2 + 3 then 47 else if i = n1 + n2 + 4 then qm_qc a else (qm_SB (qm_tb s) (i - (n1 + n2 + 5))).toInt
theorem qm_tkf_ok {s c b a : Int} {n1 n2 : Nat} : qm_tkp (qm_tkf s c b a n1 n2) s c b a n1 n2 := by
  refine ⟨fun j hj => if_pos hj, ?_, fun j hj => ?_, ?_, ?_, ?_, ?_, fun j hj => ?_⟩
  all_goals unfold qm_tkf
  · rw [if_neg (by omega), if_pos rfl]
  · rw [if_neg (by omega), if_neg (by omega), if_pos (by omega), show n1 + 1 + j - (n1 + 1) = j by omega]
  · rw [if_neg (by omega), if_neg (by omega), if_neg (by omega), if_pos rfl]
  · rw [if_neg (by omega), if_neg (by omega), if_neg (by omega), if_neg (by omega), if_pos rfl]
  · rw [if_neg (by omega), if_neg (by omega), if_neg (by omega), if_neg (by omega), if_neg (by omega), if_pos rfl]
  · rw [if_neg (by omega), if_neg (by omega), if_neg (by omega), if_neg (by omega), if_neg (by omega), if_neg (by omega), if_pos rfl]
  · rw [if_neg (by omega), if_neg (by omega), if_neg (by omega), if_neg (by omega), if_neg (by omega), if_neg (by omega), if_neg (by omega), show n1 + n2 + 5 + j - (n1 + n2 + 5) = j by omega]
theorem qm_dn_q {b : Int} (h : 0 ≤ b ∧ b ≤ 5) : qm_dn b.natAbs 1 := ⟨by decide, show b.natAbs < 10 by omega, Or.inr rfl⟩
theorem qm_dn_ex {y : Nat} (h : y ≤ 2147483648) : ∃ d, qm_dn y d ∧ d ≤ 10 := by
  rcases (show y < 10 ∨ (10 ≤ y ∧ y < 100) ∨ (100 ≤ y ∧ y < 1000) ∨ (1000 ≤ y ∧ y < 10000) ∨ (10000 ≤ y ∧ y < 100000) ∨ (100000 ≤ y ∧ y < 1000000) ∨ (1000000 ≤ y ∧ y < 10000000) ∨ (10000000 ≤ y ∧ y < 100000000) ∨ (100000000 ≤ y ∧ y < 1000000000) ∨ 1000000000 ≤ y by omega) with c | c | c | c | c | c | c | c | c | c
  · exact ⟨1, ⟨by decide, show y < 10 by omega, Or.inr rfl⟩, by decide⟩
  · exact ⟨2, ⟨by decide, show y < 100 by omega, Or.inl (show 10 ≤ y by omega)⟩, by decide⟩
  · exact ⟨3, ⟨by decide, show y < 1000 by omega, Or.inl (show 100 ≤ y by omega)⟩, by decide⟩
  · exact ⟨4, ⟨by decide, show y < 10000 by omega, Or.inl (show 1000 ≤ y by omega)⟩, by decide⟩
  · exact ⟨5, ⟨by decide, show y < 100000 by omega, Or.inl (show 10000 ≤ y by omega)⟩, by decide⟩
  · exact ⟨6, ⟨by decide, show y < 1000000 by omega, Or.inl (show 100000 ≤ y by omega)⟩, by decide⟩
  · exact ⟨7, ⟨by decide, show y < 10000000 by omega, Or.inl (show 1000000 ≤ y by omega)⟩, by decide⟩
  · exact ⟨8, ⟨by decide, show y < 100000000 by omega, Or.inl (show 10000000 ≤ y by omega)⟩, by decide⟩
  · exact ⟨9, ⟨by decide, show y < 1000000000 by omega, Or.inl (show 100000000 ≤ y by omega)⟩, by decide⟩
  · exact ⟨10, ⟨by decide, show y < 10000000000 by omega, Or.inl (show 1000000000 ≤ y by omega)⟩, by decide⟩
theorem qm_dn_le {y d : Nat} (h : qm_dn y d) (c : y ≤ 2147483648) : d ≤ 10 := by
  obtain ⟨e, h1, h2⟩ := qm_dn_ex c
  rw [qm_dn_uni h h1]
  exact h2
theorem qm_Inv.l78 {S : List qm_Sh} (hS : qm_Sd S) : 78 ≤ S.length := by
  have h1 : qm_nth S 77 = qm_sh 77 := hS 77 rfl
  obtain ⟨v, h2⟩ : ∃ v, qm_sh 77 = some v := ⟨_, rfl⟩
  have := qm_nth_lt S 77 v (h1.trans h2)
  omega
theorem qm_Tq.ini {S : List qm_Sh} {J J' K : qm_J} {L : qm_Ct Int64} {D : qm_Ct UInt64} {R : qm_Ct (Option qm_Rf)} {q n : Nat} {F : Nat → Int} (hS : qm_Sd S) (hR : qm_Rd R) (h1 : R 47 0 0 = some (0, q, 0)) (h2 : q = 48 ∨ 78 ≤ q) (h3 : qm_nth S q = some (Sum.inr (Sum.inl (1, n)))) (h4 : n = 16 ∨ n = 34) (h5 : J 47 0 1 = 0) (e : ∀ r s i, ¬ (r = 47 ∧ (i = 2 ∨ i = 3)) → J' r s i = J r s i) (z : J' 47 0 3 = 0) : qm_Tq S S J J' K K L L D D R R q n 0 F :=
  ⟨hS, hR, qm_Inv.l78 hS, fun _ _ h => h, fun r s i _ h => e r s i h, fun _ _ _ _ _ => rfl, fun _ _ _ _ => rfl, fun _ _ _ _ => rfl, fun _ _ _ _ _ => rfl, h1, h2, h3, h4, (e 47 0 1 (by omega)).trans h5, z, ⟨by decide, by omega⟩, fun i hi => absurd hi (by omega), ⟨fun _ => ⟨rfl, rfl⟩, by omega, by omega⟩, Nat.le_refl _⟩
theorem qm_d_wq {S0 S : List qm_Sh} {J0 J K0 K : qm_J} {L0 L : qm_Ct Int64} {D0 D : qm_Ct UInt64} {R0 R : qm_Ct (Option qm_Rf)} {q n : Nat} {m : Int} {F : Nat → Int} {X : Nat × (Nat → Int32)} {Q : Option qm_V → qm_Hp → Prop} {b : Int} (T : qm_Tq S0 S J0 J K0 K L0 L D0 D R0 R q n m F) (rb : 0 ≤ b ∧ b ≤ 6) (h1 : m + 1 ≤ 34) (hF : F m.toNat = qm_qc b) (k : ∀ S' J' K' L' D' R' q' n', qm_Tq S0 S' J0 J' K0 K' L0 L' D0 D' R0 R' q' n' (m + 1) F → Q none (qm_H S' J' K' L' D' R' X)) : qm_C qm_P 210 [qm_R (some (0, 0, 0)), qm_I (qm_i b)] (qm_H S J K L D R X) Q := by
  have gn1 := T.hn
  have gm2 := T.rm
  refine qm_C.go (cd := qm_P210) (lv := [(0, qm_R (some (0, 0, 0))), (1, qm_I (qm_i b))]) rfl rfl ?_
  refine qm_G.s1 rfl (qm_x_iload rfl) ?_
  refine qm_G.s1 rfl (qm_x_pushI 6 rfl) ?_
  refine qm_y_icmp_ne rfl ⟨by omega, by omega⟩ ⟨by decide, by decide⟩ (fun c3 => ?_) (fun c3 => ?_)
  · refine qm_G.sp (lv1 := [(0, qm_R (some (0, 0, 0))), (1, qm_I (qm_i b))]) rfl rfl (qm_x_aload rfl) ?_
    refine qm_G.s1 rfl (qm_x_getfR (q := (some (0, 47, 0))) (T.sd 0 rfl) (T.rd 0 6 47 rfl rfl)) ?_
    refine qm_G.s1 rfl (qm_x_iload rfl) ?_
    refine qm_G.cm rfl rfl (T.sd 47 rfl) rfl ?_
    have hsg : qm_sgn b 1 = 1 := if_neg (by omega)
    refine qm_d_api (d := 1) T (by omega) (qm_dn_q (by omega)) (by rw [hsg]; omega) (fun j hj => ?_) (fun S4 J4 K4 L4 D4 R4 q4 n4 T4 => ⟨_, rfl, ?_⟩)
    · rw [hsg] at hj ⊢
      rw [show j = 0 by omega, Nat.add_zero, hF]
      unfold qm_qc qm_dg
      rw [if_neg (by omega), if_neg (by omega), show 1 - 1 - 0 = 0 from rfl, Nat.pow_zero, Nat.div_one]
      omega
    rw [hsg] at T4
    have gn4 := T4.hn
    have gm4 := T4.rm
    refine qm_G.s1 rfl (qm_x_popR) ?_
    exact qm_G.retv rfl (k _ _ _ _ _ _ _ _ T4)
  · refine qm_G.s1 rfl (qm_x_aload rfl) ?_
    refine qm_G.s1 rfl (qm_x_getfR (q := (some (0, 47, 0))) (T.sd 0 rfl) (T.rd 0 6 47 rfl rfl)) ?_
    refine qm_G.s1 rfl (qm_x_pushI 45 rfl) ?_
    refine qm_G.cm rfl rfl (T.sd 47 rfl) rfl ?_
    refine qm_d_apc T (by omega) (hF.trans (if_pos (by omega))) (by decide) (fun S5 J5 K5 L5 D5 R5 q5 n5 T5 => ⟨_, rfl, ?_⟩)
    have gn5 := T5.hn
    have gm5 := T5.rm
    refine qm_G.s1 rfl (qm_x_popR) ?_
    refine qm_G.s1 rfl (qm_x_goto) ?_
    exact qm_G.retv rfl (k _ _ _ _ _ _ _ _ T5)
theorem qm_d_wtk {S : List qm_Sh} {J : qm_J} {L : qm_Ct Int64} {D : qm_Ct UInt64} {R : qm_Ct (Option qm_Rf)} {X : Nat × (Nat → Int32)} {Q : Option qm_V → qm_Hp → Prop} {K : qm_J} {k d1 d2 : Nat} {F : Nat → Int} (hI : qm_Inv S J K L D R k) (hd1 : qm_dn (J 62 0 10).natAbs d1) (hd2 : qm_dn (J 62 0 11).natAbs d2) (b1 : qm_sgn (J 62 0 10) d1 ≤ 2) (b2 : qm_sgn (J 62 0 11) d2 ≤ 11) (hF : qm_tkp F (J 62 0 10) (J 62 0 11) (J 62 0 8) (J 62 0 9) (qm_sgn (J 62 0 10) d1) (qm_sgn (J 62 0 11) d2)) (kc : ∀ S' J' K' L' D' R' q' n' m', m' = ((qm_sgn (J 62 0 10) d1 + qm_sgn (J 62 0 11) d2 + 5 + qm_tn (J 62 0 10) : Nat) : Int) → qm_Tq S S' J J' K K' L L' D D' R R' q' n' m' F → Q none (qm_H S' J' K' L' D' R' X)) : qm_C qm_P 217 [qm_R (some (0, 0, 0))] (qm_H S J K L D R X) Q := by
  have r8 := hI.tr.rqb
  have r9 := hI.tr.rqa
  have r10 := hI.tr.rstk
  have r11 := hI.tr.rcsh
  obtain ⟨⟨q0, n0, hq0, hq1, hq2, hq3⟩, -⟩ := hI.slp
  have n78 := qm_Inv.l78 hI.sd
  obtain ⟨f1, f2, f3, f4, f5, f6, f7, f8⟩ := hF
  refine qm_C.go (cd := qm_P217) (lv := [(0, qm_R (some (0, 0, 0)))]) rfl rfl ?_
  refine qm_G.s1 rfl (qm_x_aload rfl) ?_
  refine qm_G.s1 rfl (qm_x_getfR (q := (some (0, 1, 0))) (hI.sd 0 rfl) (hI.rd 0 0 1 rfl rfl)) ?_
  refine qm_G.s1 rfl (qm_x_getfR (q := (some (0, 9, 0))) (hI.sd 1 rfl) (hI.rd 1 1 9 rfl rfl)) ?_
  refine qm_G.s1 rfl (qm_x_astore (lv' := [(1, qm_R (some (0, 9, 0))), (0, qm_R (some (0, 0, 0)))]) rfl) ?_
  refine qm_G.s1 rfl (qm_x_aload rfl) ?_
  refine qm_G.s1 rfl (qm_x_getfR (q := (some (0, 47, 0))) (hI.sd 0 rfl) (hI.rd 0 6 47 rfl rfl)) ?_
  refine qm_G.s1 rfl (qm_x_pushI 0 rfl) ?_
  refine qm_G.cmv rfl rfl (hI.sd 47 rfl) rfl ?_
  refine qm_C.go (cd := qm_P200) (lv := [(0, qm_R (some (0, 47, 0))), (1, qm_I (qm_i 0))]) rfl rfl ?_
  refine qm_G.s1 rfl (qm_x_aload rfl) ?_
  refine qm_G.s1 rfl (qm_x_iload rfl) ?_
  refine qm_G.cmv rfl rfl (hI.sd 47 rfl) rfl ?_
  refine qm_d_setl hI.sd hI.rd hq0 hq2 hq3 hI.sl1 hI.sl2 (fun J0 e0 z0 => ⟨rfl, ?_⟩)
  have T0 : qm_Tq S S J J0 K K L L D D R R q0 n0 0 F := qm_Tq.ini hI.sd hI.rd hq0 hq1 hq2 hq3 hI.sl1 e0 z0
  have gn0 := T0.hn
  have gm0 := T0.rm
  refine qm_G.retv rfl ⟨rfl, ?_⟩
  refine qm_G.s1 rfl (qm_x_aload rfl) ?_
  refine qm_G.s1 rfl (qm_x_getfR (q := (some (0, 47, 0))) (T0.sd 0 rfl) (T0.rd 0 6 47 rfl rfl)) ?_
  refine qm_G.s1 rfl (qm_x_aload rfl) ?_
  refine qm_G.s1 rfl (qm_x_getfI (v := (J 62 0 10)) (T0.sd 9 rfl) (Eq.trans (T0.eJ 9 0 1 (by omega) (by omega)) hI.tr.stk)) ?_
  refine qm_G.cm rfl rfl (T0.sd 47 rfl) rfl ?_
  refine qm_d_api (d := d1) T0 (by omega) hd1 (by omega) (fun j hj => ?_) (fun S1 J1 K1 L1 D1 R1 q1 n1 T1 => ⟨_, rfl, ?_⟩)
  · rw [show Int.toNat 0 + j = j by omega]; exact f1 j hj
  have gn1 := T1.hn
  have gm1 := T1.rm
  refine qm_G.s1 rfl (qm_x_pushI 32 rfl) ?_
  refine qm_G.cm rfl rfl (T1.sd 47 rfl) rfl ?_
  refine qm_d_apc T1 (by omega) (by rw [show Int.toNat (0 + (qm_sgn (J 62 0 10) d1 : Int)) = qm_sgn (J 62 0 10) d1 by omega]; exact f2) (by decide) (fun S2 J2 K2 L2 D2 R2 q2 n2 T2 => ⟨_, rfl, ?_⟩)
  have gn2 := T2.hn
  have gm2 := T2.rm
  refine qm_G.s1 rfl (qm_x_aload rfl) ?_
  refine qm_G.s1 rfl (qm_x_getfI (v := (J 62 0 11)) (T2.sd 9 rfl) (Eq.trans (T2.eJ 9 0 2 (by omega) (by omega)) hI.tr.csh)) ?_
  refine qm_G.cm rfl rfl (T2.sd 47 rfl) rfl ?_
  refine qm_d_api (d := d2) T2 (by omega) hd2 (by omega) (fun j hj => ?_) (fun S3 J3 K3 L3 D3 R3 q3 n3 T3 => ⟨_, rfl, ?_⟩)
  · rw [show Int.toNat (0 + (qm_sgn (J 62 0 10) d1 : Int) + 1) + j = qm_sgn (J 62 0 10) d1 + 1 + j by omega]; exact f3 j hj
  have gn3 := T3.hn
  have gm3 := T3.rm
  refine qm_G.s1 rfl (qm_x_pushI 32 rfl) ?_
  refine qm_G.cm rfl rfl (T3.sd 47 rfl) rfl ?_
  refine qm_d_apc T3 (by omega) (by rw [show Int.toNat (0 + (qm_sgn (J 62 0 10) d1 : Int) + 1 + (qm_sgn (J 62 0 11) d2 : Int)) = qm_sgn (J 62 0 10) d1 + qm_sgn (J 62 0 11) d2 + 1 by omega]; exact f4) (by decide) (fun S4 J4 K4 L4 D4 R4 q4 n4 T4 => ⟨_, rfl, ?_⟩)
  have gn4 := T4.hn
  have gm4 := T4.rm
  refine qm_G.s1 rfl (qm_x_popR) ?_
  refine qm_G.s1 rfl (qm_x_aload rfl) ?_
  refine qm_G.s1 rfl (qm_x_aload rfl) ?_
  refine qm_G.s1 rfl (qm_x_getfR (q := (some (0, 10, 0))) (T4.sd 9 rfl) (T4.rd 9 0 10 rfl rfl)) ?_
  refine qm_G.s1 rfl (qm_x_pushI 0 rfl) ?_
  refine qm_G.s1 rfl (qm_x_iald (v := (J 62 0 8)) (qm_arS T4.sd rfl rfl) rfl (by decide) (by decide) (by decide) (Eq.trans (T4.eJ 10 0 0 (by omega) (by omega)) hI.tr.qb)) ?_
  refine qm_G.cmv rfl rfl (T4.sd 0 rfl) rfl ?_
  refine qm_d_wq T4 (by omega) (by omega) (by rw [show Int.toNat (0 + (qm_sgn (J 62 0 10) d1 : Int) + 1 + (qm_sgn (J 62 0 11) d2 : Int) + 1) = qm_sgn (J 62 0 10) d1 + qm_sgn (J 62 0 11) d2 + 2 by omega]; exact f5) (fun S5 J5 K5 L5 D5 R5 q5 n5 T5 => ⟨rfl, ?_⟩)
  have gn5 := T5.hn
  have gm5 := T5.rm
  refine qm_G.s1 rfl (qm_x_aload rfl) ?_
  refine qm_G.s1 rfl (qm_x_getfR (q := (some (0, 47, 0))) (T5.sd 0 rfl) (T5.rd 0 6 47 rfl rfl)) ?_
  refine qm_G.s1 rfl (qm_x_pushI 47 rfl) ?_
  refine qm_G.cm rfl rfl (T5.sd 47 rfl) rfl ?_
  refine qm_d_apc T5 (by omega) (by rw [show Int.toNat (0 + (qm_sgn (J 62 0 10) d1 : Int) + 1 + (qm_sgn (J 62 0 11) d2 : Int) + 1 + 1) = qm_sgn (J 62 0 10) d1 + qm_sgn (J 62 0 11) d2 + 3 by omega]; exact f6) (by decide) (fun S6 J6 K6 L6 D6 R6 q6 n6 T6 => ⟨_, rfl, ?_⟩)
  have gn6 := T6.hn
  have gm6 := T6.rm
  refine qm_G.s1 rfl (qm_x_popR) ?_
  refine qm_G.s1 rfl (qm_x_aload rfl) ?_
  refine qm_G.s1 rfl (qm_x_aload rfl) ?_
  refine qm_G.s1 rfl (qm_x_getfR (q := (some (0, 10, 0))) (T6.sd 9 rfl) (T6.rd 9 0 10 rfl rfl)) ?_
  refine qm_G.s1 rfl (qm_x_pushI 1 rfl) ?_
  refine qm_G.s1 rfl (qm_x_iald (v := (J 62 0 9)) (qm_arS T6.sd rfl rfl) rfl (by decide) (by decide) (by decide) (Eq.trans (T6.eJ 10 0 1 (by omega) (by omega)) hI.tr.qa)) ?_
  refine qm_G.cmv rfl rfl (T6.sd 0 rfl) rfl ?_
  refine qm_d_wq T6 (by omega) (by omega) (by rw [show Int.toNat (0 + (qm_sgn (J 62 0 10) d1 : Int) + 1 + (qm_sgn (J 62 0 11) d2 : Int) + 1 + 1 + 1) = qm_sgn (J 62 0 10) d1 + qm_sgn (J 62 0 11) d2 + 4 by omega]; exact f7) (fun S7 J7 K7 L7 D7 R7 q7 n7 T7 => ⟨rfl, ?_⟩)
  have gn7 := T7.hn
  have gm7 := T7.rm
  refine qm_G.s1 rfl (qm_x_aload rfl) ?_
  refine qm_G.s1 rfl (qm_x_getfR (q := (some (0, 47, 0))) (T7.sd 0 rfl) (T7.rd 0 6 47 rfl rfl)) ?_
  refine qm_G.s1 rfl (qm_x_aload rfl) ?_
  refine qm_G.s1 rfl (qm_x_getfI (v := (J 62 0 10)) (T7.sd 9 rfl) (Eq.trans (T7.eJ 9 0 1 (by omega) (by omega)) hI.tr.stk)) ?_
  refine qm_y_if_le rfl ⟨by omega, by omega⟩ (fun c8 => ?_) (fun c8 => ?_)
  · refine qm_G.sp (lv1 := [(1, qm_R (some (0, 9, 0)))]) rfl rfl (qm_x_aload rfl) ?_
    refine qm_G.s1 rfl (qm_x_getfI (v := (J 62 0 10)) (T7.sd 9 rfl) (Eq.trans (T7.eJ 9 0 1 (by omega) (by omega)) hI.tr.stk)) ?_
    refine qm_y_if_ge rfl ⟨by omega, by omega⟩ (fun c9 => ?_) (fun c9 => ?_)
    · refine qm_G.sp (lv1 := []) rfl rfl (qm_x_push) ?_
      refine qm_G.cm rfl rfl (T7.sd 47 rfl) rfl ?_
      have etn : qm_tn (J 62 0 10) = 5 := (if_neg (by omega)).trans (if_neg (by omega))
      have etb : qm_tb (J 62 0 10) = 34 := (if_neg (by omega)).trans (if_neg (by omega))
      rw [etn, etb] at f8
      refine qm_d_aps21 T7 (by omega) (fun j hj => by rw [show Int.toNat (0 + (qm_sgn (J 62 0 10) d1 : Int) + 1 + (qm_sgn (J 62 0 11) d2 : Int) + 1 + 1 + 1 + 1) + j = qm_sgn (J 62 0 10) d1 + qm_sgn (J 62 0 11) d2 + 5 + j by omega]; exact f8 j hj) (fun S10 J10 K10 L10 D10 R10 q10 n10 T10 => ⟨_, rfl, ?_⟩)
      have gn10 := T10.hn
      have gm10 := T10.rm
      refine qm_G.s1 rfl (qm_x_popR) ?_
      exact qm_G.retv rfl (kc _ _ _ _ _ _ _ _ _ (by rw [etn]; omega) T10)
    · refine qm_G.s1 rfl (qm_x_push) ?_
      refine qm_G.s1 rfl (qm_x_goto) ?_
      refine qm_G.cm rfl rfl (T7.sd 47 rfl) rfl ?_
      have etn : qm_tn (J 62 0 10) = 6 := (if_neg (by omega)).trans (if_pos (by omega))
      have etb : qm_tb (J 62 0 10) = 33 := (if_neg (by omega)).trans (if_pos (by omega))
      rw [etn, etb] at f8
      refine qm_d_aps20 T7 (by omega) (fun j hj => by rw [show Int.toNat (0 + (qm_sgn (J 62 0 10) d1 : Int) + 1 + (qm_sgn (J 62 0 11) d2 : Int) + 1 + 1 + 1 + 1) + j = qm_sgn (J 62 0 10) d1 + qm_sgn (J 62 0 11) d2 + 5 + j by omega]; exact f8 j hj) (fun S11 J11 K11 L11 D11 R11 q11 n11 T11 => ⟨_, rfl, ?_⟩)
      have gn11 := T11.hn
      have gm11 := T11.rm
      refine qm_G.s1 rfl (qm_x_popR) ?_
      exact qm_G.retv rfl (kc _ _ _ _ _ _ _ _ _ (by rw [etn]; omega) T11)
  · refine qm_G.s1 rfl (qm_x_push) ?_
    refine qm_G.s1 rfl (qm_x_goto) ?_
    refine qm_G.cm rfl rfl (T7.sd 47 rfl) rfl ?_
    have etn : qm_tn (J 62 0 10) = 5 := if_pos (by omega)
    have etb : qm_tb (J 62 0 10) = 32 := if_pos (by omega)
    rw [etn, etb] at f8
    refine qm_d_aps19 T7 (by omega) (fun j hj => by rw [show Int.toNat (0 + (qm_sgn (J 62 0 10) d1 : Int) + 1 + (qm_sgn (J 62 0 11) d2 : Int) + 1 + 1 + 1 + 1) + j = qm_sgn (J 62 0 10) d1 + qm_sgn (J 62 0 11) d2 + 5 + j by omega]; exact f8 j hj) (fun S12 J12 K12 L12 D12 R12 q12 n12 T12 => ⟨_, rfl, ?_⟩)
    have gn12 := T12.hn
    have gm12 := T12.rm
    refine qm_G.s1 rfl (qm_x_popR) ?_
    exact qm_G.retv rfl (kc _ _ _ _ _ _ _ _ _ (by rw [etn]; omega) T12)
