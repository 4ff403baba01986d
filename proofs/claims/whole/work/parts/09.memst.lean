theorem qm_set_off {α : Type} {f : qm_Ct α} {r s i : Nat} {v : α} : ∀ r' s' j, ¬ (r' = r ∧ s' = s) → qm_set f r s i v r' s' j = f r' s' j := fun r' s' j h => if_neg (fun z => h ⟨z.1, z.2.1⟩)
theorem qm_set_in {α : Type} (f : qm_Ct α) (r s i : Nat) (v : α) (j : Nat) : qm_set f r s i v r s j = if j = i then v else f r s j := by
  show (if r = r ∧ s = s ∧ j = i then v else f r s j) = _
  by_cases h : j = i
  · rw [if_pos ⟨rfl, rfl, h⟩, if_pos h]
  · rw [if_neg (fun z => h z.2.2), if_neg h]
theorem qm_s_iast {y : MethodName} {cc : ByteArray} {nL : Nat} {ret : Option FieldType} {fr lo pc : Nat} (hd : decode cc pc = .ok (.iastore, 1)) : qm_Snd y cc nL ret fr lo pc (qm_o_iast (pc + 1)) := by
  intro f0 e0
  cases e0
  intro Γ X p l e R s m args below meth c cx lv st h pc' lv' st' h' hf H locs ls hA hl hF kc ks kc' ks' hkc hks hc1 hs1 hsz Q kk
  obtain ⟨hx, hb, hml, hown, hnm, hts, hE, hlk, hrt, hfr, hlo⟩ := cx
  dsimp only at hf
  split at hf
  · rename_i x i a r
    split at hf
    · rename_i len rows t he
      split at hf
      · cases hf
      rename_i h9
      cases hf
      obtain rfl : kc' = kc := by dsimp only at hkc; omega
      obtain rfl : ks' = ks := by dsimp only at hks; omega
      obtain ⟨hin, hrw⟩ := qm_gd h9
      obtain ⟨r1, s1⟩ := a
      obtain ⟨sh, hn, hs, hce⟩ := qm_arr_cell (Γ := Γ) he hrw (by decide)
      have hg := qm_fl_get0 (Γ := Γ) (h := h) hn hs
      rw [hce] at hg
      refine W.iast hx hb (hA.world _ _ hg) ((hE.classes.2 0 _ (qm_tys_get (by decide))).1 len (fun j => .int (h.2.1 r1 s1 j))) (fun q => by cases q) (by show ¬ (i < 0 ∨ (arrV _ _ _).slots.size ≤ _); rw [arrV_size]; exact hin) rfl rfl hd fun H1 e z oq => ?_
      refine kk H1 _ ls (hA.put (h' := (h.1, qm_set h.2.1 r1 s1 i.toNatClampNeg x, h.2.2)) hn hs rfl rfl (qm_ce_off qm_set_off (fun _ _ _ _ => rfl) (fun _ _ _ _ => rfl) (fun _ _ _ _ => rfl) (fun _ _ _ _ => rfl)) ?_ z oq _) hl
      rw [hce]
      show H1[_]? = some (vp_cell _ _)
      rw [e]
      refine congrArg some ((arrV_store _ _ _ _ _).trans ?_)
      show arrV (Γ.2.1 0) len (updV (fun j => Value.int (h.2.1 r1 s1 j)) i.toNatClampNeg (Value.int x)) = arrV (Γ.2.1 0) len (fun j => Value.int (qm_set h.2.1 r1 s1 i.toNatClampNeg x r1 s1 j))
      refine congrArg (arrV _ _) (funext fun j => ?_)
      show updV _ _ _ j = Value.int (qm_set h.2.1 r1 s1 i.toNatClampNeg x r1 s1 j)
      rw [qm_set_in]
      by_cases hj : j = i.toNatClampNeg
      · simp [updV, hj]
      · simp [updV, hj]
    · cases hf
  · cases hf
theorem qm_s_bast {y : MethodName} {cc : ByteArray} {nL : Nat} {ret : Option FieldType} {fr lo pc : Nat} (hd : decode cc pc = .ok (.bastore, 1)) : qm_Snd y cc nL ret fr lo pc (qm_o_bast (pc + 1)) := by
  intro f0 e0
  cases e0
  intro Γ X p l e R s m args below meth c cx lv st h pc' lv' st' h' hf H locs ls hA hl hF kc ks kc' ks' hkc hks hc1 hs1 hsz Q kk
  obtain ⟨hx, hb, hml, hown, hnm, hts, hE, hlk, hrt, hfr, hlo⟩ := cx
  dsimp only at hf
  split at hf
  · rename_i x i a r
    split at hf
    · rename_i len rows t he
      split at hf
      · cases hf
      rename_i h9
      cases hf
      obtain rfl : kc' = kc := by dsimp only at hkc; omega
      obtain rfl : ks' = ks := by dsimp only at hks; omega
      obtain ⟨hin, hrw⟩ := qm_gd h9
      obtain ⟨r1, s1⟩ := a
      obtain ⟨sh, hn, hs, hce⟩ := qm_arr_cell (Γ := Γ) he hrw (by decide)
      have hg := qm_fl_get0 (Γ := Γ) (h := h) hn hs
      rw [hce] at hg
      refine W.bast hx hb (hA.world _ _ hg) ((hE.classes.2 1 _ (qm_tys_get (by decide))).1 len (fun j => .int (h.2.2.1 r1 s1 j).toInt32)) (fun q => by cases q) (by show ¬ (i < 0 ∨ (arrV _ _ _).slots.size ≤ _); rw [arrV_size]; exact hin) rfl rfl hd fun H1 e z oq => ?_
      refine kk H1 _ ls (hA.put (h' := (h.1, h.2.1, qm_set h.2.2.1 r1 s1 i.toNatClampNeg x.toInt8, h.2.2.2)) hn hs rfl rfl (qm_ce_off (fun _ _ _ _ => rfl) qm_set_off (fun _ _ _ _ => rfl) (fun _ _ _ _ => rfl) (fun _ _ _ _ => rfl)) ?_ z oq _) hl
      rw [hce]
      show H1[_]? = some (vp_cell _ _)
      rw [e]
      refine congrArg some ((arrV_store _ _ _ _ _).trans ?_)
      show arrV (Γ.2.1 1) len (updV (fun j => Value.int (h.2.2.1 r1 s1 j).toInt32) i.toNatClampNeg (narrow .byte (.int x))) = arrV (Γ.2.1 1) len (fun j => Value.int (qm_set h.2.2.1 r1 s1 i.toNatClampNeg x.toInt8 r1 s1 j).toInt32)
      refine congrArg (arrV _ _) (funext fun j => ?_)
      show updV _ _ _ j = Value.int (qm_set h.2.2.1 r1 s1 i.toNatClampNeg x.toInt8 r1 s1 j).toInt32
      rw [qm_set_in]
      by_cases hj : j = i.toNatClampNeg
      · simp [updV, hj]
        try rfl
      · simp [updV, hj]
    · cases hf
  · cases hf
theorem qm_s_last {y : MethodName} {cc : ByteArray} {nL : Nat} {ret : Option FieldType} {fr lo pc : Nat} (hd : decode cc pc = .ok (.lastore, 1)) : qm_Snd y cc nL ret fr lo pc (qm_o_last (pc + 1)) := by
  intro f0 e0
  cases e0
  intro Γ X p l e R s m args below meth c cx lv st h pc' lv' st' h' hf H locs ls hA hl hF kc ks kc' ks' hkc hks hc1 hs1 hsz Q kk
  obtain ⟨hx, hb, hml, hown, hnm, hts, hE, hlk, hrt, hfr, hlo⟩ := cx
  dsimp only at hf
  split at hf
  · rename_i x i a r
    split at hf
    · rename_i len rows t he
      split at hf
      · cases hf
      rename_i h9
      cases hf
      obtain rfl : kc' = kc := by dsimp only at hkc; omega
      obtain rfl : ks' = ks := by dsimp only at hks; omega
      obtain ⟨hin, hrw⟩ := qm_gd h9
      obtain ⟨r1, s1⟩ := a
      obtain ⟨sh, hn, hs, hce⟩ := qm_arr_cell (Γ := Γ) he hrw (by decide)
      have hg := qm_fl_get0 (Γ := Γ) (h := h) hn hs
      rw [hce] at hg
      refine W.last hx hb (hA.world _ _ hg) ((hE.classes.2 2 _ (qm_tys_get (by decide))).1 len (fun j => .long (h.2.2.2.1 r1 s1 j))) (fun q => by cases q) (by show ¬ (i < 0 ∨ (arrV _ _ _).slots.size ≤ _); rw [arrV_size]; exact hin) rfl rfl hd fun H1 e z oq => ?_
      refine kk H1 _ ls (hA.put (h' := (h.1, h.2.1, h.2.2.1, qm_set h.2.2.2.1 r1 s1 i.toNatClampNeg x, h.2.2.2.2)) hn hs rfl rfl (qm_ce_off (fun _ _ _ _ => rfl) (fun _ _ _ _ => rfl) qm_set_off (fun _ _ _ _ => rfl) (fun _ _ _ _ => rfl)) ?_ z oq _) hl
      rw [hce]
      show H1[_]? = some (vp_cell _ _)
      rw [e]
      refine congrArg some ((arrV_store _ _ _ _ _).trans ?_)
      show arrV (Γ.2.1 2) len (updV (fun j => Value.long (h.2.2.2.1 r1 s1 j)) i.toNatClampNeg (Value.long x)) = arrV (Γ.2.1 2) len (fun j => Value.long (qm_set h.2.2.2.1 r1 s1 i.toNatClampNeg x r1 s1 j))
      refine congrArg (arrV _ _) (funext fun j => ?_)
      show updV _ _ _ j = Value.long (qm_set h.2.2.2.1 r1 s1 i.toNatClampNeg x r1 s1 j)
      rw [qm_set_in]
      by_cases hj : j = i.toNatClampNeg
      · simp [updV, hj]
      · simp [updV, hj]
    · cases hf
  · cases hf
theorem qm_s_dast {y : MethodName} {cc : ByteArray} {nL : Nat} {ret : Option FieldType} {fr lo pc : Nat} (hd : decode cc pc = .ok (.dastore, 1)) : qm_Snd y cc nL ret fr lo pc (qm_o_dast (pc + 1)) := by
  intro f0 e0
  cases e0
  intro Γ X p l e R s m args below meth c cx lv st h pc' lv' st' h' hf H locs ls hA hl hF kc ks kc' ks' hkc hks hc1 hs1 hsz Q kk
  obtain ⟨hx, hb, hml, hown, hnm, hts, hE, hlk, hrt, hfr, hlo⟩ := cx
  dsimp only at hf
  split at hf
  · rename_i x i a r
    split at hf
    · rename_i len rows t he
      split at hf
      · cases hf
      rename_i h9
      cases hf
      obtain rfl : kc' = kc := by dsimp only at hkc; omega
      obtain rfl : ks' = ks := by dsimp only at hks; omega
      obtain ⟨hin, hrw⟩ := qm_gd h9
      obtain ⟨r1, s1⟩ := a
      obtain ⟨sh, hn, hs, hce⟩ := qm_arr_cell (Γ := Γ) he hrw (by decide)
      have hg := qm_fl_get0 (Γ := Γ) (h := h) hn hs
      rw [hce] at hg
      refine W.dast hx hb (hA.world _ _ hg) ((hE.classes.2 3 _ (qm_tys_get (by decide))).1 len (fun j => .double (h.2.2.2.2.1 r1 s1 j))) (fun q => by cases q) (by show ¬ (i < 0 ∨ (arrV _ _ _).slots.size ≤ _); rw [arrV_size]; exact hin) rfl rfl hd fun H1 e z oq => ?_
      refine kk H1 _ ls (hA.put (h' := (h.1, h.2.1, h.2.2.1, h.2.2.2.1, qm_set h.2.2.2.2.1 r1 s1 i.toNatClampNeg x, h.2.2.2.2.2)) hn hs rfl rfl (qm_ce_off (fun _ _ _ _ => rfl) (fun _ _ _ _ => rfl) (fun _ _ _ _ => rfl) qm_set_off (fun _ _ _ _ => rfl)) ?_ z oq _) hl
      rw [hce]
      show H1[_]? = some (vp_cell _ _)
      rw [e]
      refine congrArg some ((arrV_store _ _ _ _ _).trans ?_)
      show arrV (Γ.2.1 3) len (updV (fun j => Value.double (h.2.2.2.2.1 r1 s1 j)) i.toNatClampNeg (Value.double x)) = arrV (Γ.2.1 3) len (fun j => Value.double (qm_set h.2.2.2.2.1 r1 s1 i.toNatClampNeg x r1 s1 j))
      refine congrArg (arrV _ _) (funext fun j => ?_)
      show updV _ _ _ j = Value.double (qm_set h.2.2.2.2.1 r1 s1 i.toNatClampNeg x r1 s1 j)
      rw [qm_set_in]
      by_cases hj : j = i.toNatClampNeg
      · simp [updV, hj]
      · simp [updV, hj]
    · cases hf
  · cases hf
/-! fields -/
theorem qm_fs_get (Γ : qm_Cn) (h : qm_Hp) (r : Nat) : ∀ (l : List Nat) (k0 k : Nat), (qm_fs Γ h r k0 l)[k]? = (l[k]?).map (fun t => qm_fv Γ h r (k0 + k) t)
  | [], _, _ => rfl
  | t :: l, k0, 0 => rfl
  | t :: l, k0, k + 1 => by
    show (qm_fs Γ h r (k0 + 1) l)[k]? = (l[k]?).map (fun t => qm_fv Γ h r (k0 + (k + 1)) t)
    rw [qm_fs_get Γ h r l (k0 + 1) k, show k0 + 1 + k = k0 + (k + 1) by omega]
theorem qm_fs_len (Γ : qm_Cn) (h : qm_Hp) (r : Nat) : ∀ (l : List Nat) (k0 : Nat), (qm_fs Γ h r k0 l).length = l.length
  | [], _ => rfl
  | t :: l, k0 => by
    show (qm_fs Γ h r (k0 + 1) l).length + 1 = l.length + 1
    rw [qm_fs_len Γ h r l]
theorem qm_fs_set {Γ : qm_Cn} {h h' : qm_Hp} {r k : Nat} {l : List Nat} {v : Value} {t : Nat} (ht : l[k]? = some t) (hv : qm_fv Γ h' r k t = v) (ho : ∀ j t', j ≠ k → qm_fv Γ h' r j t' = qm_fv Γ h r j t') : qm_fs Γ h' r 0 l = (qm_fs Γ h r 0 l).set k v := by
  apply List.ext_getElem?
  intro j
  rw [qm_fs_get]
  by_cases hj : j = k
  · subst hj
    have hlt : j < l.length := (List.getElem?_eq_some_iff.mp ht).1
    rw [List.getElem?_set_self (by rw [qm_fs_len]; exact hlt), ht, ← hv, Nat.zero_add]
    rfl
  · rw [List.getElem?_set_ne (fun z => hj z.symm), qm_fs_get]
    cases hl : l[j]? with
    | none => rfl
    | some t' =>
      show some (qm_fv Γ h' r (0 + j) t') = some (qm_fv Γ h r (0 + j) t')
      rw [Nat.zero_add, ho j t' hj]
theorem qm_s_getf {y : MethodName} {cc : ByteArray} {nL : Nat} {ret : Option FieldType} {fr lo pc : Nat} {ci k t N index : Nat} {C : String} {T : u_T} (hd : decode cc pc = .ok (.getfield index, 3)) (hc : qm_cl[ci]? = some (C, T, N)) (hk : k < N) (hin : ∀ w ∈ u_ws C T N, w ∈ lw_all) (hw : Cond.fieldLink y.cls index (T k).1 (T k).2.1 (T k).2.2.1 ∈ lw_all) (htg : (qm_fg ci)[k]? = some t) : qm_Snd y cc nL ret fr lo pc (qm_o_getf ci k t (pc + 3)) := by
  intro f0 e0
  cases e0
  intro Γ X p l e R s m args below meth c cx lv st h pc' lv' st' h' hf H locs ls hA hl hF kc ks kc' ks' hkc hks hc1 hs1 hsz Q kk
  obtain ⟨hx, hb, hml, hown, hnm, hts, hE, hlk, hrt, hfr, hlo⟩ := cx
  dsimp only at hf
  split at hf
  · rename_i r1 s1 r
    split at hf
    · rename_i c0 hn
      cases hbb : (Nat.beq c0 ci && Nat.beq s1 0) with
      | false => rw [hbb] at hf; cases hf
      | true =>
        rw [hbb] at hf
        simp only [Bool.and_eq_true] at hbb
        obtain rfl := Nat.eq_of_beq_eq_true hbb.1
        obtain rfl := Nat.eq_of_beq_eq_true hbb.2
        have hg := qm_fl_get0 (Γ := Γ) (h := h) (s := 0) hn Nat.zero_lt_one
        have hv : (qm_fs Γ h r1 0 (qm_fg c0))[k]? = some (qm_fv Γ h r1 k t) := by
          rw [qm_fs_get, htg, Nat.zero_add]
          rfl
        have go : ∀ (v : qm_V), qm_cv Γ v = qm_fv Γ h r1 k t → W p l e R s m args below meth c H locs kc ks Q (F0 m (pc + 3) ls (qm_cvs Γ (v :: r))) → W p l e R s m args below meth c H locs kc ks Q (F0 m pc ls (qm_cvs Γ (qm_R (some (0, r1, 0)) :: r))) := by
          intro v e9 k9
          have k9 : W p l e R s m args below meth c H locs kc ks Q (F0 m (pc + 3) ls (qm_cv Γ v :: qm_cvs Γ r)) := k9
          rw [e9] at k9
          exact va_get hx hb hts hin hown hE.classes hA.world _ hg hc k hk (hts _ hw) (fun _ h9 => h9) hv hd k9
        split at hf
        · cases hf
          obtain rfl : kc' = kc := by omega
          obtain rfl : ks' = ks := by omega
          exact go _ rfl (kk H locs ls hA hl)
        · cases hf
          obtain rfl : kc' = kc := by omega
          obtain rfl : ks' = ks := by omega
          exact go _ rfl (kk H locs ls hA hl)
        · cases hf
          obtain rfl : kc' = kc := by omega
          obtain rfl : ks' = ks := by omega
          exact go _ rfl (kk H locs ls hA hl)
        · cases hf
          obtain rfl : kc' = kc := by omega
          obtain rfl : ks' = ks := by omega
          exact go _ rfl (kk H locs ls hA hl)
        · cases hf
    · cases hf
  · cases hf
theorem qm_s_getg {y : MethodName} {cc : ByteArray} {nL : Nat} {ret : Option FieldType} {fr lo pc : Nat} {ci k t index : Nat} {o n d : String} (hd : decode cc pc = .ok (.getfield index, 3)) (hg : ((ci, k), (o, n, d), t) ∈ qm_GF) (hw : Cond.fieldLink y.cls index o n d ∈ lw_all) : qm_Snd y cc nL ret fr lo pc (qm_o_getg ci k t (pc + 3)) := by
  intro f0 e0
  cases e0
  intro Γ X p l e R s m args below meth c cx lv st h pc' lv' st' h' hf H locs ls hA hl hF kc ks kc' ks' hkc hks hc1 hs1 hsz Q kk
  obtain ⟨hx, hb, hml, hown, hnm, hts, hE, hlk, hrt, hfr, hlo⟩ := cx
  dsimp only at hf
  split at hf
  · rename_i r1 s1 r
    split at hf
    · rename_i c0 hn
      cases hbb : Nat.beq c0 ci with
      | false => rw [hbb] at hf; cases hf
      | true =>
        rw [hbb] at hf
        obtain rfl := Nat.eq_of_beq_eq_true hbb
        have hO := hE.fields hn hg
        split at hf
        · cases hf
          obtain rfl : kc' = kc := by omega
          obtain rfl : ks' = ks := by omega
          exact vk_getf hx hb hO hA.frame hown (hts _ hw) (fun _ h9 => h9) hd (kk H locs ls hA hl)
        · cases hf
          obtain rfl : kc' = kc := by omega
          obtain rfl : ks' = ks := by omega
          exact vk_getf hx hb hO hA.frame hown (hts _ hw) (fun _ h9 => h9) hd (kk H locs ls hA hl)
        · cases hf
    · cases hf
  · cases hf
