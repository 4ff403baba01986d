theorem qm_arr_cell {Γ : qm_Cn} {h : qm_Hp} {r s ty len rows t : Nat} (he : qm_arr ty h (0, r, s) = some (len, rows, t)) (hr : ¬ rows ≤ t) (h4 : ty < 4) :
    ∃ sh, qm_nth h.1 r = some sh ∧ s < qm_sz sh ∧ ∀ h' : qm_Hp, qm_ce Γ h' r sh s = .inl (Γ.2.1 ty, len, qm_cnt Γ h' r s ty) := by
  rw [qm_arr] at he
  split at he
  · rename_i ty' n hn
    cases hb : (Nat.beq ty' ty && Nat.beq s 0) with
    | false => rw [hb] at he; cases he
    | true =>
      rw [hb] at he
      cases he
      simp only [Bool.and_eq_true] at hb
      obtain rfl := Nat.eq_of_beq_eq_true hb.1
      obtain rfl := Nat.eq_of_beq_eq_true hb.2
      exact ⟨_, hn, Nat.zero_lt_one, fun _ => rfl⟩
  · rename_i tyo tyi n k hn
    cases s with
    | zero =>
      cases hb : (Nat.beq tyo ty && Nat.ble 4 ty) with
      | false => dsimp only at he; rw [hb] at he; cases he
      | true =>
        simp only [Bool.and_eq_true] at hb
        have := Nat.le_of_ble_eq_true hb.2
        omega
    | succ t0 =>
      cases hb : (Nat.beq tyi ty && Nat.blt ty 4) with
      | false => dsimp only at he; rw [hb] at he; cases he
      | true =>
        dsimp only at he
        rw [hb] at he
        cases he
        simp only [Bool.and_eq_true] at hb
        obtain rfl := Nat.eq_of_beq_eq_true hb.1
        exact ⟨_, hn, by show t + 1 < rows + 1; omega, fun _ => rfl⟩
  · cases he
theorem qm_arr_s {h : qm_Hp} {r s ty len rows t : Nat} (he : qm_arr ty h (1, r, s) = some (len, rows, t)) : qm_SS r = some (Sum.inr (Sum.inl (ty, len))) := by
  rw [qm_arr] at he
  split at he
  · rename_i ty' n hn
    cases hb : Nat.beq ty' ty with
    | false => rw [hb] at he; cases he
    | true =>
      rw [hb] at he
      cases he
      obtain rfl := Nat.eq_of_beq_eq_true hb
      exact hn
  · cases he
theorem qm_gd {i : Int32} {len rows t : Nat} (h : ¬ (i < 0 ∨ len ≤ i.toNatClampNeg ∨ rows ≤ t)) : vp_in i len ∧ ¬ rows ≤ t :=
  ⟨fun q => q.elim (fun q => h (Or.inl q)) (fun q => h (Or.inr (Or.inl q))), fun q => h (Or.inr (Or.inr q))⟩
theorem qm_s_iald {y : MethodName} {cc : ByteArray} {nL : Nat} {ret : Option FieldType} {fr lo pc : Nat} (hd : decode cc pc = .ok (.iaload, 1)) : qm_Snd y cc nL ret fr lo pc (qm_o_iald (pc + 1)) := by
  intro f0 e0
  cases e0
  intro Γ X p l e R s m args below meth c cx lv st h pc' lv' st' h' hf H locs ls hA hl hF kc ks kc' ks' hkc hks hc1 hs1 hsz Q kk
  obtain ⟨hx, hb, hml, hown, hnm, hts, hE, hlk, hrt, hfr, hlo⟩ := cx
  dsimp only at hf
  split at hf
  · rename_i i a r
    split at hf
    · rename_i len rows t he
      split at hf
      · cases hf
      rename_i h9
      cases hf
      obtain rfl : kc' = kc := by omega
      obtain rfl : ks' = ks := by omega
      obtain ⟨hin, hrw⟩ := qm_gd h9
      obtain ⟨k, r1, s1⟩ := a
      rcases k with _ | _ | k
      · obtain ⟨sh, hn, hs, hce⟩ := qm_arr_cell (Γ := Γ) he hrw (by decide)
        have hg := qm_fl_get0 (Γ := Γ) (h := h) hn hs
        rw [hce] at hg
        exact va_iald hx hb hE.classes hA.world _ 0 hg (qm_tys_get (by decide)) hin hd (kk H locs ls hA hl)
      · exact va_ti hx hb (hE.arrays (qm_arr_s he)) hA.frame hin rfl hd (kk H locs ls hA hl)
      · have e1 : len = X.1 := by
          rw [qm_arr] at he
          cases he
          exact congrArg Prod.fst hA.1
        subst e1
        have e2 : h.2.2.2.2.2.2.2 = X.2 := congrArg Prod.snd hA.1
        have kk9 := kk H locs ls hA hl
        rw [show qm_rdI h (k + 2, r1, s1) i.toNatClampNeg = X.2 i.toNatClampNeg from congrFun e2 _] at kk9
        have hb9 := hE.below
        exact va_sld hx hb hE.script (Nat.lt_of_lt_of_le hb9 hE.base) (Nat.not_le.mpr hb9) hA.frame hin hd kk9
    · cases hf
  · cases hf
theorem qm_s_bald {y : MethodName} {cc : ByteArray} {nL : Nat} {ret : Option FieldType} {fr lo pc : Nat} (hd : decode cc pc = .ok (.baload, 1)) : qm_Snd y cc nL ret fr lo pc (qm_o_bald (pc + 1)) := by
  intro f0 e0
  cases e0
  intro Γ X p l e R s m args below meth c cx lv st h pc' lv' st' h' hf H locs ls hA hl hF kc ks kc' ks' hkc hks hc1 hs1 hsz Q kk
  obtain ⟨hx, hb, hml, hown, hnm, hts, hE, hlk, hrt, hfr, hlo⟩ := cx
  dsimp only at hf
  split at hf
  · rename_i i a r
    split at hf
    · rename_i len rows t he
      split at hf
      · cases hf
      rename_i h9
      cases hf
      obtain rfl : kc' = kc := by omega
      obtain rfl : ks' = ks := by omega
      obtain ⟨hin, hrw⟩ := qm_gd h9
      obtain ⟨k, r1, s1⟩ := a
      rcases k with _ | _ | k
      · obtain ⟨sh, hn, hs, hce⟩ := qm_arr_cell (Γ := Γ) he hrw (by decide)
        have hg := qm_fl_get0 (Γ := Γ) (h := h) hn hs
        rw [hce] at hg
        exact va_bald hx hb hE.classes hA.world _ 1 hg (qm_tys_get (by decide)) hin hd (kk H locs ls hA hl)
      · exact va_tb hx hb (hE.arrays (qm_arr_s he)) hA.frame hin rfl hd (kk H locs ls hA hl)
      · rw [qm_arr] at he
        cases he
    · cases hf
  · cases hf
theorem qm_s_lald {y : MethodName} {cc : ByteArray} {nL : Nat} {ret : Option FieldType} {fr lo pc : Nat} (hd : decode cc pc = .ok (.laload, 1)) : qm_Snd y cc nL ret fr lo pc (qm_o_lald (pc + 1)) := by
  intro f0 e0
  cases e0
  intro Γ X p l e R s m args below meth c cx lv st h pc' lv' st' h' hf H locs ls hA hl hF kc ks kc' ks' hkc hks hc1 hs1 hsz Q kk
  obtain ⟨hx, hb, hml, hown, hnm, hts, hE, hlk, hrt, hfr, hlo⟩ := cx
  dsimp only at hf
  split at hf
  · rename_i i a r
    split at hf
    · rename_i len rows t he
      split at hf
      · cases hf
      rename_i h9
      cases hf
      obtain rfl : kc' = kc := by omega
      obtain rfl : ks' = ks := by omega
      obtain ⟨hin, hrw⟩ := qm_gd h9
      obtain ⟨r1, s1⟩ := a
      obtain ⟨sh, hn, hs, hce⟩ := qm_arr_cell (Γ := Γ) he hrw (by decide)
      have hg := qm_fl_get0 (Γ := Γ) (h := h) hn hs
      rw [hce] at hg
      exact va_lald hx hb hE.classes hA.world _ 2 hg (qm_tys_get (by decide)) hin hd (kk H locs ls hA hl)
    · cases hf
  · cases hf
theorem qm_s_dald {y : MethodName} {cc : ByteArray} {nL : Nat} {ret : Option FieldType} {fr lo pc : Nat} (hd : decode cc pc = .ok (.daload, 1)) : qm_Snd y cc nL ret fr lo pc (qm_o_dald (pc + 1)) := by
  intro f0 e0
  cases e0
  intro Γ X p l e R s m args below meth c cx lv st h pc' lv' st' h' hf H locs ls hA hl hF kc ks kc' ks' hkc hks hc1 hs1 hsz Q kk
  obtain ⟨hx, hb, hml, hown, hnm, hts, hE, hlk, hrt, hfr, hlo⟩ := cx
  dsimp only at hf
  split at hf
  · rename_i i a r
    split at hf
    · rename_i len rows t he
      split at hf
      · cases hf
      rename_i h9
      cases hf
      obtain rfl : kc' = kc := by omega
      obtain rfl : ks' = ks := by omega
      obtain ⟨hin, hrw⟩ := qm_gd h9
      obtain ⟨r1, s1⟩ := a
      obtain ⟨sh, hn, hs, hce⟩ := qm_arr_cell (Γ := Γ) he hrw (by decide)
      have hg := qm_fl_get0 (Γ := Γ) (h := h) hn hs
      rw [hce] at hg
      exact va_dald hx hb hE.classes hA.world _ 3 hg (qm_tys_get (by decide)) hin hd (kk H locs ls hA hl)
    · cases hf
  · cases hf
theorem qm_ft_ref : ∀ ty, 4 ≤ ty → ty < 10 → (qm_ft ty).isReference = true := by
  intro ty h1 h2
  have : ty = 4 ∨ ty = 5 ∨ ty = 6 ∨ ty = 7 ∨ ty = 8 ∨ ty = 9 := by omega
  rcases this with rfl | rfl | rfl | rfl | rfl | rfl <;> rfl
theorem qm_s_aald {y : MethodName} {cc : ByteArray} {nL : Nat} {ret : Option FieldType} {fr lo pc : Nat} (hd : decode cc pc = .ok (.aaload, 1)) : qm_Snd y cc nL ret fr lo pc (qm_o_aald (pc + 1)) := by
  intro f0 e0
  cases e0
  intro Γ X p l e R s m args below meth c cx lv st h pc' lv' st' h' hf H locs ls hA hl hF kc ks kc' ks' hkc hks hc1 hs1 hsz Q kk
  obtain ⟨hx, hb, hml, hown, hnm, hts, hE, hlk, hrt, hfr, hlo⟩ := cx
  dsimp only at hf
  split at hf
  · rename_i i a r
    split at hf
    · rename_i len he
      split at hf
      · cases hf
      rename_i h9
      cases hf
      obtain rfl : kc' = kc := by omega
      obtain rfl : ks' = ks := by omega
      have hlt : i.toNatClampNeg < len := Nat.not_le.mp fun q => h9 (Or.inr q)
      obtain ⟨k, r1, s1⟩ := a
      have kk9 := kk H locs ls hA hl
      rcases k with _ | _ | k
      · rw [qm_arrR] at he
        split at he
        · rename_i ty n hn
          cases hbb : (Nat.ble 4 ty && (Nat.blt ty 10 && Nat.beq s1 0)) with
          | false => rw [hbb] at he; cases he
          | true =>
            rw [hbb] at he
            cases he
            simp only [Bool.and_eq_true] at hbb
            have h4 := Nat.le_of_ble_eq_true hbb.1
            have h10 : ty < 10 := Nat.le_of_ble_eq_true hbb.2.1
            obtain rfl := Nat.eq_of_beq_eq_true hbb.2.2
            have hg := qm_fl_get0 (Γ := Γ) (h := h) (s := 0) hn Nat.zero_lt_one
            obtain ⟨u, rfl⟩ : ∃ u, ty = u + 4 := ⟨ty - 4, by omega⟩
            have hr : qm_rdR h (0, r1, 0) i.toNatClampNeg = h.2.2.2.2.2.1 r1 0 i.toNatClampNeg := by rw [qm_rdR, hn]
            rw [hr] at kk9
            exact W.aald (v := va_rf ((h.2.2.2.2.2.1 r1 0 i.toNatClampNeg).map (qm_ad Γ))) (ty := qm_ft (u + 4)) hx hb (hA.world _ _ hg) ((hE.classes.2 (u + 4) _ (qm_tys_get h10)).1 len (fun j => va_rf ((h.2.2.2.2.2.1 r1 0 j).map (qm_ad Γ)))) (qm_ft_ref _ h4 h10) (fun q => by cases q) (by show ¬ (i < 0 ∨ (arrV _ _ _).slots.size ≤ _); rw [arrV_size]; exact h9) (by show (arrV _ _ _).slots[_]? = _; rw [arrV_read _ _ hlt]) rfl rfl hd kk9
        · rename_i tyo tyi n k hn
          cases hbb : (Nat.ble 7 tyo && (Nat.blt tyo 10 && Nat.beq s1 0)) with
          | false => rw [hbb] at he; cases he
          | true =>
            rw [hbb] at he
            cases he
            simp only [Bool.and_eq_true] at hbb
            have h4 := Nat.le_of_ble_eq_true hbb.1
            have h10 : tyo < 10 := Nat.le_of_ble_eq_true hbb.2.1
            obtain rfl := Nat.eq_of_beq_eq_true hbb.2.2
            have hg := qm_fl_get0 (Γ := Γ) (h := h) (s := 0) hn (Nat.zero_lt_succ _)
            have hr : qm_rdR h (0, r1, 0) i.toNatClampNeg = some (0, r1, i.toNatClampNeg + 1) := by rw [qm_rdR, hn]
            rw [hr] at kk9
            exact W.aald (v := va_rf (some (qm_ad Γ (0, r1, i.toNatClampNeg + 1)))) (ty := qm_ft tyo) hx hb (hA.world _ _ hg) ((hE.classes.2 tyo _ (qm_tys_get h10)).1 len (fun j => va_rf (if j < len then some (qm_ad Γ (0, r1, j + 1)) else none))) (qm_ft_ref _ (by omega) h10) (fun q => by cases q) (by show ¬ (i < 0 ∨ (arrV _ _ _).slots.size ≤ _); rw [arrV_size]; exact h9) (by show (arrV _ _ _).slots[_]? = _; rw [arrV_read _ _ hlt]; dsimp only; rw [if_pos hlt]) rfl rfl hd kk9
        · cases he
      · rw [qm_arrR] at he
        split at he
        · rename_i ty n hn
          cases hbb : (Nat.ble 4 ty && Nat.blt ty 7) with
          | false => rw [hbb] at he; cases he
          | true =>
            rw [hbb] at he
            cases he
            simp only [Bool.and_eq_true] at hbb
            have h4 := Nat.le_of_ble_eq_true hbb.1
            have h7 : ty < 7 := Nat.le_of_ble_eq_true hbb.2
            have hT := hE.arrays hn
            have : ty = 4 ∨ ty = 5 ∨ ty = 6 := by omega
            rcases this with rfl | rfl | rfl
            · exact vb_tq hx hb hT hA.frame h9 rfl hd kk9
            · exact vb_tq hx hb hT hA.frame h9 rfl hd kk9
            · exact vb_tq hx hb hT hA.frame h9 rfl hd kk9
        · cases he
      · rw [qm_arrR] at he
        cases he
    · cases hf
  · cases hf
theorem qm_s_alen {y : MethodName} {cc : ByteArray} {nL : Nat} {ret : Option FieldType} {fr lo pc : Nat} (hd : decode cc pc = .ok (.arraylength, 1)) : qm_Snd y cc nL ret fr lo pc (qm_o_alen (pc + 1)) := by
  intro f0 e0
  cases e0
  intro Γ X p l e R s m args below meth c cx lv st h pc' lv' st' h' hf H locs ls hA hl hF kc ks kc' ks' hkc hks hc1 hs1 hsz Q kk
  obtain ⟨hx, hb, hml, hown, hnm, hts, hE, hlk, hrt, hfr, hlo⟩ := cx
  dsimp only at hf
  split at hf
  · rename_i a r
    split at hf
    · rename_i len rows t he
      split at hf
      · cases hf
      rename_i h9
      cases hf
      obtain rfl : kc' = kc := by omega
      obtain rfl : ks' = ks := by omega
      obtain ⟨k, r1, s1⟩ := a
      have kk9 := kk H locs ls hA hl
      rcases k with _ | _ | k
      · rw [qm_len] at he
        split at he
        · rename_i ty n hn
          cases hbb : (Nat.beq s1 0 && Nat.blt ty 10) with
          | false => rw [hbb] at he; cases he
          | true =>
            rw [hbb] at he
            cases he
            simp only [Bool.and_eq_true] at hbb
            have h10 : ty < 10 := Nat.le_of_ble_eq_true hbb.2
            obtain rfl := Nat.eq_of_beq_eq_true hbb.1
            have hg := qm_fl_get0 (Γ := Γ) (h := h) (s := 0) hn Nat.zero_lt_one
            exact va_alen hx hb hE.classes hA.world _ ty hg (qm_tys_get h10) rfl hd kk9
        · rename_i tyo tyi n k hn
          cases s1 with
          | zero =>
            dsimp only at he
            cases hbb : Nat.blt tyo 10 with
            | false => rw [hbb] at he; cases he
            | true =>
              rw [hbb] at he
              cases he
              have hg := qm_fl_get0 (Γ := Γ) (h := h) (s := 0) hn (Nat.zero_lt_succ _)
              exact va_alen hx hb hE.classes hA.world _ tyo hg (qm_tys_get (Nat.le_of_ble_eq_true hbb)) rfl hd kk9
          | succ t0 =>
            dsimp only at he
            cases hbb : Nat.blt tyi 10 with
            | false => rw [hbb] at he; cases he
            | true =>
              rw [hbb] at he
              cases he
              have hg := qm_fl_get0 (Γ := Γ) (h := h) (s := t + 1) hn (by show t + 1 < rows + 1; omega)
              exact va_alen hx hb hE.classes hA.world _ tyi hg (qm_tys_get (Nat.le_of_ble_eq_true hbb)) rfl hd kk9
        · cases he
      · rw [qm_len] at he
        split at he
        · rename_i ty n hn
          cases he
          exact va_tlen hx hb (hE.arrays hn) hA.frame rfl hd kk9
        · cases he
      · rw [qm_len] at he
        cases he
        have e1 : h.2.2.2.2.2.2.1 = X.1 := congrArg Prod.fst hA.1
        rw [e1] at kk9
        have hb9 := hE.below
        exact va_slen hx hb hE.script (Nat.lt_of_lt_of_le hb9 hE.base) (Nat.not_le.mpr hb9) hA.frame hd kk9
    · cases hf
  · cases hf
