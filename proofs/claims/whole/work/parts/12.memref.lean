theorem vr_outer (c : ClassId) (N h0 : Nat) : ∀ i : Nat, Jvm.Free.Multi.outerC c N h0 i = arrV c N (fun j => va_rf (if j < i then some (h0 + 1 + j) else none))
  | 0 => by
    show ({ cls := c, slots := Array.replicate N .null, vm := .none } : Cell) = _
    rw [arrV_new]
    refine congrArg (arrV c N) (funext fun j => ?_)
    simp [va_rf]
  | i + 1 => by
    show (Jvm.Free.Multi.outerC c N h0 i).setSlot i (.ref (h0 + 1 + i)) = _
    rw [vr_outer c N h0 i, arrV_store]
    refine congrArg (arrV c N) (funext fun j => ?_)
    by_cases e : j = i
    · subst e
      simp [updV, va_rf]
    · by_cases h : j < i
      · simp [updV, e, h, Nat.lt_succ_of_lt h]
      · simp [updV, e, h, show ¬ j < i + 1 by omega]
theorem qm_s_mnew {y : MethodName} {cc : ByteArray} {nL : Nat} {ret : Option FieldType} {fr lo pc : Nat} {tyo tyi index : Nat} (hd : decode cc pc = .ok (.multianewarray index 2, 4)) (h3 : (tyo = 7 ∧ tyi = 0) ∨ (tyo = 8 ∧ tyi = 2) ∨ (tyo = 9 ∧ tyi = 3)) (hw1 : Cond.classLink y.cls index ("[" ++ (FieldType.array (qm_ft tyi)).toString) ∈ lw_all) (hw3 : Cond.arrayClass (qm_ft tyi) ∈ lw_all) : qm_Snd y cc nL ret fr lo pc (qm_o_mnew tyo tyi (pc + 4)) := by
  intro f0 e0
  cases e0
  intro Γ X p l e R s m args below meth c cx lv st h pc' lv' st' h' hf H locs ls hA hl hF kc ks kc' ks' hkc hks hc1 hs1 hsz Q kk
  obtain ⟨hx, hb, hml, hown, hnm, hts, hE, hlk, hrt, hfr, hlo⟩ := cx
  dsimp only at hf
  split at hf
  · rename_i b a r
    split at hf
    · cases hf
    rename_i h9
    cases hf
    have e1 : kc' = kc + 1 + a.toNatClampNeg := by
      have : kc' + qm_tot h.1 = kc + qm_tot (h.1 ++ [Sum.inr (Sum.inr (tyo, tyi, a.toNatClampNeg, b.toNatClampNeg))]) := hkc
      rw [qm_tot_app] at this
      have : kc' + qm_tot h.1 = kc + (qm_tot h.1 + (a.toNatClampNeg + 1 + 0)) := this
      omega
    have e2 : ks' = ks + a.toNatClampNeg + a.toNatClampNeg * b.toNatClampNeg := by
      have : ks' + qm_slt h.1 = ks + qm_slt (h.1 ++ [Sum.inr (Sum.inr (tyo, tyi, a.toNatClampNeg, b.toNatClampNeg))]) := hks
      rw [qm_slt_app] at this
      have : ks' + qm_slt h.1 = ks + (qm_slt h.1 + (a.toNatClampNeg + a.toNatClampNeg * b.toNatClampNeg + 0)) := this
      omega
    subst e1 e2
    have ha0 : ¬ a < 0 := fun q => h9 (Or.inl q)
    have ha1 : a.toNatClampNeg ≤ 65536 := Nat.le_of_not_lt fun q => h9 (Or.inr (Or.inl q))
    have hb0 : ¬ b < 0 := fun q => h9 (Or.inr (Or.inr (Or.inl q)))
    have hb1 : b.toNatClampNeg ≤ 65536 := Nat.le_of_not_lt fun q => h9 (Or.inr (Or.inr (Or.inr q)))
    have hcb : componentBytes (qm_ft tyi) ≤ 8 ∧ fits (qm_ft tyi) (defaultValue (qm_ft tyi)) = true ∧ (defaultValue (qm_ft tyi)).isDefault = true ∧ (FieldType.array (qm_ft tyi)).toString = "[" ++ (qm_ft tyi).toString ∧ qm_ft tyo = .array (qm_ft tyi) ∧ tyo < 10 ∧ tyi < 4 := by
      rcases h3 with ⟨rfl, rfl⟩ | ⟨rfl, rfl⟩ | ⟨rfl, rfl⟩ <;> exact ⟨by decide, by decide, by decide, by decide +kernel, rfl, by decide, by decide⟩
    obtain ⟨hcb, hdf, hdd, hstr, hto, h10, h04⟩ := hcb
    intro T hT Xs
    obtain ⟨vm₁, cA, comp, -, fA, fC, -, -, X', step⟩ := Xs.multianewarray2F hx hown (hts _ hw1) (hE.over (by rcases h3 with ⟨-, rfl⟩ | ⟨-, rfl⟩ | ⟨-, rfl⟩ <;> decide) args) (hts _ hw3) (g := F0 m pc ls (.int b :: .int a :: qm_cvs Γ r)) rfl (by rw [hb]; exact hd) rfl ha0 hb0 (by omega) (Nat.le_trans (Nat.mul_le_mul hb1 hcb) (by decide)) (by omega) hdf hdd (by omega) (by omega)
    have hRo := (hE.classes.2 tyo _ (qm_tys_get h10)).2
    have hRi := (hE.classes.2 tyi _ (qm_tys_get (by omega))).2
    have ecA : cA = Γ.2.1 tyo := by
      rcases h3 with ⟨rfl, rfl⟩ | ⟨rfl, rfl⟩ | ⟨rfl, rfl⟩ <;> exact Option.some.inj (fA.symm.trans hRo)
    have ecI : comp = Γ.2.1 tyi := by
      rw [hstr] at fC
      rcases h3 with ⟨rfl, rfl⟩ | ⟨rfl, rfl⟩ | ⟨rfl, rfl⟩ <;> exact Option.some.inj (fC.symm.trans hRi)
    subst ecA ecI
    generalize hFe : Jvm.Free.Multi.fill (T.setVm vm₁) (Γ.2.1 tyo) (Γ.2.1 tyi) a.toNatClampNeg b.toNatClampNeg (defaultValue (qm_ft tyi)) a.toNatClampNeg = F at X' step
    have hTh : (T.setVm vm₁).heap = H := hT
    obtain ⟨f1, f2, -, -⟩ := Jvm.Free.Multi.fill_facts (T.setVm vm₁) (Γ.2.1 tyo) (Γ.2.1 tyi) a.toNatClampNeg b.toNatClampNeg (defaultValue (qm_ft tyi)) a.toNatClampNeg
    rw [hFe, hTh] at f1 f2
    have hold : ∀ q : Nat, q < H.size → F.heap[q]? = H[q]? := fun q hq => by
      have := Jvm.Free.Multi.fill_old (T.setVm vm₁) (Γ.2.1 tyo) (Γ.2.1 tyi) a.toNatClampNeg b.toNatClampNeg (defaultValue (qm_ft tyi)) (a := q) (by rw [hTh]; exact hq) a.toNatClampNeg
      rw [hFe, hTh] at this
      exact this
    have hrow : ∀ j : Nat, j < a.toNatClampNeg → F.heap[H.size + 1 + j]? = some (Jvm.Free.Multi.innerC (Γ.2.1 tyi) b.toNatClampNeg (defaultValue (qm_ft tyi))) := fun j hj => by
      have := Jvm.Free.Multi.fill_inner (T.setVm vm₁) (Γ.2.1 tyo) (Γ.2.1 tyi) a.toNatClampNeg b.toNatClampNeg (defaultValue (qm_ft tyi)) a.toNatClampNeg j hj
      rw [hFe, hTh] at this
      exact this
    have hps : qm_ps Γ.2.2.2.2.2 h.1.length = qm_tot h.1 := by rw [qm_ps_pre h.1 _ _ hA.2.1 (Nat.le_refl _), qm_ps_len]
    have hadr : ∀ j, qm_ad Γ (0, h.1.length, j + 1) = H.size + 1 + j := fun j => by
      show Γ.2.2.2.1 + qm_ps Γ.2.2.2.2.2 h.1.length + (j + 1) = _
      rw [hps, hA.2.2.2.1]
      omega
    have k9 := kk F.heap locs ls (hA.new (sh := Sum.inr (Sum.inr (tyo, tyi, a.toNatClampNeg, b.toNatClampNeg))) hF (fun s0 hs0 => ?_) (by rw [f1]; show _ = H.size + (a.toNatClampNeg + 1); omega) hold) hl
    · have k9 : W p l e R s m args below meth c F.heap locs (kc + 1 + a.toNatClampNeg) (ks + a.toNatClampNeg + a.toNatClampNeg * b.toNatClampNeg) Q (F0 m (pc + 4) ls (.ref (qm_ad Γ (0, h.1.length, 0)) :: qm_cvs Γ r)) := k9
      rw [qm_ad_new hA] at k9
      obtain ⟨t, a1, b1⟩ := k9 F rfl X'
      refine ⟨t, step t ?_, b1⟩
      have e : T.heap.size = H.size := by rw [hT]
      rw [e]
      exact a1
    · cases s0 with
      | zero =>
        show F.heap[H.size + 0]? = some (arrV (Γ.2.1 tyo) a.toNatClampNeg (fun j => va_rf (if j < a.toNatClampNeg then some (qm_ad Γ (0, h.1.length, j + 1)) else none)))
        rw [Nat.add_zero, f2, vr_outer]
        refine congrArg some (congrArg (arrV _ _) (funext fun j => ?_))
        rw [hadr]
      | succ j =>
        have hj : j < a.toNatClampNeg := by have : j + 1 < a.toNatClampNeg + 1 := hs0; omega
        show F.heap[H.size + (j + 1)]? = some (vp_cell (Γ.2.1 tyi) (b.toNatClampNeg, qm_cnt Γ (qm_new h (Sum.inr (Sum.inr (tyo, tyi, a.toNatClampNeg, b.toNatClampNeg)))) h.1.length (j + 1) tyi))
        rw [qm_cnt_new (by omega), show H.size + (j + 1) = H.size + 1 + j by omega, hrow j hj]
        exact congrArg some (arrV_new _ _ _)
  · cases hf
theorem qm_s_newq {y : MethodName} {cc : ByteArray} {nL : Nat} {ret : Option FieldType} {fr lo pc : Nat} {ty index : Nat} {C : String} (hd : decode cc pc = .ok (.anewarray index, 3)) (h4 : ty = 4 ∨ ty = 5 ∨ ty = 6) (hC : qm_ft ty = .object C) (hw1 : Cond.classLink y.cls index C ∈ lw_all) (hw2 : C ∈ qm_AOc) : qm_Snd y cc nL ret fr lo pc (qm_o_newa ty (pc + 3)) := by
  intro f0 e0
  cases e0
  intro Γ X p l e R s m args below meth c cx lv st h pc' lv' st' h' hf H locs ls hA hl hF kc ks kc' ks' hkc hks hc1 hs1 hsz Q kk
  obtain ⟨hx, hb, hml, hown, hnm, hts, hE, hlk, hrt, hfr, hlo⟩ := cx
  dsimp only at hf
  split at hf
  · rename_i x r
    split at hf
    · cases hf
    rename_i h9
    cases hf
    have e1 : kc' = kc + 1 := by
      have : kc' + qm_tot h.1 = kc + qm_tot (h.1 ++ [Sum.inr (Sum.inl (ty, x.toNatClampNeg))]) := hkc
      rw [qm_tot_app] at this
      have : kc' + qm_tot h.1 = kc + (qm_tot h.1 + (1 + 0)) := this
      omega
    have e2 : ks' = ks + x.toNatClampNeg := by
      have : ks' + qm_slt h.1 = ks + qm_slt (h.1 ++ [Sum.inr (Sum.inl (ty, x.toNatClampNeg))]) := hks
      rw [qm_slt_app] at this
      have : ks' + qm_slt h.1 = ks + (qm_slt h.1 + (x.toNatClampNeg + 0)) := this
      omega
    subst e1 e2
    have hx0 : ¬ x < 0 := fun q => h9 (Or.inl q)
    have hx1 : x.toNatClampNeg ≤ 65536 := Nat.le_of_not_lt fun q => h9 (Or.inr q)
    refine W.anew hx hb hown (hts _ hw1) (hE.overO hw2 args) rfl hd rfl hx0 (by omega) hc1 hs1 fun cA kA comp f1 f2 f3 f4 => ?_
    have hcA : cA = Γ.2.1 ty := by
      have hR := (hE.classes.2 ty _ (qm_tys_get (by omega))).2
      rw [hC] at hR
      obtain ⟨-, -, -, -, -, hR⟩ := hR
      exact Option.some.inj (f1.symm.trans hR)
    subst hcA
    generalize hH1 : H.push ({ cls := Γ.2.1 ty, slots := Array.replicate x.toNatClampNeg .null, vm := .none } : Cell) = H1
    have k9 := kk H1 locs ls (hA.new (sh := Sum.inr (Sum.inl (ty, x.toNatClampNeg))) hF (fun s0 hs0 => ?_) (by rw [← hH1, Array.size_push]; rfl) (fun q hq => by rw [← hH1, Array.getElem?_push, if_neg (Nat.ne_of_lt hq)])) hl
    · have k9 : W p l e R s m args below meth c H1 locs (kc + 1) (ks + x.toNatClampNeg) Q (F0 m (pc + 3) ls (.ref (qm_ad Γ (0, h.1.length, 0)) :: qm_cvs Γ r)) := k9
      rw [qm_ad_new hA] at k9
      exact k9
    · have : s0 = 0 := by have : s0 < 1 := hs0; omega
      subst this
      show H1[H.size]? = some (vp_cell (Γ.2.1 ty) (x.toNatClampNeg, qm_cnt Γ (qm_new h (Sum.inr (Sum.inl (ty, x.toNatClampNeg)))) h.1.length 0 ty))
      rw [qm_cnt_new (by omega), hC, ← hH1, Array.getElem?_push_size]
      exact congrArg some (arrV_new _ _ _)
  · cases hf
theorem qm_s_newg {y : MethodName} {cc : ByteArray} {nL : Nat} {ret : Option FieldType} {fr lo pc : Nat} {index : Nat} (hd : decode cc pc = .ok (.anewarray index, 3)) (hw1 : Cond.classLink y.cls index (FieldType.array .int).toString ∈ lw_all) : qm_Snd y cc nL ret fr lo pc (qm_o_newa 7 (pc + 3)) := by
  intro f0 e0
  cases e0
  intro Γ X p l e R s m args below meth c cx lv st h pc' lv' st' h' hf H locs ls hA hl hF kc ks kc' ks' hkc hks hc1 hs1 hsz Q kk
  obtain ⟨hx, hb, hml, hown, hnm, hts, hE, hlk, hrt, hfr, hlo⟩ := cx
  dsimp only at hf
  split at hf
  · rename_i x r
    split at hf
    · cases hf
    rename_i h9
    cases hf
    have e1 : kc' = kc + 1 := by
      have : kc' + qm_tot h.1 = kc + qm_tot (h.1 ++ [Sum.inr (Sum.inl (7, x.toNatClampNeg))]) := hkc
      rw [qm_tot_app] at this
      have : kc' + qm_tot h.1 = kc + (qm_tot h.1 + (1 + 0)) := this
      omega
    have e2 : ks' = ks + x.toNatClampNeg := by
      have : ks' + qm_slt h.1 = ks + qm_slt (h.1 ++ [Sum.inr (Sum.inl (7, x.toNatClampNeg))]) := hks
      rw [qm_slt_app] at this
      have : ks' + qm_slt h.1 = ks + (qm_slt h.1 + (x.toNatClampNeg + 0)) := this
      omega
    subst e1 e2
    have hx0 : ¬ x < 0 := fun q => h9 (Or.inl q)
    have hx1 : x.toNatClampNeg ≤ 65536 := Nat.le_of_not_lt fun q => h9 (Or.inr q)
    intro T hT Xs
    obtain ⟨vm₁, cA, kA, comp, -, f1, f2, f3, f4, X', step⟩ := Xs.anewarrayArrK hx hown (hts _ hw1) (hE.over (by decide) args) (g := F0 m pc ls (.int x :: qm_cvs Γ r)) rfl (by rw [hb]; exact hd) rfl hx0 (by omega) hc1 hs1
    have hcA : cA = Γ.2.1 7 := Option.some.inj (f1.symm.trans (hE.classes.2 7 _ (qm_tys_get (by decide))).2)
    subst hcA
    have k9 := kk (H.push ({ cls := Γ.2.1 7, slots := Array.replicate x.toNatClampNeg .null, vm := .none } : Cell)) locs ls (hA.new (sh := Sum.inr (Sum.inl (7, x.toNatClampNeg))) hF (fun s0 hs0 => ?_) (by rw [Array.size_push]; rfl) (fun q hq => by rw [Array.getElem?_push, if_neg (Nat.ne_of_lt hq)])) hl
    · have k9 : W p l e R s m args below meth c (H.push ({ cls := Γ.2.1 7, slots := Array.replicate x.toNatClampNeg .null, vm := .none } : Cell)) locs (kc + 1) (ks + x.toNatClampNeg) Q (F0 m (pc + 3) ls (.ref (qm_ad Γ (0, h.1.length, 0)) :: qm_cvs Γ r)) := k9
      rw [qm_ad_new hA] at k9
      obtain ⟨t, a1, b1⟩ := k9 _ (by rw [← hT]; rfl) X'
      refine ⟨t, step t ?_, b1⟩
      have e : T.heap.size = H.size := by rw [hT]
      rw [e]
      exact a1
    · have : s0 = 0 := by have : s0 < 1 := hs0; omega
      subst this
      show (H.push _)[H.size]? = some (vp_cell (Γ.2.1 7) (x.toNatClampNeg, qm_cnt Γ (qm_new h (Sum.inr (Sum.inl (7, x.toNatClampNeg)))) h.1.length 0 7))
      rw [qm_cnt_new (by omega), Array.getElem?_push_size]
      exact congrArg some (arrV_new _ _ _)
  · cases hf
