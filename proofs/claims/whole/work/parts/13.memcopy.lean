theorem qm_assign_rf (vm : Vm) (c : ClassId) : vm.assignable c c = true := by
  show Vm.assignableAux vm (255 + 1) c c = true
  rw [Vm.assignableAux]
  simp only [beq_self_eq_true, Bool.true_or]
theorem qm_s_aast {y : MethodName} {cc : ByteArray} {nL : Nat} {ret : Option FieldType} {fr lo pc : Nat} (hd : decode cc pc = .ok (.aastore, 1)) : qm_Snd y cc nL ret fr lo pc (qm_o_aast (pc + 1)) := by
  intro f0 e0
  cases e0
  intro Γ X p l e R s m args below meth c cx lv st h pc' lv' st' h' hf H locs ls hA hl hF kc ks kc' ks' hkc hks hc1 hs1 hsz Q kk
  obtain ⟨hx, hb, hml, hown, hnm, hts, hE, hlk, hrt, hfr, hlo⟩ := cx
  dsimp only at hf
  split at hf
  · rename_i x i r1 s1 r
    split at hf
    · rename_i ty len hn
      cases hbb : (Nat.beq s1 0 && qm_elt h ty x) with
      | false => rw [hbb] at hf; cases hf
      | true =>
        rw [hbb] at hf
        dsimp only [cond_true] at hf
        split at hf
        · cases hf
        rename_i h9
        cases hf
        obtain rfl : kc' = kc := by dsimp only at hkc; omega
        obtain rfl : ks' = ks := by dsimp only at hks; omega
        simp only [Bool.and_eq_true] at hbb
        obtain rfl := Nat.eq_of_beq_eq_true hbb.1
        have hel := hbb.2
        have hg := qm_fl_get0 (Γ := Γ) (h := h) (s := 0) hn Nat.zero_lt_one
        have hlt : i.toNatClampNeg < len := Nat.not_le.mp fun q => h9 (Or.inr q)
        have hi0 : ¬ i < 0 := fun q => h9 (Or.inl q)
        -- the end of every case
        have fin : 4 ≤ ty → ty < 10 → ∀ (H1 : Heap), H1[qm_ad Γ (0, r1, 0)]? = some ((vp_cell (Γ.2.1 ty) (len, qm_cnt Γ h r1 0 ty)).setSlot i.toNatClampNeg (va_rf (x.map (qm_ad Γ)))) → H1.size = H.size → (∀ q : Nat, q ≠ qm_ad Γ (0, r1, 0) → H1[q]? = H[q]?) → W p l e R s m args below meth c H1 (locs ++ [⟨qm_ad Γ (0, r1, 0), i.toNatClampNeg⟩]) kc' ks' Q (F0 m (pc + 1) ls (qm_cvs Γ st')) := by
          intro h4 h10 H1 e z oq
          refine kk H1 _ ls (hA.put (h' := (h.1, h.2.1, h.2.2.1, h.2.2.2.1, h.2.2.2.2.1, qm_set h.2.2.2.2.2.1 r1 0 i.toNatClampNeg x, h.2.2.2.2.2.2)) hn Nat.zero_lt_one rfl rfl (qm_ce_off (fun _ _ _ _ => rfl) (fun _ _ _ _ => rfl) (fun _ _ _ _ => rfl) (fun _ _ _ _ => rfl) qm_set_off) ?_ z oq _) hl
          obtain ⟨u, rfl⟩ : ∃ u, ty = u + 4 := ⟨ty - 4, by omega⟩
          show H1[_]? = some (arrV (Γ.2.1 (u + 4)) len (fun j => va_rf ((qm_set h.2.2.2.2.2.1 r1 0 i.toNatClampNeg x r1 0 j).map (qm_ad Γ))))
          rw [e]
          refine congrArg some ((arrV_store (Γ.2.1 (u + 4)) len i.toNatClampNeg (fun j => va_rf ((h.2.2.2.2.2.1 r1 0 j).map (qm_ad Γ))) _).trans ?_)
          refine congrArg (arrV _ _) (funext fun j => ?_)
          rw [qm_set_in]
          by_cases hj : j = i.toNatClampNeg
          · simp [updV, hj]
          · simp [updV, hj]
        have hsize : ∀ cn, (vp_cell (Γ.2.1 ty) (len, cn)).slots.size = len := by
          intro cn
          rcases cn with f | f | f | f | f <;> exact arrV_size _ _ _
        have hvm : ∀ cn, (vp_cell (Γ.2.1 ty) (len, cn)).vm = .none := by
          intro cn
          rcases cn with f | f | f | f | f <;> rfl
        have hcl : ∀ cn, (vp_cell (Γ.2.1 ty) (len, cn)).cls = Γ.2.1 ty := by
          intro cn
          rcases cn with f | f | f | f | f <;> rfl
        have hcell : H[qm_ad Γ (0, r1, 0)]? = some (vp_cell (Γ.2.1 ty) (len, qm_cnt Γ h r1 0 ty)) := hA.world _ _ hg
        -- a value that is an object of class C, the array's element type being C
        have obj : ∀ (C : String) (a : Nat) (cv : Cell), 4 ≤ ty → ty < 10 → qm_ft ty = .object C → qm_cv Γ (qm_R x) = .ref a → H[a]? = some cv → cv.vm.isStatics = false → s.vm.findClass C = some cv.cls → W p l e R s m args below meth c H locs kc' ks' Q (F0 m pc ls (qm_cvs Γ (qm_R x :: qm_I i :: qm_R (some (0, r1, 0)) :: st'))) := by
          intro C a cv h4 h10 hC hxa g1 g2 g3
          have hR := (hE.classes.2 ty _ (qm_tys_get h10)).2
          rw [hC] at hR
          obtain ⟨kA, comp, k1, k2, k3, -⟩ := hR
          obtain ⟨kE, hkE, -⟩ := Vm.findClass_spec k3
          have ecomp : comp = cv.cls := Option.some.inj (k3.symm.trans g3)
          show W p l e R s m args below meth c H locs kc' ks' Q (F0 m pc ls (qm_cv Γ (qm_R x) :: .int i :: .ref (qm_ad Γ (0, r1, 0)) :: qm_cvs Γ st'))
          have hxv : va_rf (x.map (qm_ad Γ)) = .ref a := hxa
          rw [hxa]
          refine W.aast hx hb hcell (fun q z => by rw [hvm] at z; cases z) (fun z => by rw [hvm] at z; cases z) (by rw [hcl]; exact k1) k2 rfl hkE ⟨hi0, by rw [hsize]; exact hlt⟩ g1 (fun q z => by rw [z] at g2; cases g2) (by rw [← ecomp]; exact hkE) (by rw [ecomp]; exact qm_assign_rf _ _) rfl rfl hd (fun H1 e z oq => fin h4 h10 H1 (by rw [hxv]; exact e) z oq)
        rcases x with _ | ⟨k, r2, s2⟩
        · have h5 : ty = 5 := Nat.eq_of_beq_eq_true hel
          subst h5
          exact va_WaastN (C := "QuoteMind$Rival") hx hb hcell ((hE.classes.2 5 _ (qm_tys_get (by decide))).1 len (fun j => va_rf ((h.2.2.2.2.2.1 r1 0 j).map (qm_ad Γ)))) (fun z => by cases z) (by rw [hsize]; exact h9) rfl rfl hd (fun H1 e z oq => fin (by decide) (by decide) H1 e z oq)
        · rcases k with _ | _ | k
          · rw [qm_elt] at hel
            split at hel
            · rename_i c0 hn2
              simp only [Bool.and_eq_true, Bool.or_eq_true] at hel
              have hs2 := Nat.eq_of_beq_eq_true hel.1
              subst hs2
              have hg2 := qm_fl_get0 (Γ := Γ) (h := h) (s := 0) hn2 Nat.zero_lt_one
              rcases hel.2 with ⟨h1, h2⟩ | ⟨h1, h2⟩
              · obtain rfl := Nat.eq_of_beq_eq_true h1
                obtain rfl := Nat.eq_of_beq_eq_true h2
                obtain ⟨cv, g1, g2, g3⟩ := va_recv (q := (RX7, TX7, 3)) hE.classes hA.world rfl hg2
                exact obj RX7 _ cv (by decide) (by decide) rfl rfl g1 g2 g3
              · obtain rfl := Nat.eq_of_beq_eq_true h1
                obtain rfl := Nat.eq_of_beq_eq_true h2
                obtain ⟨cv, g1, g2, g3⟩ := va_recv (q := (RX5, TX5, 3)) hE.classes hA.world rfl hg2
                exact obj RX5 _ cv (by decide) (by decide) rfl rfl g1 g2 g3
            · rename_i t0 n0 hn2
              simp only [Bool.and_eq_true] at hel
              have hs2 := Nat.eq_of_beq_eq_true hel.1
              subst hs2
              obtain rfl := Nat.eq_of_beq_eq_true hel.2.1
              obtain rfl := Nat.eq_of_beq_eq_true hel.2.2
              have hg2 := qm_fl_get0 (Γ := Γ) (h := h) (s := 0) hn2 Nat.zero_lt_one
              have hcell2 : H[qm_ad Γ (0, r2, 0)]? = some (arrV (Γ.2.1 0) n0 (fun j => .int (h.2.1 r2 0 j))) := hA.world _ _ hg2
              obtain ⟨comp, c7, k7, q1, -, q3, q4, q5⟩ := arrayOverA_spec (hE.over (t := .int) (by decide) args)
              have e7 : c7 = Γ.2.1 7 := Option.some.inj (q5.symm.trans (hE.classes.2 7 _ (qm_tys_get (by decide))).2)
              have e0 : comp = Γ.2.1 0 := by
                have hR0 := (hE.classes.2 0 _ (qm_tys_get (by decide))).2
                exact Option.some.inj (q1.symm.trans hR0)
              subst e7 e0
              obtain ⟨kE, hkE, -⟩ := Vm.findClass_spec q1
              exact W.aast hx hb hcell (fun q z => by rw [hvm] at z; cases z) (fun z => by rw [hvm] at z; cases z) (by rw [hcl]; exact q3) q4 rfl hkE ⟨hi0, by rw [hsize]; exact hlt⟩ hcell2 (fun q z => by cases z) hkE (qm_assign_rf _ _) rfl rfl hd (fun H1 e z oq => fin (by decide) (by decide) H1 e z oq)
            · cases hel
          · rw [qm_elt] at hel
            split at hel
            · rename_i c0 hn2
              simp only [Bool.and_eq_true] at hel
              obtain rfl := Nat.eq_of_beq_eq_true hel.1
              obtain rfl := Nat.eq_of_beq_eq_true hel.2
              obtain ⟨cv, g1, g2, g3, g4⟩ := hE.objects hn2
              have hbs : Γ.2.2.1 r2 < s.heap.size := (Array.getElem?_eq_some_iff.mp g1).1
              exact obj RX9 (Γ.2.2.1 r2) cv (by decide) (by decide) rfl rfl (by rw [hA.frame.2.1 _ hbs g4]; exact g1) g2 g3
            · cases hel
          · rw [qm_elt] at hel
            cases hel
    · cases hf
  · cases hf
theorem qm_s_obj {y : MethodName} {cc : ByteArray} {nL : Nat} {ret : Option FieldType} {fr lo pc index : Nat} (hd : decode cc pc = .ok (.invokespecial index, 3)) (hw1 : Cond.methodLink y.cls index objectInit ∈ lw_all) (hw2 : Cond.instanceMethod objectInit ∈ lw_all) (hw3 : Cond.code objectInit ⟨#[0xb1]⟩ 1 none ∈ lw_all) (hfr : 1 ≤ fr) (hlo : 20 ≤ lo) : qm_Snd y cc nL ret fr lo pc (qm_o_obj (pc + 3)) := by
  intro f0 e0
  cases e0
  intro Γ X p l e R s m args below meth c cx lv st h pc' lv' st' h' hf H locs ls hA hl hF kc ks kc' ks' hkc hks hc1 hs1 hsz Q kk
  obtain ⟨hx, hb, hml, hown, hnm, hts, hE, hlk, hrt, hfr2, hlo2⟩ := cx
  dsimp only at hf
  split at hf
  · rename_i a r
    cases hbb : Nat.ble (qm_sum r) 8 with
    | false => rw [hbb] at hf; cases hf
    | true =>
      rw [hbb] at hf
      cases hf
      obtain rfl : kc' = kc := by omega
      obtain rfl : ks' = ks := by omega
      have h8 := Nat.le_of_ble_eq_true hbb
      refine W.objInit hx hb hown (hts _ hw1) (hts _ hw2) (hts _ hw3) rfl (by rw [hml]; exact hl.1) (a := qm_ad Γ a) (rest := qm_cvs Γ st') rfl hd (by omega) (by show 2 * 0 + _ + 12 ≤ R.locals; rw [qm_sum_cv]; omega) (kk H locs ls hA hl)
  · cases hf
theorem qm_s_d2b {y : MethodName} {cc : ByteArray} {nL : Nat} {ret : Option FieldType} {fr lo pc index : Nat} (hd : decode cc pc = .ok (.invokestatic index, 3)) (hw1 : Cond.methodLink y.cls index ⟨"java/lang/Double", "doubleToRawLongBits", "(D)J"⟩ ∈ lw_all) (hw2 : Cond.native ⟨"java/lang/Double", "doubleToRawLongBits", "(D)J"⟩ ∈ lw_all) (hw3 : Cond.static ⟨"java/lang/Double", "doubleToRawLongBits", "(D)J"⟩ ∈ lw_all) (hw4 : Cond.initialized "java/lang/Double" ∈ lw_all) (hfr : 1 ≤ fr) (hlo : 23 ≤ lo) : qm_Snd y cc nL ret fr lo pc (qm_o_d2b (pc + 3)) := by
  intro f0 e0
  cases e0
  intro Γ X p l e R s m args below meth c cx lv st h pc' lv' st' h' hf H locs ls hA hl hF kc ks kc' ks' hkc hks hc1 hs1 hsz Q kk
  obtain ⟨hx, hb, hml, hown, hnm, hts, hE, hlk, hrt, hfr2, hlo2⟩ := cx
  dsimp only at hf
  split at hf
  · rename_i a r
    cases hbb : Nat.ble (qm_sum r) 8 with
    | false => rw [hbb] at hf; cases hf
    | true =>
      rw [hbb] at hf
      cases hf
      obtain rfl : kc' = kc := by omega
      obtain rfl : ks' = ks := by omega
      have h8 := Nat.le_of_ble_eq_true hbb
      exact vn_d2l hx hb (by rw [hml]; exact hl.1.symm) hown (hts _ hw1) (hts _ hw2) (hts _ hw3) (hts _ hw4) (by omega) (by have := qm_sum_cv Γ r; unfold qm_cvs at this; omega) hd (kk H locs ls hA hl)
  · cases hf
theorem qm_s_f2b {y : MethodName} {cc : ByteArray} {nL : Nat} {ret : Option FieldType} {fr lo pc index : Nat} (hd : decode cc pc = .ok (.invokestatic index, 3)) (hw1 : Cond.methodLink y.cls index ⟨"java/lang/Float", "floatToRawIntBits", "(F)I"⟩ ∈ lw_all) (hw2 : Cond.native ⟨"java/lang/Float", "floatToRawIntBits", "(F)I"⟩ ∈ lw_all) (hw3 : Cond.static ⟨"java/lang/Float", "floatToRawIntBits", "(F)I"⟩ ∈ lw_all) (hw4 : Cond.initialized "java/lang/Float" ∈ lw_all) (hfr : 1 ≤ fr) (hlo : 23 ≤ lo) : qm_Snd y cc nL ret fr lo pc (qm_o_f2b (pc + 3)) := by
  intro f0 e0
  cases e0
  intro Γ X p l e R s m args below meth c cx lv st h pc' lv' st' h' hf H locs ls hA hl hF kc ks kc' ks' hkc hks hc1 hs1 hsz Q kk
  obtain ⟨hx, hb, hml, hown, hnm, hts, hE, hlk, hrt, hfr2, hlo2⟩ := cx
  dsimp only at hf
  split at hf
  · rename_i a r
    cases hbb : Nat.ble (qm_sum r) 8 with
    | false => rw [hbb] at hf; cases hf
    | true =>
      rw [hbb] at hf
      cases hf
      obtain rfl : kc' = kc := by omega
      obtain rfl : ks' = ks := by omega
      have h8 := Nat.le_of_ble_eq_true hbb
      exact vn_f2i hx hb (by rw [hml]; exact hl.1.symm) hown (hts _ hw1) (hts _ hw2) (hts _ hw3) (hts _ hw4) (by omega) (by have := qm_sum_cv Γ r; unfold qm_cvs at this; omega) hd (kk H locs ls hA hl)
  · cases hf
theorem qm_s_pr {y : MethodName} {cc : ByteArray} {nL : Nat} {ret : Option FieldType} {fr lo pc : Nat} {op : qm_Op} (ks0 : List Nat) (h0 : qm_Snd y cc nL ret fr lo pc op) : qm_Snd y cc nL ret fr lo pc (qm_pr ks0 op) := by
  intro f0 e0
  rcases op with f | op
  · cases e0
    intro Γ X p l e R s m args below meth c cx lv st h pc' lv' st' h' hf H locs ls hA hl hF kc ks kc' ks' hkc hks hc1 hs1 hsz Q kk
    exact h0 f rfl Γ X p l e R s m args below meth c cx (qm_pick ks0 lv) st h pc' lv' st' h' hf H locs ls hA (qm_pick_has hl ks0) hF kc ks kc' ks' hkc hks hc1 hs1 hsz Q kk
  · cases e0
