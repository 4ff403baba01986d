theorem qm_W_sz {p : Program} {l : Launch} {e : Env} {R : Room} {s : State} {m : MethodId} {args : Array Value} {below : List Frame} {meth : Method} {c : Code} {H : Heap} {locs : List Loc} {kc ks : Nat} {Q : State → Prop} {g : JFrame} (k : H.size ≤ s.heap.size + kc → W p l e R s m args below meth c H locs kc ks Q g) : W p l e R s m args below meth c H locs kc ks Q g := by
  intro T hT X
  have h1 : T.heap.size ≤ s.heap.size + kc := X.same.2.2.1
  exact k (by rw [← hT]; exact h1) T hT X
theorem qm_At.put2 {Γ : qm_Cn} {X : Nat × (Nat → Int32)} {h h' : qm_Hp} {s : State} {H H1 : Heap} {locs locs1 : List Loc} (hA : qm_At Γ X h s H locs) {r s0 : Nat} {sh : qm_Sh} (hn : qm_nth h.1 r = some sh) (hs : s0 < qm_sz sh) (h1 : h'.1 = h.1) (hX : h'.2.2.2.2.2.2 = h.2.2.2.2.2.2)
    (hoff : ∀ r' s' sh', s' < qm_sz sh' → ¬ (r' = r ∧ s' = s0) → qm_ce Γ h' r' sh' s' = qm_ce Γ h r' sh' s') (hP1 : va_P Γ.1 qm_cl ((qm_fl Γ h 0 h.1).set (qm_ps h.1 r + s0) (qm_ad Γ (0, r, s0), qm_ce Γ h' r sh s0)) H1) (hS1 : va_S (qm_A Γ) s.heap H1 locs1) {kc : Nat} (hz : H1.size ≤ s.heap.size + kc) (hsz : s.heap.size + kc = Γ.2.2.2.1 + qm_tot h.1) : qm_At Γ X h' s H1 locs1 := by
  obtain ⟨a1, a2, a3, a4, a5⟩ := hA
  have e := qm_fl_set (Γ := Γ) (h := h) (h' := h') h.1 0 r sh s0 hn hs (fun r' s' sh' q1 q2 => hoff r' s' sh' q1 (by rw [Nat.zero_add] at q2; exact q2))
  rw [Nat.zero_add] at e
  rw [← e] at hP1
  have hlow : Γ.2.2.2.1 + qm_tot h.1 ≤ H1.size := by
    have hpos : 0 < qm_tot h.1 := by
      have hg := qm_fl_get0 (Γ := Γ) (h := h) hn hs
      have := (List.getElem?_eq_some_iff.mp hg).1
      rw [qm_fl_len] at this
      omega
    have hk : qm_tot h.1 - 1 < (qm_fl Γ h' 0 h.1).length := by rw [qm_fl_len]; omega
    have hq := List.getElem?_eq_getElem hk
    have h3 := (hP1 _ _ hq).lt
    have h4 := qm_fl_adr (Γ := Γ) (h := h') a2 hq
    omega
  exact ⟨by rw [hX]; exact a1, by rw [h1]; exact a2, by rw [h1]; exact hP1, by rw [h1]; omega, hS1⟩
theorem qm_cpy_off {α : Type} {f : qm_Ct α} {ra sa ia rb sb ib n : Nat} : ∀ r' s' j, ¬ (r' = rb ∧ s' = sb) → qm_cpy f ra sa ia rb sb ib n r' s' j = f r' s' j := fun r' s' j h => if_neg (fun z => h ⟨z.1, z.2.1⟩)
theorem qm_cpy_in {α β : Type} (φ : α → β) (f : qm_Ct α) (ra sa ia rb sb ib n : Nat) : va_cpy (fun j => φ (f ra sa j)) (fun j => φ (f rb sb j)) ia ib n = fun j => φ (qm_cpy f ra sa ia rb sb ib n rb sb j) := by
  funext j
  show (if ib ≤ j ∧ j < ib + n then φ (f ra sa (ia + (j - ib))) else φ (f rb sb j)) = φ (if rb = rb ∧ sb = sb ∧ ib ≤ j ∧ j < ib + n then f ra sa (ia + (j - ib)) else f rb sb j)
  by_cases h : ib ≤ j ∧ j < ib + n
  · rw [if_pos h, if_pos ⟨rfl, rfl, h⟩]
  · rw [if_neg h, if_neg (fun z => h z.2.2)]
theorem qm_fitB (x : Int8) : fits .byte (.int x.toInt32) = true := by
  have e : x.toInt32.toInt8.toInt32 = x.toInt32 := by simp
  rw [← e]
  exact pk_fb _
theorem qm_s_acopy {y : MethodName} {cc : ByteArray} {nL : Nat} {ret : Option FieldType} {fr lo pc index ty : Nat} (hty : ty = 0 ∨ ty = 1 ∨ ty = 2) (hd : decode cc pc = .ok (.invokestatic index, 3)) (hw1 : Cond.methodLink y.cls index arraycopyName ∈ lw_all) (hw2 : Cond.native arraycopyName ∈ lw_all) (hw3 : Cond.static arraycopyName ∈ lw_all) (hw4 : Cond.initialized "java/lang/System" ∈ lw_all) (hfr : 1 ≤ fr) (hlo : 40 ≤ lo) : qm_Snd y cc nL ret fr lo pc (qm_o_acopy ty (pc + 3)) := by
  intro f0 e0
  cases e0
  intro Γ X p l e R s m args below meth c cx lv st h pc' lv' st' h' hf H locs ls hA hl hF kc ks kc' ks' hkc hks hc1 hs1 hsz Q kk
  obtain ⟨hx, hb, hml, hown, hnm, hts, hE, hlk, hrt, hfr2, hlo2⟩ := cx
  have hwords : nativeFrameWords "java/lang/System" "arraycopy" 5 + 11 ≤ 32 := by decide
  dsimp only at hf
  split at hf
  · rename_i n j b i a r
    split at hf
    · rename_i la ra ta lb rb tb hea heb
      cases hbb : Nat.ble (qm_sum r) 8 with
      | false => rw [hbb] at hf; cases hf
      | true =>
        rw [hbb] at hf
        dsimp only [cond_true] at hf
        split at hf
        · cases hf
        rename_i h9
        have h8 := Nat.le_of_ble_eq_true hbb
        have h1 : ¬ i < 0 := fun q => h9 (Or.inl q)
        have h2 : ¬ j < 0 := fun q => h9 (Or.inr (Or.inl q))
        have h3 : ¬ n < 0 := fun q => h9 (Or.inr (Or.inr (Or.inl q)))
        have h4 : i.toNatClampNeg + n.toNatClampNeg ≤ la := Nat.le_of_not_lt fun q => h9 (Or.inr (Or.inr (Or.inr (Or.inl q))))
        have h5 : j.toNatClampNeg + n.toNatClampNeg ≤ lb := Nat.le_of_not_lt fun q => h9 (Or.inr (Or.inr (Or.inr (Or.inr (Or.inl q)))))
        have h6 : ¬ ra ≤ ta := fun q => h9 (Or.inr (Or.inr (Or.inr (Or.inr (Or.inr (Or.inl q))))))
        have h7 : ¬ rb ≤ tb := fun q => h9 (Or.inr (Or.inr (Or.inr (Or.inr (Or.inr (Or.inr q))))))
        obtain ⟨a1, a2⟩ := a
        obtain ⟨b1, b2⟩ := b
        obtain ⟨sha, hna, hsa, hcea⟩ := qm_arr_cell (Γ := Γ) hea h6 (by omega)
        obtain ⟨shb, hnb, hsb, hceb⟩ := qm_arr_cell (Γ := Γ) heb h7 (by omega)
        have hga := qm_fl_get0 (Γ := Γ) (h := h) hna hsa
        have hgb := qm_fl_get0 (Γ := Γ) (h := h) hnb hsb
        rw [hcea] at hga
        rw [hceb] at hgb
        have hD := qm_fl_D (Γ := Γ) (h := h) hA.2.1
        have hlo9 : ((qm_cvs Γ r).map fun v => v.category).sum + (nativeFrameWords "java/lang/System" "arraycopy" 5 + 11) ≤ R.locals := by rw [qm_sum_cv]; omega
        have hml9 : c.maxLocals = ls.size := by rw [hml]; exact hl.1.symm
        rcases hty with rfl | rfl | rfl
        · cases hf
          obtain rfl : kc' = kc := by dsimp only at hkc; omega
          obtain rfl : ks' = ks := by dsimp only at hks; omega
          refine va_copyi hx hb hml9 hown (hts _ hw1) (hts _ hw2) (hts _ hw3) (hts _ hw4) hE.classes hA.world hD hA.frame _ _ 0 0 hga hgb (qm_tys_get (by decide)) (qm_tys_get (by decide)) rfl h1 h2 h3 h4 h5 (fun _ _ => rfl) (by omega) hlo9 hd (fun H1 locs1 g1 g2 g3 => qm_W_sz fun hz => ?_)
          refine kk H1 locs1 ls (hA.put2 (h' := (h.1, qm_cpy h.2.1 a1 a2 i.toNatClampNeg b1 b2 j.toNatClampNeg n.toNatClampNeg, h.2.2)) hnb hsb rfl rfl (qm_ce_off qm_cpy_off (fun _ _ _ _ => rfl) (fun _ _ _ _ => rfl) (fun _ _ _ _ => rfl) (fun _ _ _ _ => rfl)) ?_ g3 hz hsz) hl
          rw [hceb]
          have e9 := qm_cpy_in (fun z : Int32 => z) h.2.1 a1 a2 i.toNatClampNeg b1 b2 j.toNatClampNeg n.toNatClampNeg
          rw [e9] at g1
          exact g1
        · cases hf
          obtain rfl : kc' = kc := by dsimp only at hkc; omega
          obtain rfl : ks' = ks := by dsimp only at hks; omega
          refine va_copyi hx hb hml9 hown (hts _ hw1) (hts _ hw2) (hts _ hw3) (hts _ hw4) hE.classes hA.world hD hA.frame _ _ 1 1 hga hgb (qm_tys_get (by decide)) (qm_tys_get (by decide)) rfl h1 h2 h3 h4 h5 (fun _ _ => qm_fitB _) (by omega) hlo9 hd (fun H1 locs1 g1 g2 g3 => qm_W_sz fun hz => ?_)
          refine kk H1 locs1 ls (hA.put2 (h' := (h.1, h.2.1, qm_cpy h.2.2.1 a1 a2 i.toNatClampNeg b1 b2 j.toNatClampNeg n.toNatClampNeg, h.2.2.2)) hnb hsb rfl rfl (qm_ce_off (fun _ _ _ _ => rfl) qm_cpy_off (fun _ _ _ _ => rfl) (fun _ _ _ _ => rfl) (fun _ _ _ _ => rfl)) ?_ g3 hz hsz) hl
          rw [hceb]
          have e9 := qm_cpy_in (fun z : Int8 => z.toInt32) h.2.2.1 a1 a2 i.toNatClampNeg b1 b2 j.toNatClampNeg n.toNatClampNeg
          rw [e9] at g1
          exact g1
        · cases hf
          obtain rfl : kc' = kc := by dsimp only at hkc; omega
          obtain rfl : ks' = ks := by dsimp only at hks; omega
          refine va_copyl hx hb hml9 hown (hts _ hw1) (hts _ hw2) (hts _ hw3) (hts _ hw4) hE.classes hA.world hD hA.frame _ _ 2 2 hga hgb (qm_tys_get (by decide)) (qm_tys_get (by decide)) rfl h1 h2 h3 h4 h5 (fun _ _ => rfl) (by omega) hlo9 hd (fun H1 locs1 g1 g2 g3 => qm_W_sz fun hz => ?_)
          refine kk H1 locs1 ls (hA.put2 (h' := (h.1, h.2.1, h.2.2.1, qm_cpy h.2.2.2.1 a1 a2 i.toNatClampNeg b1 b2 j.toNatClampNeg n.toNatClampNeg, h.2.2.2.2)) hnb hsb rfl rfl (qm_ce_off (fun _ _ _ _ => rfl) (fun _ _ _ _ => rfl) qm_cpy_off (fun _ _ _ _ => rfl) (fun _ _ _ _ => rfl)) ?_ g3 hz hsz) hl
          rw [hceb]
          have e9 := qm_cpy_in (fun z : Int64 => z) h.2.2.2.1 a1 a2 i.toNatClampNeg b1 b2 j.toNatClampNeg n.toNatClampNeg
          rw [e9] at g1
          exact g1
    · cases hf
  · cases hf
theorem qm_s_bcopy {y : MethodName} {cc : ByteArray} {nL : Nat} {ret : Option FieldType} {fr lo pc index : Nat} (hd : decode cc pc = .ok (.invokestatic index, 3)) (hw1 : Cond.methodLink y.cls index arraycopyName ∈ lw_all) (hw2 : Cond.native arraycopyName ∈ lw_all) (hw3 : Cond.static arraycopyName ∈ lw_all) (hw4 : Cond.initialized "java/lang/System" ∈ lw_all) (hfr : 1 ≤ fr) (hlo : 40 ≤ lo) : qm_Snd y cc nL ret fr lo pc (qm_o_bcopy (pc + 3)) := by
  intro f0 e0
  cases e0
  intro Γ X p l e R s m args below meth c cx lv st h pc' lv' st' h' hf H locs ls hA hl hF kc ks kc' ks' hkc hks hc1 hs1 hsz Q kk
  obtain ⟨hx, hb, hml, hown, hnm, hts, hE, hlk, hrt, hfr2, hlo2⟩ := cx
  have hwords : nativeFrameWords "java/lang/System" "arraycopy" 5 + 11 ≤ 32 := by decide
  dsimp only at hf
  split at hf
  · rename_i n j b i a r
    split at hf
    · rename_i la ra ta lb rb tb hea heb
      cases hbb : Nat.ble (qm_sum r) 8 with
      | false => rw [hbb] at hf; cases hf
      | true =>
        rw [hbb] at hf
        dsimp only [cond_true] at hf
        split at hf
        · cases hf
        rename_i h9
        have h8 := Nat.le_of_ble_eq_true hbb
        have h1 : ¬ i < 0 := fun q => h9 (Or.inl q)
        have h2 : ¬ j < 0 := fun q => h9 (Or.inr (Or.inl q))
        have h3 : ¬ n < 0 := fun q => h9 (Or.inr (Or.inr (Or.inl q)))
        have h4 : i.toNatClampNeg + n.toNatClampNeg ≤ la := Nat.le_of_not_lt fun q => h9 (Or.inr (Or.inr (Or.inr (Or.inl q))))
        have h5 : j.toNatClampNeg + n.toNatClampNeg ≤ lb := Nat.le_of_not_lt fun q => h9 (Or.inr (Or.inr (Or.inr (Or.inr (Or.inl q)))))
        have h7 : ¬ rb ≤ tb := fun q => h9 (Or.inr (Or.inr (Or.inr (Or.inr (Or.inr q)))))
        obtain ⟨a1, a2⟩ := a
        obtain ⟨b1, b2⟩ := b
        have hT := hE.arrays (qm_arr_s hea)
        obtain ⟨shb, hnb, hsb, hceb⟩ := qm_arr_cell (Γ := Γ) heb h7 (by decide)
        have hgb := qm_fl_get0 (Γ := Γ) (h := h) hnb hsb
        rw [hceb] at hgb
        have hD := qm_fl_D (Γ := Γ) (h := h) hA.2.1
        have hlo9 : ((qm_cvs Γ r).map fun v => v.category).sum + (nativeFrameWords "java/lang/System" "arraycopy" 5 + 11) ≤ R.locals := by rw [qm_sum_cv]; omega
        have hml9 : c.maxLocals = ls.size := by rw [hml]; exact hl.1.symm
        cases hf
        obtain rfl : kc' = kc := by dsimp only at hkc; omega
        obtain rfl : ks' = ks := by dsimp only at hks; omega
        refine vk_copyt hx hb hml9 hown (hts _ hw1) (hts _ hw2) (hts _ hw3) (hts _ hw4) hE.classes hA.world hD hA.frame (f := fun j => (qm_SB a1 j).toInt32) hT _ 1 hgb (qm_tys_get (by decide)) h1 h2 h3 h4 h5 (fun _ _ => qm_fitB _) (by omega) hlo9 hd (fun H1 locs1 g1 g2 g3 => qm_W_sz fun hz => ?_)
        refine kk H1 locs1 ls (hA.put2 (h' := (h.1, h.2.1, (fun r' s' i' => if r' = b1 ∧ s' = b2 ∧ j.toNatClampNeg ≤ i' ∧ i' < j.toNatClampNeg + n.toNatClampNeg then qm_SB a1 (i.toNatClampNeg + (i' - j.toNatClampNeg)) else h.2.2.1 r' s' i'), h.2.2.2)) hnb hsb rfl rfl (qm_ce_off (fun _ _ _ _ => rfl) (fun r' s' j' q => if_neg (fun z => q ⟨z.1, z.2.1⟩)) (fun _ _ _ _ => rfl) (fun _ _ _ _ => rfl) (fun _ _ _ _ => rfl)) ?_ g3 hz hsz) hl
        rw [hceb]
        have e9 : va_cpy (fun j => (qm_SB a1 j).toInt32) (fun j => (h.2.2.1 b1 b2 j).toInt32) i.toNatClampNeg j.toNatClampNeg n.toNatClampNeg = fun j' => (if b1 = b1 ∧ b2 = b2 ∧ j.toNatClampNeg ≤ j' ∧ j' < j.toNatClampNeg + n.toNatClampNeg then qm_SB a1 (i.toNatClampNeg + (j' - j.toNatClampNeg)) else h.2.2.1 b1 b2 j').toInt32 := by
          funext j'
          show (if j.toNatClampNeg ≤ j' ∧ j' < j.toNatClampNeg + n.toNatClampNeg then (qm_SB a1 (i.toNatClampNeg + (j' - j.toNatClampNeg))).toInt32 else (h.2.2.1 b1 b2 j').toInt32) = _
          by_cases hq : j.toNatClampNeg ≤ j' ∧ j' < j.toNatClampNeg + n.toNatClampNeg
          · rw [if_pos hq, if_pos ⟨rfl, rfl, hq⟩]
          · rw [if_neg hq, if_neg (fun z => hq z.2.2)]
        have g1 : va_P Γ.1 qm_cl ((qm_fl Γ h 0 h.1).set (qm_ps h.1 b1 + b2) (qm_ad Γ (0, b1, b2), .inl (Γ.2.1 1, lb, .inl (va_cpy (fun j => (qm_SB a1 j).toInt32) (fun j => (h.2.2.1 b1 b2 j).toInt32) i.toNatClampNeg j.toNatClampNeg n.toNatClampNeg)))) H1 := g1
        rw [e9] at g1
        exact g1
    · cases hf
  · cases hf
