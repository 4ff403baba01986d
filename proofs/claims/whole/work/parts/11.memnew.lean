theorem qm_fl_congB {Γ : qm_Cn} {h h' : qm_Hp} : ∀ (l : List qm_Sh) (r0 : Nat), (∀ r s sh, r0 ≤ r → r < r0 + l.length → s < qm_sz sh → qm_ce Γ h' r sh s = qm_ce Γ h r sh s) → qm_fl Γ h' r0 l = qm_fl Γ h r0 l
  | [], _, _ => rfl
  | a :: l, r0, hq => by
    show qm_cs Γ h' r0 a ++ qm_fl Γ h' (r0 + 1) l = qm_cs Γ h r0 a ++ qm_fl Γ h (r0 + 1) l
    rw [qm_fl_congB l (r0 + 1) (fun r s sh h1 h2 h3 => hq r s sh (by omega) (by rw [List.length_cons]; omega) h3)]
    congr 1
    unfold qm_cs
    apply List.map_congr_left
    intro s hs
    rw [hq r0 s a (Nat.le_refl _) (by rw [List.length_cons]; omega) (List.mem_range.mp hs)]
theorem qm_clr_ne {α : Type} {f : qm_Ct α} {r : Nat} {v : α} {r' s i : Nat} (h : r' ≠ r) : qm_clr f r v r' s i = f r' s i := if_neg h
theorem qm_clr_eq {α : Type} {f : qm_Ct α} {r : Nat} {v : α} {s i : Nat} : qm_clr f r v r s i = v := if_pos rfl
theorem qm_ce_reg {Γ : qm_Cn} {h h' : qm_Hp} {r : Nat} (eI : ∀ s i, h'.2.1 r s i = h.2.1 r s i) (eB : ∀ s i, h'.2.2.1 r s i = h.2.2.1 r s i) (eL : ∀ s i, h'.2.2.2.1 r s i = h.2.2.2.1 r s i) (eD : ∀ s i, h'.2.2.2.2.1 r s i = h.2.2.2.2.1 r s i) (eR : ∀ s i, h'.2.2.2.2.2.1 r s i = h.2.2.2.2.2.1 r s i) (sh : qm_Sh) (s : Nat) : qm_ce Γ h' r sh s = qm_ce Γ h r sh s := by
  have hc : ∀ s' ty, qm_cnt Γ h' r s' ty = qm_cnt Γ h r s' ty := by
    intro s' ty
    rcases ty with _ | _ | _ | _ | ty
    · exact congrArg Sum.inl (funext fun j => eI s' j)
    · exact congrArg Sum.inl (funext fun j => by rw [eB s' j])
    · exact congrArg Sum.inr (congrArg Sum.inl (funext fun j => eL s' j))
    · exact congrArg Sum.inr (congrArg Sum.inr (congrArg Sum.inr (congrArg Sum.inl (funext fun j => eD s' j))))
    · exact congrArg Sum.inr (congrArg Sum.inr (congrArg Sum.inr (congrArg Sum.inr (funext fun j => by rw [eR s' j]))))
  have hfs : ∀ (l : List Nat) k, qm_fs Γ h' r k l = qm_fs Γ h r k l := by
    intro l
    induction l with
    | nil => intro k; rfl
    | cons t l ih =>
      intro k
      show qm_fv Γ h' r k t :: qm_fs Γ h' r (k + 1) l = qm_fv Γ h r k t :: qm_fs Γ h r (k + 1) l
      rw [ih (k + 1)]
      congr 1
      unfold qm_fv
      split
      · rw [eI 0 k]
      · rw [eL 0 k]
      · rw [eD 0 k]
      · rw [eR 0 k]
  rcases sh with ci | ⟨ty, n⟩ | ⟨tyo, tyi, n, k⟩
  · show (Sum.inr (ci, qm_fs Γ h' r 0 (qm_fg ci)) : va_E) = (Sum.inr (ci, qm_fs Γ h r 0 (qm_fg ci)) : va_E)
    rw [hfs]
  · show (Sum.inl (Γ.2.1 ty, n, qm_cnt Γ h' r 0 ty) : va_E) = (Sum.inl (Γ.2.1 ty, n, qm_cnt Γ h r 0 ty) : va_E)
    rw [hc]
  · cases s with
    | zero => rfl
    | succ t =>
      show (Sum.inl (Γ.2.1 tyi, k, qm_cnt Γ h' r (t + 1) tyi) : va_E) = (Sum.inl (Γ.2.1 tyi, k, qm_cnt Γ h r (t + 1) tyi) : va_E)
      rw [hc]
/-- a region comes -/
theorem qm_At.new {Γ : qm_Cn} {X : Nat × (Nat → Int32)} {h : qm_Hp} {s : State} {H H1 : Heap} {locs : List Loc} (hA : qm_At Γ X h s H locs) {sh : qm_Sh} (hF : h.1 ++ [sh] <+: Γ.2.2.2.2.2) (hat : ∀ s0, s0 < qm_sz sh → va_at Γ.1 qm_cl (H.size + s0, qm_ce Γ (qm_new h sh) h.1.length sh s0) H1) (z : H1.size = H.size + qm_sz sh) (o : ∀ q : Nat, q < H.size → H1[q]? = H[q]?) : qm_At Γ X (qm_new h sh) s H1 locs := by
  obtain ⟨a1, a2, a3, a4, a5⟩ := hA
  have hlen : qm_ps Γ.2.2.2.2.2 h.1.length = qm_tot h.1 := by rw [qm_ps_pre h.1 _ _ a2 (Nat.le_refl _), qm_ps_len]
  refine ⟨a1, hF, ?_, ?_, ⟨by rw [z]; exact Nat.le_trans a5.1 (by omega), fun q h1 h2 => (o q (Nat.lt_of_lt_of_le h1 a5.1)).trans (a5.2.1 q h1 h2), a5.2.2⟩⟩
  · show va_P Γ.1 qm_cl (qm_fl Γ (qm_new h sh) 0 (h.1 ++ [sh])) H1
    rw [qm_fl_app, qm_fl_congB (h := h) h.1 0 (fun r s0 sh' _ hr _ => by
      have hne : r ≠ h.1.length := by omega
      exact qm_ce_reg (fun _ _ => qm_clr_ne hne) (fun _ _ => qm_clr_ne hne) (fun _ _ => qm_clr_ne hne) (fun _ _ => qm_clr_ne hne) (fun _ _ => qm_clr_ne hne) sh' s0)]
    refine va_P.app (a3.kept fun k q hk => o q.1 ((a3 k q hk).lt)) (fun k q hk => ?_)
    obtain ⟨r, s0, sh', h1, h2, h3, h4⟩ := qm_fl_at [sh] (0 + h.1.length) k q hk
    have hr : r = 0 := by have := qm_nth_lt _ _ _ h1; simpa using this
    subst hr
    cases h1
    have h5 := hat s0 h2
    rw [h4]
    have e : qm_ad Γ (0, 0 + h.1.length + 0, s0) = H.size + s0 := by
      show Γ.2.2.2.1 + qm_ps Γ.2.2.2.2.2 (0 + h.1.length + 0) + s0 = _
      rw [Nat.zero_add, Nat.add_zero, hlen, a4]
    rw [e, show 0 + h.1.length + 0 = h.1.length by omega]
    exact h5
  · show H1.size = Γ.2.2.2.1 + qm_tot (h.1 ++ [sh])
    rw [z, a4, qm_tot_app]
    show _ = _ + (_ + (qm_sz sh + 0))
    omega
theorem qm_ad_new {Γ : qm_Cn} {X : Nat × (Nat → Int32)} {h : qm_Hp} {s : State} {H : Heap} {locs : List Loc} (hA : qm_At Γ X h s H locs) : qm_ad Γ (0, h.1.length, 0) = H.size := by
  obtain ⟨a1, a2, a3, a4, a5⟩ := hA
  show Γ.2.2.2.1 + qm_ps Γ.2.2.2.2.2 h.1.length + 0 = H.size
  rw [qm_ps_pre h.1 _ _ a2 (Nat.le_refl _), qm_ps_len, a4]
  rfl
def qm_d0 : Nat → Value := fun t => match t with
  | 0 => .int 0
  | 2 => .long 0
  | 3 => .double 0
  | _ => .null
theorem qm_fs_new {Γ : qm_Cn} {h : qm_Hp} {sh : qm_Sh} (l : List Nat) (k j : Nat) : (qm_fs Γ (qm_new h sh) h.1.length k l)[j]? = (l[j]?).map qm_d0 := by
  rw [qm_fs_get]
  congr 1
  funext t
  rcases t with _ | _ | _ | _ | t
  · exact congrArg Value.int qm_clr_eq
  · exact congrArg (fun o : Option qm_Rf => va_rf (Option.map (qm_ad Γ) o)) qm_clr_eq
  · exact congrArg Value.long qm_clr_eq
  · exact congrArg Value.double qm_clr_eq
  · exact congrArg (fun o : Option qm_Rf => va_rf (Option.map (qm_ad Γ) o)) qm_clr_eq
theorem qm_s_new {y : MethodName} {cc : ByteArray} {nL : Nat} {ret : Option FieldType} {fr lo pc : Nat} {ci N index : Nat} {C : String} {T : u_T} {ty0 : Nat → FieldType} (hd : decode cc pc = .ok (.new index, 3)) (hc : qm_cl[ci]? = some (C, T, N)) (hin : ∀ w ∈ u_ws C T N, w ∈ lw_all) (hw1 : Cond.classLink y.cls index C ∈ lw_all) (hw2 : Cond.instantiable C N ∈ lw_all) (hw3 : Cond.initialized C ∈ lw_all) (hty : ∀ k, k < N → parseFieldDescriptor (T k).2.2.1 = some (ty0 k)) (hN : (qm_fg ci).length = N)
    (hdf : ∀ j, j < N → ((qm_fg ci)[j]?).map qm_d0 = some (defaultValue (ty0 j))) : qm_Snd y cc nL ret fr lo pc (qm_o_new ci (pc + 3)) := by
  intro f0 e0
  cases e0
  intro Γ X p l e R s m args below meth c cx lv st h pc' lv' st' h' hf H locs ls hA hl hF kc ks kc' ks' hkc hks hc1 hs1 hsz Q kk
  obtain ⟨hx, hb, hml, hown, hnm, hts, hE, hlk, hrt, hfr, hlo⟩ := cx
  cases hf
  have e1 : kc' = kc + 1 := by
    have : kc' + qm_tot h.1 = kc + qm_tot (h.1 ++ [Sum.inl ci]) := hkc
    rw [qm_tot_app] at this
    have : kc' + qm_tot h.1 = kc + (qm_tot h.1 + (1 + 0)) := this
    omega
  have e2 : ks' = ks + N := by
    have : ks' + qm_slt h.1 = ks + qm_slt (h.1 ++ [Sum.inl ci]) := hks
    rw [qm_slt_app] at this
    have : ks' + qm_slt h.1 = ks + (qm_slt h.1 + ((qm_fg ci).length + 0)) := this
    omega
  subst e1 e2
  have hKn := hE.classes.1 ci _ hc
  refine W.newcK hx hb hown (hts _ hw1) (hts _ hw2) (hts _ hw3) rfl hd hc1 hs1 hKn.2.1 rfl fun H1 kC hkC g1 z1 o1 => ?_
  have k9 := kk H1 locs ls (hA.new (sh := Sum.inl ci) hF (fun s0 hs0 => ?_) z1 o1) hl
  · have k9 : W p l e R s m args below meth c H1 locs (kc + 1) (ks + N) Q (F0 m (pc + 3) ls (.ref (qm_ad Γ (0, h.1.length, 0)) :: qm_cvs Γ st)) := k9
    rw [qm_ad_new hA] at k9
    exact k9
  · have : s0 = 0 := by have : s0 < 1 := hs0; omega
    subst this
    refine ⟨_, hc, (u_born ty0 hts hin hKn hkC g1 hty).to (fun j hj => ?_)⟩
    show defaultValue (ty0 j) = (qm_fs Γ (qm_new h (Sum.inl ci)) h.1.length 0 (qm_fg ci)).getD j .null
    rw [List.getD_eq_getElem?_getD, qm_fs_new, hdf j hj]
    rfl
theorem qm_cnt_new {Γ : qm_Cn} {h : qm_Hp} {sh : qm_Sh} {cA : ClassId} {n s0 ty : Nat} (h10 : ty < 10) : vp_cell cA (n, qm_cnt Γ (qm_new h sh) h.1.length s0 ty) = arrV cA n (fun _ => defaultValue (qm_ft ty)) := by
  have : ty = 0 ∨ ty = 1 ∨ ty = 2 ∨ ty = 3 ∨ ty = 4 ∨ ty = 5 ∨ ty = 6 ∨ ty = 7 ∨ ty = 8 ∨ ty = 9 := by omega
  rcases this with rfl | rfl | rfl | rfl | rfl | rfl | rfl | rfl | rfl | rfl
  · show arrV cA n (fun j => Value.int (qm_clr h.2.1 h.1.length 0 h.1.length s0 j)) = arrV cA n (fun _ => Value.int 0)
    exact congrArg (arrV cA n) (funext fun j => congrArg Value.int qm_clr_eq)
  · show arrV cA n (fun j => Value.int (qm_clr h.2.2.1 h.1.length 0 h.1.length s0 j).toInt32) = arrV cA n (fun _ => Value.int 0)
    refine congrArg (arrV cA n) (funext fun j => ?_)
    rw [qm_clr_eq]
    exact congrArg Value.int (by decide)
  · show arrV cA n (fun j => Value.long (qm_clr h.2.2.2.1 h.1.length 0 h.1.length s0 j)) = arrV cA n (fun _ => Value.long 0)
    exact congrArg (arrV cA n) (funext fun j => congrArg Value.long qm_clr_eq)
  · show arrV cA n (fun j => Value.double (qm_clr h.2.2.2.2.1 h.1.length 0 h.1.length s0 j)) = arrV cA n (fun _ => Value.double 0)
    exact congrArg (arrV cA n) (funext fun j => congrArg Value.double qm_clr_eq)
  · show arrV cA n (fun j => va_rf (Option.map (qm_ad Γ) (qm_clr h.2.2.2.2.2.1 h.1.length none h.1.length s0 j))) = arrV cA n (fun _ => Value.null)
    exact congrArg (arrV cA n) (funext fun j => congrArg (fun o : Option qm_Rf => va_rf (Option.map (qm_ad Γ) o)) qm_clr_eq)
  · show arrV cA n (fun j => va_rf (Option.map (qm_ad Γ) (qm_clr h.2.2.2.2.2.1 h.1.length none h.1.length s0 j))) = arrV cA n (fun _ => Value.null)
    exact congrArg (arrV cA n) (funext fun j => congrArg (fun o : Option qm_Rf => va_rf (Option.map (qm_ad Γ) o)) qm_clr_eq)
  · show arrV cA n (fun j => va_rf (Option.map (qm_ad Γ) (qm_clr h.2.2.2.2.2.1 h.1.length none h.1.length s0 j))) = arrV cA n (fun _ => Value.null)
    exact congrArg (arrV cA n) (funext fun j => congrArg (fun o : Option qm_Rf => va_rf (Option.map (qm_ad Γ) o)) qm_clr_eq)
  · show arrV cA n (fun j => va_rf (Option.map (qm_ad Γ) (qm_clr h.2.2.2.2.2.1 h.1.length none h.1.length s0 j))) = arrV cA n (fun _ => Value.null)
    exact congrArg (arrV cA n) (funext fun j => congrArg (fun o : Option qm_Rf => va_rf (Option.map (qm_ad Γ) o)) qm_clr_eq)
  · show arrV cA n (fun j => va_rf (Option.map (qm_ad Γ) (qm_clr h.2.2.2.2.2.1 h.1.length none h.1.length s0 j))) = arrV cA n (fun _ => Value.null)
    exact congrArg (arrV cA n) (funext fun j => congrArg (fun o : Option qm_Rf => va_rf (Option.map (qm_ad Γ) o)) qm_clr_eq)
  · show arrV cA n (fun j => va_rf (Option.map (qm_ad Γ) (qm_clr h.2.2.2.2.2.1 h.1.length none h.1.length s0 j))) = arrV cA n (fun _ => Value.null)
    exact congrArg (arrV cA n) (funext fun j => congrArg (fun o : Option qm_Rf => va_rf (Option.map (qm_ad Γ) o)) qm_clr_eq)
theorem qm_s_newa {y : MethodName} {cc : ByteArray} {nL : Nat} {ret : Option FieldType} {fr lo pc : Nat} {atype : ArrayType} {ty : Nat} (hd : decode cc pc = .ok (.newarray atype, 2)) (h4 : ty < 4) (hty : newarray.typeOf atype = qm_ft ty) (hw : Cond.arrayClass (qm_ft ty) ∈ lw_all) : qm_Snd y cc nL ret fr lo pc (qm_o_newa ty (pc + 2)) := by
  intro f0 e0
  cases e0
  intro Γ X p l e R s m args below meth c cx lv st h pc' lv' st' h' hf H locs ls hA hl hF kc ks kc' ks' hkc hks hc1 hs1 hsz Q kk
  obtain ⟨hx, hb, hml, hown, hnm, hts, hE, hlk, hrt, hfr, hlo⟩ := cx
  dsimp only at hf
  split at hf
  · rename_i x r
    split at hf
    · cases hf
    rename_i h9
    cases hf
    have e1 : kc' = kc + 1 := by
      have : kc' + qm_tot h.1 = kc + qm_tot (h.1 ++ [Sum.inr (Sum.inl (ty, x.toNatClampNeg))]) := hkc
      rw [qm_tot_app] at this
      have : kc' + qm_tot h.1 = kc + (qm_tot h.1 + (1 + 0)) := this
      omega
    have e2 : ks' = ks + x.toNatClampNeg := by
      have : ks' + qm_slt h.1 = ks + qm_slt (h.1 ++ [Sum.inr (Sum.inl (ty, x.toNatClampNeg))]) := hks
      rw [qm_slt_app] at this
      have : ks' + qm_slt h.1 = ks + (qm_slt h.1 + (x.toNatClampNeg + 0)) := this
      omega
    subst e1 e2
    have hcb : componentBytes (newarray.typeOf atype) ≤ 8 := by
      rw [hty]
      have : ty = 0 ∨ ty = 1 ∨ ty = 2 ∨ ty = 3 := by omega
      rcases this with rfl | rfl | rfl | rfl <;> decide
    have hx0 : ¬ x < 0 := fun q => h9 (Or.inl q)
    have hx1 : x.toNatClampNeg ≤ 65536 := Nat.le_of_not_lt fun q => h9 (Or.inr q)
    have hbytes : x.toNatClampNeg * componentBytes (newarray.typeOf atype) ≤ 536870912 := Nat.le_trans (Nat.mul_le_mul hx1 hcb) (by decide)
    refine va_newaK hx hb (by rw [hty]; exact hts _ hw) rfl hd rfl hx0 rfl hbytes hc1 hs1 rfl fun H1 cA g1 z1 o1 hAr hNm => ?_
    have k9 := kk H1 locs ls (hA.new (sh := Sum.inr (Sum.inl (ty, x.toNatClampNeg))) hF (fun s0 hs0 => ?_) z1 o1) hl
    · have k9 : W p l e R s m args below meth c H1 locs (kc + 1) (ks + x.toNatClampNeg) Q (F0 m (pc + 2) ls (.ref (qm_ad Γ (0, h.1.length, 0)) :: qm_cvs Γ r)) := k9
      rw [qm_ad_new hA] at k9
      exact k9
    · have : s0 = 0 := by have : s0 < 1 := hs0; omega
      subst this
      have hcA : cA = Γ.2.1 ty := by
        have hR := (hE.classes.2 ty _ (qm_tys_get (by omega))).2
        rw [hty] at hNm
        have : ty = 0 ∨ ty = 1 ∨ ty = 2 ∨ ty = 3 := by omega
        rcases this with rfl | rfl | rfl | rfl <;> exact Option.some.inj (hNm.symm.trans hR)
      subst hcA
      show H1[H.size]? = some (vp_cell (Γ.2.1 ty) (x.toNatClampNeg, qm_cnt Γ (qm_new h (Sum.inr (Sum.inl (ty, x.toNatClampNeg)))) h.1.length 0 ty))
      rw [qm_cnt_new (by omega), ← hty]
      exact g1
  · cases hf
