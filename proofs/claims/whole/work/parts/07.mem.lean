/-! THE MEMORY'S INSTRUCTIONS -/
theorem qm_tys_get {Γ : qm_Cn} {ty : Nat} (h : ty < 10) : (qm_tys Γ)[ty]? = some (Γ.2.1 ty, qm_ft ty) := by
  rw [qm_tys, List.getElem?_map, List.getElem?_range h]
  rfl
theorem qm_fl_get0 {Γ : qm_Cn} {h : qm_Hp} {l : List qm_Sh} {r s : Nat} {sh : qm_Sh} (h0 : qm_nth l r = some sh) (hs : s < qm_sz sh) : (qm_fl Γ h 0 l)[qm_ps l r + s]? = some (qm_ad Γ (0, r, s), qm_ce Γ h r sh s) := by
  have := qm_fl_get (Γ := Γ) (h := h) l 0 r sh s h0 hs
  rw [Nat.zero_add] at this
  exact this
theorem qm_At.world {Γ : qm_Cn} {X : Nat × (Nat → Int32)} {h : qm_Hp} {s : State} {H : Heap} {locs : List Loc} (hA : qm_At Γ X h s H locs) : va_P Γ.1 qm_cl (qm_fl Γ h 0 h.1) H := hA.2.2.1
/-- one cell is written, all else stays -/
theorem qm_At.put {Γ : qm_Cn} {X : Nat × (Nat → Int32)} {h h' : qm_Hp} {s : State} {H H1 : Heap} {locs : List Loc} (hA : qm_At Γ X h s H locs) {r s0 : Nat} {sh : qm_Sh} (hn : qm_nth h.1 r = some sh) (hs : s0 < qm_sz sh) (h1 : h'.1 = h.1) (hX : h'.2.2.2.2.2.2 = h.2.2.2.2.2.2)
    (hoff : ∀ r' s' sh', s' < qm_sz sh' → ¬ (r' = r ∧ s' = s0) → qm_ce Γ h' r' sh' s' = qm_ce Γ h r' sh' s') (hat : va_at Γ.1 qm_cl (qm_ad Γ (0, r, s0), qm_ce Γ h' r sh s0) H1) (z : H1.size = H.size) (oq : ∀ q : Nat, q ≠ qm_ad Γ (0, r, s0) → H1[q]? = H[q]?) (k : Nat) :
    qm_At Γ X h' s H1 (locs ++ [⟨qm_ad Γ (0, r, s0), k⟩]) := by
  obtain ⟨a1, a2, a3, a4, a5⟩ := hA
  have hD := qm_fl_D (Γ := Γ) (h := h) a2
  have hg := qm_fl_get0 (Γ := Γ) (h := h) hn hs
  refine ⟨by rw [hX]; exact a1, by rw [h1]; exact a2, ?_, by rw [h1, z]; exact a4, a5.put z oq (hD.2 _ _ hg)⟩
  have e := qm_fl_set (Γ := Γ) (h := h) (h' := h') h.1 0 r sh s0 hn hs (fun r' s' sh' q1 q2 => hoff r' s' sh' q1 (by rw [Nat.zero_add] at q2; exact q2))
  rw [Nat.zero_add] at e
  rw [h1, e]
  exact a3.set hD hg hat oq
/-- contents that differ at one place at most: every other cell is the same -/
theorem qm_ce_off {Γ : qm_Cn} {h h' : qm_Hp} {r s0 : Nat} (eI : ∀ r' s' i, ¬ (r' = r ∧ s' = s0) → h'.2.1 r' s' i = h.2.1 r' s' i) (eB : ∀ r' s' i, ¬ (r' = r ∧ s' = s0) → h'.2.2.1 r' s' i = h.2.2.1 r' s' i) (eL : ∀ r' s' i, ¬ (r' = r ∧ s' = s0) → h'.2.2.2.1 r' s' i = h.2.2.2.1 r' s' i) (eD : ∀ r' s' i, ¬ (r' = r ∧ s' = s0) → h'.2.2.2.2.1 r' s' i = h.2.2.2.2.1 r' s' i) (eR : ∀ r' s' i, ¬ (r' = r ∧ s' = s0) → h'.2.2.2.2.2.1 r' s' i = h.2.2.2.2.2.1 r' s' i) :
    ∀ r' s' sh', s' < qm_sz sh' → ¬ (r' = r ∧ s' = s0) → qm_ce Γ h' r' sh' s' = qm_ce Γ h r' sh' s' := by
  have hc : ∀ r' s' ty, ¬ (r' = r ∧ s' = s0) → qm_cnt Γ h' r' s' ty = qm_cnt Γ h r' s' ty := by
    intro r' s' ty hn
    rcases ty with _ | _ | _ | _ | ty
    · exact congrArg Sum.inl (funext fun j => eI r' s' j hn)
    · exact congrArg Sum.inl (funext fun j => by rw [eB r' s' j hn])
    · exact congrArg Sum.inr (congrArg Sum.inl (funext fun j => eL r' s' j hn))
    · exact congrArg Sum.inr (congrArg Sum.inr (congrArg Sum.inr (congrArg Sum.inl (funext fun j => eD r' s' j hn))))
    · exact congrArg Sum.inr (congrArg Sum.inr (congrArg Sum.inr (congrArg Sum.inr (funext fun j => by rw [eR r' s' j hn]))))
  have hfv : ∀ r' k t, ¬ (r' = r ∧ 0 = s0) → qm_fv Γ h' r' k t = qm_fv Γ h r' k t := by
    intro r' k t hn
    unfold qm_fv
    split
    · rw [eI r' 0 k hn]
    · rw [eL r' 0 k hn]
    · rw [eD r' 0 k hn]
    · rw [eR r' 0 k hn]
  have hfs : ∀ r' (l : List Nat) k, ¬ (r' = r ∧ 0 = s0) → qm_fs Γ h' r' k l = qm_fs Γ h r' k l := by
    intro r' l
    induction l with
    | nil => intro k _; rfl
    | cons t l ih =>
      intro k hn
      show qm_fv Γ h' r' k t :: qm_fs Γ h' r' (k + 1) l = qm_fv Γ h r' k t :: qm_fs Γ h r' (k + 1) l
      rw [hfv r' k t hn, ih (k + 1) hn]
  intro r' s' sh' hs hn
  rcases sh' with ci | ⟨ty, n⟩ | ⟨tyo, tyi, n, k⟩
  · have e : s' = 0 := by have : s' < 1 := hs; omega
    subst e
    show (Sum.inr (ci, qm_fs Γ h' r' 0 (qm_fg ci)) : va_E) = (Sum.inr (ci, qm_fs Γ h r' 0 (qm_fg ci)) : va_E)
    rw [hfs r' _ 0 hn]
  · have e : s' = 0 := by have : s' < 1 := hs; omega
    subst e
    show (Sum.inl (Γ.2.1 ty, n, qm_cnt Γ h' r' 0 ty) : va_E) = (Sum.inl (Γ.2.1 ty, n, qm_cnt Γ h r' 0 ty) : va_E)
    rw [hc r' 0 ty hn]
  · cases s' with
    | zero => rfl
    | succ t =>
      show (Sum.inl (Γ.2.1 tyi, k, qm_cnt Γ h' r' (t + 1) tyi) : va_E) = (Sum.inl (Γ.2.1 tyi, k, qm_cnt Γ h r' (t + 1) tyi) : va_E)
      rw [hc r' (t + 1) tyi hn]
