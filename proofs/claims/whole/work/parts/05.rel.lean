/-! WHAT THE SMALL MACHINE'S STATE IS IN THE MACHINE: addresses, values, cells; a heap of regions as a world of the kit. -/
/-- class ids and slots; array classes by type; addresses of what is given; the first address of the run; the script's; the shapes at the end -/
abbrev qm_Cn : Type := va_G × (Nat → ClassId) × (Nat → Nat) × Nat × Nat × List qm_Sh
def qm_sz : qm_Sh → Nat
  | Sum.inl _ => 1
  | Sum.inr (Sum.inl _) => 1
  | Sum.inr (Sum.inr (_, _, n, _)) => n + 1
/-- types of fields by class: 0 int and smaller, 2 long, 3 double, 4 a reference -/
def qm_fg : Nat → List Nat := fun ci => match ci with
  | 0 => [4, 4, 0, 4, 4, 4, 4]
  | 1 => [4, 4, 4, 4]
  | 2 => [4, 4, 4, 0, 4, 0]
  | 3 => [4, 0, 0, 3, 3]
  | 4 => [4, 4, 4, 0, 4, 4, 0]
  | 5 => [4, 4, 4, 4, 4, 4, 0]
  | 6 => [4, 0, 0, 4, 4, 0]
  | 7 => [0, 0, 0]
  | 8 => [4, 0, 0]
  | 9 => [4, 4, 3, 3, 0, 3, 3, 4, 4, 4, 4, 4, 0, 4, 4, 4, 0, 0, 0, 4, 4, 4, 4, 4]
  | 10 => [4, 0, 0, 0]
  | _ => []
def qm_wd : qm_Sh → Nat
  | Sum.inl ci => (qm_fg ci).length
  | Sum.inr (Sum.inl (_, n)) => n
  | Sum.inr (Sum.inr (_, _, n, k)) => n + n * k
def qm_ps : List qm_Sh → Nat → Nat
  | [], _ => 0
  | _ :: _, 0 => 0
  | a :: l, n + 1 => qm_sz a + qm_ps l n
def qm_tot : List qm_Sh → Nat
  | [] => 0
  | a :: l => qm_sz a + qm_tot l
def qm_slt : List qm_Sh → Nat
  | [] => 0
  | a :: l => qm_wd a + qm_slt l
def qm_ad (Γ : qm_Cn) : qm_Rf → Nat
  | (0, r, s) => Γ.2.2.2.1 + qm_ps Γ.2.2.2.2.2 r + s
  | (1, r, _) => Γ.2.2.1 r
  | (_ + 2, _, _) => Γ.2.2.2.2.1
def qm_cv (Γ : qm_Cn) : qm_V → Value
  | Sum.inl x => .int x
  | Sum.inr (Sum.inl x) => .long x
  | Sum.inr (Sum.inr (Sum.inl x)) => .float x
  | Sum.inr (Sum.inr (Sum.inr (Sum.inl x))) => .double x
  | Sum.inr (Sum.inr (Sum.inr (Sum.inr o))) => va_rf (o.map (qm_ad Γ))
theorem qm_cv_cat (Γ : qm_Cn) (v : qm_V) : (qm_cv Γ v).category = qm_cat v := by
  rcases v with x | x | x | x | o
  · rfl
  · rfl
  · rfl
  · rfl
  · cases o <;> rfl
def qm_cvs (Γ : qm_Cn) (st : List qm_V) : List Value := st.map (qm_cv Γ)
def qm_cvl (Γ : qm_Cn) (lv : qm_Lv) : List (Nat × Value) := lv.map (fun q => (q.1, qm_cv Γ q.2))
theorem qm_ld_mem (Γ : qm_Cn) : ∀ (lv : qm_Lv) (i : Nat) (v : qm_V), qm_ld lv i = some v → (i, qm_cv Γ v) ∈ qm_cvl Γ lv
  | [], _, _, h => by cases h
  | (j, w) :: l, i, v, h => by
    rw [qm_ld] at h
    cases hb : Nat.beq j i with
    | true =>
      rw [hb] at h
      cases h
      have e : j = i := Nat.eq_of_beq_eq_true hb
      subst e
      exact List.mem_cons_self
    | false =>
      rw [hb] at h
      exact List.mem_cons_of_mem _ (qm_ld_mem Γ l i v h)
theorem qm_ld_at {Γ : qm_Cn} {lv : qm_Lv} {ls : Array Slot} {n i : Nat} {v : qm_V} (hl : lv_has ls n (qm_cvl Γ lv)) (h : qm_ld lv i = some v) : ls[i]? = some (.val (qm_cv Γ v)) := hl.2.2 _ (qm_ld_mem Γ lv i v h)
theorem qm_bq (a b : Nat) : Nat.beq a b = (a == b) := by
  cases h : Nat.beq a b with
  | true =>
    have e : a = b := Nat.eq_of_beq_eq_true h
    subst e
    simp
  | false =>
    have e : a ≠ b := Nat.ne_of_beq_eq_false h
    simp [e]
theorem qm_k1_cv (Γ : qm_Cn) (i : Nat) : ∀ lv : qm_Lv, qm_cvl Γ (qm_k1 i lv) = (qm_cvl Γ lv).filter (fun q => !(q.1 == i) && !(q.1 + 1 == i && q.2.category == 2))
  | [] => rfl
  | (j, v) :: l => by
    show qm_cvl Γ (bif _ then _ else _) = ((j, qm_cv Γ v) :: qm_cvl Γ l).filter _
    rw [List.filter_cons, ← qm_k1_cv Γ i l, qm_cv_cat, qm_bq, qm_bq, qm_bq]
    cases h : (j == i || (j + 1 == i && qm_cat v == 2)) with
    | true =>
      have h2 : (!(j == i) && !(j + 1 == i && qm_cat v == 2)) = false := by rw [← Bool.not_or, h]; rfl
      rw [h2]
      rfl
    | false =>
      have h2 : (!(j == i) && !(j + 1 == i && qm_cat v == 2)) = true := by rw [← Bool.not_or, h]; rfl
      rw [h2]
      rfl
theorem qm_k2_cv (Γ : qm_Cn) (i : Nat) : ∀ lv : qm_Lv, qm_cvl Γ (qm_k2 i lv) = (qm_cvl Γ lv).filter (fun q => !(q.1 == i) && (!(q.1 == i + 1) && !(q.1 + 1 == i && q.2.category == 2)))
  | [] => rfl
  | (j, v) :: l => by
    show qm_cvl Γ (bif _ then _ else _) = ((j, qm_cv Γ v) :: qm_cvl Γ l).filter _
    rw [List.filter_cons, ← qm_k2_cv Γ i l, qm_cv_cat, qm_bq, qm_bq, qm_bq, qm_bq]
    cases h : (j == i || (j == i + 1 || (j + 1 == i && qm_cat v == 2))) with
    | true =>
      have h2 : (!(j == i) && (!(j == i + 1) && !(j + 1 == i && qm_cat v == 2))) = false := by rw [← Bool.not_or, ← Bool.not_or, h]; rfl
      rw [h2]
      rfl
    | false =>
      have h2 : (!(j == i) && (!(j == i + 1) && !(j + 1 == i && qm_cat v == 2))) = true := by rw [← Bool.not_or, ← Bool.not_or, h]; rfl
      rw [h2]
      rfl
theorem qm_pick_has {Γ : qm_Cn} {ls : Array Slot} {n : Nat} {lv : qm_Lv} (h : lv_has ls n (qm_cvl Γ lv)) (ks : List Nat) : lv_has ls n (qm_cvl Γ (qm_pick ks lv)) := by
  refine ⟨h.1, h.2.1, ?_⟩
  induction ks with
  | nil => intro q hq; cases hq
  | cons k ks ih =>
    intro q hq
    rw [qm_pick] at hq
    cases hk : qm_ld lv k with
    | none => rw [hk] at hq; exact ih q hq
    | some v =>
      rw [hk] at hq
      rcases List.mem_cons.mp hq with e | hq
      · rw [e]; exact qm_ld_at h hk
      · exact ih q hq
theorem qm_args_cv (Γ : qm_Cn) : ∀ (as : List qm_V) (i : Nat), qm_cvl Γ (qm_args i as) = lv_args i (qm_cvs Γ as)
  | [], _ => rfl
  | v :: l, i => by
    show (i, qm_cv Γ v) :: qm_cvl Γ (qm_args (i + qm_cat v) l) = (i, qm_cv Γ v) :: lv_args (if (qm_cv Γ v).category = 2 then i + 2 else i + 1) (qm_cvs Γ l)
    rw [qm_args_cv Γ l, qm_cv_cat]
    congr 2
    rcases v with x | x | x | x | o <;> rfl
theorem qm_sum_cv (Γ : qm_Cn) : ∀ st : List qm_V, ((qm_cvs Γ st).map fun v => v.category).sum = qm_sum st
  | [] => rfl
  | v :: l => by
    show ((qm_cv Γ v).category :: ((qm_cvs Γ l).map fun v => v.category)).sum = qm_cat v + qm_sum l
    rw [List.sum_cons, qm_cv_cat, qm_sum_cv Γ l]
theorem qm_pop_cv (Γ : qm_Cn) : ∀ (n : Nat) (acc st as rest : List qm_V), qm_pop n acc st = some (as, rest) → ∃ bs : List qm_V, bs.length = n ∧ as = bs ++ acc ∧ st = bs.reverse ++ rest
  | 0, acc, st, as, rest, h => by cases h; exact ⟨[], rfl, rfl, rfl⟩
  | n + 1, acc, [], as, rest, h => by cases h
  | n + 1, acc, v :: st, as, rest, h => by
    obtain ⟨bs, h1, h2, h3⟩ := qm_pop_cv Γ n (v :: acc) st as rest h
    refine ⟨bs ++ [v], by simp [h1], by simp [h2], ?_⟩
    rw [h3, List.reverse_append]
    rfl
/-! cells -/
def qm_cnt (Γ : qm_Cn) (h : qm_Hp) (r s ty : Nat) : (Nat → Int32) ⊕ (Nat → Int64) ⊕ (Nat → UInt32) ⊕ (Nat → UInt64) ⊕ (Nat → Option Nat) := match ty with
  | 0 => Sum.inl (fun j => h.2.1 r s j)
  | 1 => Sum.inl (fun j => (h.2.2.1 r s j).toInt32)
  | 2 => Sum.inr (Sum.inl (fun j => h.2.2.2.1 r s j))
  | 3 => Sum.inr (Sum.inr (Sum.inr (Sum.inl (fun j => h.2.2.2.2.1 r s j))))
  | _ + 4 => Sum.inr (Sum.inr (Sum.inr (Sum.inr (fun j => (h.2.2.2.2.2.1 r s j).map (qm_ad Γ)))))
def qm_ft : Nat → FieldType := fun ty => match ty with
  | 0 => .int
  | 1 => .byte
  | 2 => .long
  | 3 => .double
  | 4 => .object "QuoteMind$Tape"
  | 5 => .object "QuoteMind$Rival"
  | 6 => .object "QuoteMind$Word"
  | 7 => .array .int
  | 8 => .array .long
  | _ => .array .double
def qm_tys (Γ : qm_Cn) : List (ClassId × FieldType) := (List.range 10).map (fun ty => (Γ.2.1 ty, qm_ft ty))
def qm_fv (Γ : qm_Cn) (h : qm_Hp) (r k : Nat) : Nat → Value := fun t => match t with
  | 0 => .int (h.2.1 r 0 k)
  | 2 => .long (h.2.2.2.1 r 0 k)
  | 3 => .double (h.2.2.2.2.1 r 0 k)
  | _ => va_rf ((h.2.2.2.2.2.1 r 0 k).map (qm_ad Γ))
def qm_fs (Γ : qm_Cn) (h : qm_Hp) (r : Nat) : Nat → List Nat → List Value
  | _, [] => []
  | k, t :: l => qm_fv Γ h r k t :: qm_fs Γ h r (k + 1) l
def qm_ce (Γ : qm_Cn) (h : qm_Hp) (r : Nat) (sh : qm_Sh) (s : Nat) : va_E := match sh with
  | Sum.inl ci => .inr (ci, qm_fs Γ h r 0 (qm_fg ci))
  | Sum.inr (Sum.inl (ty, n)) => .inl (Γ.2.1 ty, n, qm_cnt Γ h r 0 ty)
  | Sum.inr (Sum.inr (tyo, tyi, n, k)) => match s with
    | 0 => .inl (Γ.2.1 tyo, n, Sum.inr (Sum.inr (Sum.inr (Sum.inr (fun j => if j < n then some (qm_ad Γ (0, r, j + 1)) else none)))))
    | t + 1 => .inl (Γ.2.1 tyi, k, qm_cnt Γ h r (t + 1) tyi)
def qm_cs (Γ : qm_Cn) (h : qm_Hp) (r : Nat) (sh : qm_Sh) : va_W := (List.range (qm_sz sh)).map (fun s => (qm_ad Γ (0, r, s), qm_ce Γ h r sh s))
def qm_fl (Γ : qm_Cn) (h : qm_Hp) : Nat → List qm_Sh → va_W
  | _, [] => []
  | r, sh :: l => qm_cs Γ h r sh ++ qm_fl Γ h (r + 1) l
theorem qm_cs_len (Γ : qm_Cn) (h : qm_Hp) (r : Nat) (sh : qm_Sh) : (qm_cs Γ h r sh).length = qm_sz sh := by simp [qm_cs]
theorem qm_cs_get {Γ : qm_Cn} {h : qm_Hp} {r : Nat} {sh : qm_Sh} {s : Nat} (hs : s < qm_sz sh) : (qm_cs Γ h r sh)[s]? = some (qm_ad Γ (0, r, s), qm_ce Γ h r sh s) := by
  rw [qm_cs, List.getElem?_map, List.getElem?_range hs]
  rfl
theorem qm_fl_get {Γ : qm_Cn} {h : qm_Hp} : ∀ (l : List qm_Sh) (r0 r : Nat) (sh : qm_Sh) (s : Nat), qm_nth l r = some sh → s < qm_sz sh → (qm_fl Γ h r0 l)[qm_ps l r + s]? = some (qm_ad Γ (0, r0 + r, s), qm_ce Γ h (r0 + r) sh s)
  | [], _, _, _, _, h0, _ => by cases h0
  | a :: l, r0, 0, sh, s, h0, hs => by
    cases h0
    show (qm_cs Γ h r0 a ++ qm_fl Γ h (r0 + 1) l)[0 + s]? = _
    rw [Nat.zero_add, List.getElem?_append_left (by rw [qm_cs_len]; exact hs), qm_cs_get hs]
    rfl
  | a :: l, r0, r + 1, sh, s, h0, hs => by
    show (qm_cs Γ h r0 a ++ qm_fl Γ h (r0 + 1) l)[qm_sz a + qm_ps l r + s]? = _
    rw [List.getElem?_append_right (by rw [qm_cs_len]; omega), qm_cs_len, show qm_sz a + qm_ps l r + s - qm_sz a = qm_ps l r + s by omega, qm_fl_get l (r0 + 1) r sh s h0 hs, show r0 + 1 + r = r0 + (r + 1) by omega]
theorem qm_fl_len (Γ : qm_Cn) (h : qm_Hp) : ∀ (l : List qm_Sh) (r0 : Nat), (qm_fl Γ h r0 l).length = qm_tot l
  | [], _ => rfl
  | a :: l, r0 => by
    show (qm_cs Γ h r0 a ++ qm_fl Γ h (r0 + 1) l).length = qm_sz a + qm_tot l
    rw [List.length_append, qm_cs_len, qm_fl_len Γ h l]
/-- every cell of the world is a region's -/
theorem qm_fl_at {Γ : qm_Cn} {h : qm_Hp} : ∀ (l : List qm_Sh) (r0 k : Nat) (q : Nat × va_E), (qm_fl Γ h r0 l)[k]? = some q → ∃ (r s : Nat) (sh : qm_Sh), qm_nth l r = some sh ∧ s < qm_sz sh ∧ k = qm_ps l r + s ∧ q = (qm_ad Γ (0, r0 + r, s), qm_ce Γ h (r0 + r) sh s)
  | [], _, _, _, h0 => by cases h0
  | a :: l, r0, k, q, h0 => by
    have h0 : (qm_cs Γ h r0 a ++ qm_fl Γ h (r0 + 1) l)[k]? = some q := h0
    by_cases hk : k < qm_sz a
    · rw [List.getElem?_append_left (by rw [qm_cs_len]; exact hk), qm_cs_get hk] at h0
      cases h0
      exact ⟨0, k, a, rfl, hk, by simp [qm_ps], rfl⟩
    · rw [List.getElem?_append_right (by rw [qm_cs_len]; omega), qm_cs_len] at h0
      obtain ⟨r, s, sh, h1, h2, h3, h4⟩ := qm_fl_at l (r0 + 1) _ q h0
      refine ⟨r + 1, s, sh, h1, h2, ?_, ?_⟩
      · show k = qm_sz a + qm_ps l r + s
        omega
      · rw [h4, show r0 + 1 + r = r0 + (r + 1) by omega]
theorem qm_fl_cong {Γ : qm_Cn} {h h' : qm_Hp} : ∀ (l : List qm_Sh) (r0 : Nat), (∀ r s sh, r0 ≤ r → s < qm_sz sh → qm_ce Γ h' r sh s = qm_ce Γ h r sh s) → qm_fl Γ h' r0 l = qm_fl Γ h r0 l
  | [], _, _ => rfl
  | a :: l, r0, hq => by
    show qm_cs Γ h' r0 a ++ qm_fl Γ h' (r0 + 1) l = qm_cs Γ h r0 a ++ qm_fl Γ h (r0 + 1) l
    rw [qm_fl_cong l (r0 + 1) (fun r s sh h1 h2 => hq r s sh (by omega) h2)]
    congr 1
    unfold qm_cs
    apply List.map_congr_left
    intro s hs
    rw [hq r0 s a (Nat.le_refl _) (List.mem_range.mp hs)]
theorem qm_fl_set {Γ : qm_Cn} {h h' : qm_Hp} : ∀ (l : List qm_Sh) (r0 r : Nat) (sh : qm_Sh) (s : Nat), qm_nth l r = some sh → s < qm_sz sh → (∀ r' s' sh', s' < qm_sz sh' → ¬ (r' = r0 + r ∧ s' = s) → qm_ce Γ h' r' sh' s' = qm_ce Γ h r' sh' s') →
    qm_fl Γ h' r0 l = (qm_fl Γ h r0 l).set (qm_ps l r + s) (qm_ad Γ (0, r0 + r, s), qm_ce Γ h' (r0 + r) sh s)
  | [], _, _, _, _, h0, _, _ => by cases h0
  | a :: l, r0, 0, sh, s, h0, hs, hq => by
    cases h0
    show qm_cs Γ h' r0 a ++ qm_fl Γ h' (r0 + 1) l = (qm_cs Γ h r0 a ++ qm_fl Γ h (r0 + 1) l).set (0 + s) _
    rw [Nat.zero_add, List.set_append_left _ _ (by rw [qm_cs_len]; exact hs), qm_fl_cong l (r0 + 1) (fun r s' sh' h1 h2 => hq r s' sh' h2 (by omega))]
    congr 1
    apply List.ext_getElem?
    intro i
    by_cases hi : i < qm_sz a
    · rw [qm_cs_get hi]
      by_cases he : i = s
      · subst he
        rw [List.getElem?_set_self (by rw [qm_cs_len]; exact hi)]
        rfl
      · rw [List.getElem?_set_ne (fun z => he z.symm), qm_cs_get hi, hq r0 i a hi (by omega)]
    · rw [List.getElem?_eq_none (by rw [qm_cs_len]; omega), List.getElem?_eq_none (by rw [List.length_set, qm_cs_len]; omega)]
  | a :: l, r0, r + 1, sh, s, h0, hs, hq => by
    show qm_cs Γ h' r0 a ++ qm_fl Γ h' (r0 + 1) l = (qm_cs Γ h r0 a ++ qm_fl Γ h (r0 + 1) l).set (qm_sz a + qm_ps l r + s) _
    have e : r0 + (r + 1) = r0 + 1 + r := by omega
    rw [List.set_append_right _ _ (by rw [qm_cs_len]; omega), qm_cs_len, show qm_sz a + qm_ps l r + s - qm_sz a = qm_ps l r + s by omega, e, ← qm_fl_set l (r0 + 1) r sh s h0 hs (fun r' s' sh' h1 h2 => hq r' s' sh' h1 (by rw [e]; exact h2))]
    congr 1
    unfold qm_cs
    apply List.map_congr_left
    intro s' hs'
    rw [hq r0 s' a (List.mem_range.mp hs') (by omega)]
theorem qm_fl_app {Γ : qm_Cn} {h : qm_Hp} : ∀ (l l2 : List qm_Sh) (r0 : Nat), qm_fl Γ h r0 (l ++ l2) = qm_fl Γ h r0 l ++ qm_fl Γ h (r0 + l.length) l2
  | [], _, _ => by simp [qm_fl]
  | a :: l, l2, r0 => by
    show qm_cs Γ h r0 a ++ qm_fl Γ h (r0 + 1) (l ++ l2) = (qm_cs Γ h r0 a ++ qm_fl Γ h (r0 + 1) l) ++ _
    rw [qm_fl_app l l2, List.append_assoc, List.length_cons, show r0 + 1 + l.length = r0 + (l.length + 1) by omega]
theorem qm_ps_pre : ∀ (l F : List qm_Sh) (r : Nat), l <+: F → r ≤ l.length → qm_ps F r = qm_ps l r
  | [], F, r, _, h => by
    have : r = 0 := by simpa using h
    subst this
    cases F <;> rfl
  | a :: l, F, 0, h, _ => by
    obtain ⟨t, rfl⟩ := h
    rfl
  | a :: l, F, r + 1, h, h2 => by
    obtain ⟨t, rfl⟩ := h
    show qm_sz a + qm_ps (l ++ t) r = qm_sz a + qm_ps l r
    rw [qm_ps_pre l (l ++ t) r ⟨t, rfl⟩ (by simpa using h2)]
theorem qm_nth_lt : ∀ (l : List qm_Sh) (r : Nat) (sh : qm_Sh), qm_nth l r = some sh → r < l.length
  | [], _, _, h => by cases h
  | _ :: _, 0, _, _ => by simp
  | _ :: l, r + 1, sh, h => by
    have := qm_nth_lt l r sh h
    simp
    omega
theorem qm_ps_len : ∀ l : List qm_Sh, qm_ps l l.length = qm_tot l
  | [] => rfl
  | a :: l => by
    show qm_sz a + qm_ps l l.length = qm_sz a + qm_tot l
    rw [qm_ps_len l]
theorem qm_tot_app : ∀ l l2 : List qm_Sh, qm_tot (l ++ l2) = qm_tot l + qm_tot l2
  | [], l2 => by simp [qm_tot]
  | a :: l, l2 => by
    show qm_sz a + qm_tot (l ++ l2) = qm_sz a + qm_tot l + qm_tot l2
    rw [qm_tot_app l l2]
    omega
theorem qm_slt_app : ∀ l l2 : List qm_Sh, qm_slt (l ++ l2) = qm_slt l + qm_slt l2
  | [], l2 => by simp [qm_slt]
  | a :: l, l2 => by
    show qm_wd a + qm_slt (l ++ l2) = qm_wd a + qm_slt l + qm_slt l2
    rw [qm_slt_app l l2]
    omega
/-- each cell's address is its place in the world -/
theorem qm_fl_adr {Γ : qm_Cn} {h : qm_Hp} {l : List qm_Sh} (hl : l <+: Γ.2.2.2.2.2) {k : Nat} {q : Nat × va_E} (hk : (qm_fl Γ h 0 l)[k]? = some q) : q.1 = Γ.2.2.2.1 + k := by
  obtain ⟨r, s, sh, h1, h2, h3, h4⟩ := qm_fl_at l 0 k q hk
  rw [h4, h3]
  show Γ.2.2.2.1 + qm_ps Γ.2.2.2.2.2 (0 + r) + s = _
  rw [Nat.zero_add, qm_ps_pre l _ r hl (Nat.le_of_lt (qm_nth_lt l r sh h1))]
  omega
theorem qm_fl_D {Γ : qm_Cn} {h : qm_Hp} {l : List qm_Sh} (hl : l <+: Γ.2.2.2.2.2) : va_D (fun q => Γ.2.2.2.1 ≤ q) (qm_fl Γ h 0 l) := by
  refine ⟨fun i j p q hi hj e => ?_, fun k q hk => ?_⟩
  · have h1 := qm_fl_adr hl hi
    have h2 := qm_fl_adr hl hj
    omega
  · have h1 := qm_fl_adr hl hk
    show Γ.2.2.2.1 ≤ q.1
    omega
