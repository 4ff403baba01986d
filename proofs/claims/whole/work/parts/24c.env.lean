/-! THE START: the environment of the small machine stands -/
theorem qm_ss_lt : ∀ {r : Nat} {sh : qm_Sh}, qm_SS r = some sh → r < 40 := by
  intro r sh h
  unfold qm_SS at h
  split at h
  all_goals first | (cases h; done) | omega
theorem qm_ss_6 {r n : Nat} (h : qm_SS r = some (Sum.inr (Sum.inl (6, n)))) : r = 4 ∧ n = 7 := by
  unfold qm_SS at h
  split at h
  all_goals first | (cases h; done) | (cases h; exact ⟨rfl, rfl⟩)
theorem qm_ss_11 {r : Nat} (h : qm_SS r = some (Sum.inl 11)) : ∃ i, i < 7 ∧ r = i + 5 := by
  unfold qm_SS at h
  split at h
  all_goals first | (cases h; done) | exact ⟨0, by omega, rfl⟩ | exact ⟨1, by omega, rfl⟩ | exact ⟨2, by omega, rfl⟩ | exact ⟨3, by omega, rfl⟩ | exact ⟨4, by omega, rfl⟩ | exact ⟨5, by omega, rfl⟩ | exact ⟨6, by omega, rfl⟩
theorem qm_ss_12 {r : Nat} (h : qm_SS r = some (Sum.inl 12)) : ∃ i, i < 13 ∧ r = i + 12 := by
  unfold qm_SS at h
  split at h
  all_goals first | (cases h; done) | exact ⟨0, by omega, rfl⟩ | exact ⟨1, by omega, rfl⟩ | exact ⟨2, by omega, rfl⟩ | exact ⟨3, by omega, rfl⟩ | exact ⟨4, by omega, rfl⟩ | exact ⟨5, by omega, rfl⟩ | exact ⟨6, by omega, rfl⟩ | exact ⟨7, by omega, rfl⟩ | exact ⟨8, by omega, rfl⟩ | exact ⟨9, by omega, rfl⟩ | exact ⟨10, by omega, rfl⟩ | exact ⟨11, by omega, rfl⟩ | exact ⟨12, by omega, rfl⟩
theorem qm_ck_sz : ∀ q ∈ qm_SZ, Cond.laysStatic q.1 q.2.1 q.2.2.1 ∈ tables_1 ∧ Cond.initialized q.1 ∈ tables_1 := by decide +kernel
theorem qm_ck_sio : Cond.laysStatic "jdk/internal/util/Preconditions" "SIOOBE_FORMATTER" "Ljava/util/function/BiFunction;" ∈ tables_1 ∧ Cond.initialized "jdk/internal/util/Preconditions" ∈ tables_1 ∧ Cond.isRef (.static "jdk/internal/util/Preconditions" "SIOOBE_FORMATTER" "Ljava/util/function/BiFunction;") ∈ flatC narrow_1 ∧ Cond.eq (.static "java/lang/String" "COMPACT_STRINGS" "Z") (.int 1) ∈ flatC narrow_1 := by decide +kernel
theorem qm_ck_cls : ∀ q ∈ qm_cl, Cond.instantiable q.1 q.2.2 ∈ tables_1 := by decide +kernel
theorem qm_ck_arc : ∀ ty, ty < 4 → Cond.arrayClass (qm_ft ty) ∈ tables_1 := by decide +kernel
section QS
variable {s : State} {args : Array Value}
theorem qm_st_arr0 (hn : ∀ w ∈ flatC narrow_1, w.before args s = true) {r ty n : Nat} (hr : qm_SS r = some (Sum.inr (Sum.inl (ty, n)))) : (Cond.arrayOf (qm_tm r) (qm_ft ty)).before args s = true ∧ (Term.length (qm_tm r)).eval args s none [] s = some (.int (Int32.ofNat n)) ∧ n < 1000 ∧ (ty = 6 ∨ (ty < 2 ∧ ∀ j, j < n → (Term.elem (qm_tm r) (.int (Int32.ofNat j))).eval args s none [] s = some (.int (qm_sc r ty j)))) := by
  have h0 := qm_ck1_ok r (Nat.lt_trans (qm_ss_lt hr) (by omega))
  unfold qm_ck1 at h0
  rw [hr] at h0
  dsimp only at h0
  rw [Bool.and_eq_true, Bool.and_eq_true, Bool.and_eq_true] at h0
  obtain ⟨h1, h2, h3, h4⟩ := h0
  refine ⟨hn _ (of_decide_eq_true h1), va_eqt (hn _ (of_decide_eq_true h2)), Nat.lt_of_lt_of_le (show n < 1000 from Nat.le_of_ble_eq_true h3) (Nat.le_refl _), ?_⟩
  rw [Bool.or_eq_true] at h4
  rcases h4 with h4 | h4
  · exact Or.inl (Nat.eq_of_beq_eq_true h4)
  · rw [Bool.and_eq_true] at h4
    refine Or.inr ⟨Nat.le_of_ble_eq_true h4.1, fun j hj => va_eqt (hn _ ?_)⟩
    have h5 := of_decide_eq_true h4.2
    have h6 : Cond.eq (.elem (qm_tm r) (.int (Int32.ofNat j))) (.int (qm_sc r ty j)) ∈ (List.range n).map (fun j => Cond.eq (.elem (qm_tm r) (.int (Int32.ofNat j))) (.int (qm_sc r ty j))) := List.mem_map.mpr ⟨j, List.mem_range.mpr hj, rfl⟩
    rw [h5] at h6
    exact List.mem_of_mem_drop (List.mem_of_mem_take h6)
theorem qm_st_obj0 (hn : ∀ w ∈ flatC narrow_1, w.before args s = true) {r ci : Nat} (hr : qm_SS r = some (Sum.inl ci)) : (Cond.exactly (qm_tm r) (qm_cn ci)).before args s = true := by
  have h0 := qm_ck1_ok r (Nat.lt_trans (qm_ss_lt hr) (by omega))
  unfold qm_ck1 at h0
  rw [hr] at h0
  exact hn _ (of_decide_eq_true h0)
/-- the places -/
theorem qm_st_ad (hn : ∀ w ∈ flatC narrow_1, w.before args s = true) : ∃ sa : Nat → Nat, (∀ r, r < 40 → (qm_tm r).eval args s none [] s = some (.ref (sa r))) ∧ ∃ z : Int32, (Term.static "jdk/internal/util/Preconditions" "SIOOBE_FORMATTER" "Ljava/util/function/BiFunction;").eval args s none [] s = some (if z = 0 then .null else .ref (sa 40)) := by
  have h1 : ∀ r, ∃ t : Nat, r < 40 → (qm_tm r).eval args s none [] s = some (.ref t) := by
    intro r
    by_cases hr : r < 40
    · cases hs : qm_SS r with
      | none =>
        have h0 := qm_ck1_ok r (by omega)
        unfold qm_ck1 at h0
        rw [hs] at h0
        have := Nat.eq_of_beq_eq_true h0
        omega
      | some sh =>
        rcases sh with ci | ⟨ty, n⟩ | ⟨a1, a2, a3, a4⟩
        · obtain ⟨a, c, cA, kA, q1, -⟩ := Cond.exactly_spec (args := args) (first := s) (o := none) (s := s) (idx := []) (qm_st_obj0 hn hs)
          exact ⟨a, fun _ => q1⟩
        · obtain ⟨t, cell, ht, -⟩ := Term.length_spec (qm_st_arr0 hn hs).2.1
          exact ⟨t, fun _ => ht⟩
        · exfalso
          unfold qm_SS at hs
          split at hs <;> cases hs
    · exact ⟨0, fun h => absurd h hr⟩
  obtain ⟨sa, hsa⟩ := Classical.axiomOfChoice h1
  have h2 : ∃ t : Nat, ∃ z : Int32, (Term.static "jdk/internal/util/Preconditions" "SIOOBE_FORMATTER" "Ljava/util/function/BiFunction;").eval args s none [] s = some (if z = 0 then .null else .ref t) := by
    have h3 := hn _ qm_ck_sio.2.2.1
    cases hv : (Term.static "jdk/internal/util/Preconditions" "SIOOBE_FORMATTER" "Ljava/util/function/BiFunction;").eval args s none [] s with
    | none => simp [Cond.before, Cond.holds, Cond.value, hv] at h3
    | some w =>
      simp only [Cond.before, Cond.holds, Cond.value, hv] at h3
      cases w with
      | null => exact ⟨0, 0, by simp⟩
      | ref t => exact ⟨t, 1, by simp⟩
      | _ => simp at h3
  obtain ⟨t, z, hz⟩ := h2
  refine ⟨fun r => if r = 40 then t else sa r, fun r hr => ?_, z, ?_⟩
  · rw [hsa r hr]
    show _ = some (Value.ref (if r = 40 then t else sa r))
    rw [if_neg (by omega)]
  · rw [hz]
    show _ = some (if z = 0 then Value.null else Value.ref (if 40 = 40 then t else sa 40))
    rw [if_pos (rfl : 40 = 40)]
theorem qm_st_arr {D : va_G} {cA : Nat → ClassId} {sa : Nat → Nat} {b : Nat} {F : List qm_Sh} (hn : ∀ w ∈ flatC narrow_1, w.before args s = true) (hsa : ∀ r, r < 40 → (qm_tm r).eval args s none [] s = some (.ref (sa r))) (r ty n : Nat) (hr : qm_SS r = some (Sum.inr (Sum.inl (ty, n)))) : va_T (qm_ft ty) (sa r) n (qm_sv (D, cA, sa, s.heap.size, b, F) r ty) (fun q => s.heap.size ≤ q) s s.heap := by
  obtain ⟨h1, h2, h3, h4⟩ := qm_st_arr0 hn hr
  have hA : ∀ a : Nat, a < s.heap.size → ¬ (fun q : Nat => s.heap.size ≤ q) a := fun a ha => Nat.not_le.mpr ha
  have key : ∀ j, j < n → (Term.elem (qm_tm r) (.int (Int32.ofNat j))).eval args s none [] s = some (qm_sv (D, cA, sa, s.heap.size, b, F) r ty j) := by
    intro j hj
    rcases h4 with rfl | ⟨h4, h5⟩
    · obtain ⟨rfl, rfl⟩ := qm_ss_6 hr
      have e : qm_sv (D, cA, sa, s.heap.size, b, F) 4 6 j = .ref (sa (j + 5)) := by
        show va_rf ((bif Nat.blt j 7 then some (1, j + 5, 0) else none : Option qm_Rf).map _) = _
        rw [show Nat.blt j 7 = true from Nat.ble_eq_true_of_le hj]
        rfl
      rw [e]
      exact Cond.eq_refs (hn _ (qm_ck_all j hj)) (hsa (j + 5) (by omega)) rfl
    · rw [h5 j hj]
      rcases ty with _ | _ | ty
      · rfl
      · rfl
      · omega
  obtain ⟨t, ht, hT⟩ := va_Tof (f := qm_sv (D, cA, sa, s.heap.size, b, F) r ty) (Nat.lt_trans h3 (by decide)) h1 h2 key hA
  have := (hsa r (qm_ss_lt hr)).symm.trans ht
  cases this
  exact hT
theorem qm_st_field {D : va_G} {cA : Nat → ClassId} {sa : Nat → Nat} {b : Nat} {F : List qm_Sh} (hn : ∀ w ∈ flatC narrow_1, w.before args s = true) (hsa : ∀ r, r < 40 → (qm_tm r).eval args s none [] s = some (.ref (sa r))) (r ci k : Nat) (o n d : String) (t : Nat) (hr : qm_SS r = some (Sum.inl ci)) (hg : ((ci, k), (o, n, d), t) ∈ qm_GF) : va_OF o n d (qm_cv (D, cA, sa, s.heap.size, b, F) (qm_gv r k t)) (sa r) (fun q => s.heap.size ≤ q) s s.heap := by
  have hA : ∀ a : Nat, a < s.heap.size → ¬ (fun q : Nat => s.heap.size ≤ q) a := fun a ha => Nat.not_le.mpr ha
  have ht := hsa r (qm_ss_lt hr)
  simp only [qm_GF, List.mem_cons, List.not_mem_nil, or_false, Prod.mk.injEq] at hg
  rcases hg with ⟨⟨rfl, rfl⟩, ⟨rfl, rfl, rfl⟩, rfl⟩ | ⟨⟨rfl, rfl⟩, ⟨rfl, rfl, rfl⟩, rfl⟩ | ⟨⟨rfl, rfl⟩, ⟨rfl, rfl, rfl⟩, rfl⟩ | ⟨⟨rfl, rfl⟩, ⟨rfl, rfl, rfl⟩, rfl⟩ | ⟨⟨rfl, rfl⟩, ⟨rfl, rfl, rfl⟩, rfl⟩ | ⟨⟨rfl, rfl⟩, ⟨rfl, rfl, rfl⟩, rfl⟩
  · obtain ⟨i, hi, rfl⟩ := qm_ss_11 hr
    exact vk_OFof ht (va_eqt (hn _ (qm_ck_field i hi).1)) hA
  · obtain ⟨i, hi, rfl⟩ := qm_ss_11 hr
    have e : qm_cv (D, cA, sa, s.heap.size, b, F) (qm_gv (i + 5) 1 4) = .ref (sa (i + 12)) := by
      rcases i with _ | _ | _ | _ | _ | _ | _ | i
      all_goals first | rfl | omega
    rw [e]
    exact vk_OFof ht (Cond.eq_refs (hn _ (qm_ck_field i hi).2.1) (hsa (i + 12) (by omega)) rfl) hA
  · obtain ⟨i, hi, rfl⟩ := qm_ss_11 hr
    exact vk_OFof ht (va_eqt (hn _ (qm_ck_field i hi).2.2.1)) hA
  · obtain ⟨i, hi, rfl⟩ := qm_ss_11 hr
    exact vk_OFof ht (va_eqt (hn _ (qm_ck_field i hi).2.2.2)) hA
  · obtain ⟨i, hi, rfl⟩ := qm_ss_12 hr
    have e : qm_cv (D, cA, sa, s.heap.size, b, F) (qm_gv (i + 12) 0 4) = .ref (sa (i + 25)) := by
      rcases i with _ | _ | _ | _ | _ | _ | _ | _ | _ | _ | _ | _ | _ | i
      all_goals first | rfl | omega
    rw [e]
    have h9 := hsa (i + 25) (by omega)
    rw [qm_ck_value i hi] at h9
    exact vk_OFof ht h9 hA
  · obtain ⟨i, hi, rfl⟩ := qm_ss_12 hr
    have e : qm_cv (D, cA, sa, s.heap.size, b, F) (qm_gv (i + 12) 1 0) = .int 0 := by
      rcases i with _ | _ | _ | _ | _ | _ | _ | _ | _ | _ | _ | _ | _ | i
      all_goals first | rfl | omega
    rw [e]
    exact vk_OFof ht (va_eqt (hn _ (qm_ck_coder i hi))) hA
theorem qm_st_cls (hts : ∀ w ∈ lw_tbl, w.before args s = true) : ∃ (D : va_G) (cA : Nat → ClassId), va_K D qm_cl ((List.range 10).map (fun ty => (cA ty, qm_ft ty))) s := by
  have hin : ∀ w ∈ tables_1, w.before args s = true := fun w hw => hts w (List.mem_append_right _ hw)
  have h1 : ∀ ci : Nat, ∃ q : ClassId × (Nat → Nat), ∀ c : vw_C, qm_cl[ci]? = some c → u_Kn s c.1 c.2.1 c.2.2 q.1 q.2 := by
    intro ci
    cases hc : qm_cl[ci]? with
    | none => exact ⟨(default, fun _ => 0), fun c h => by cases h⟩
    | some q =>
      have hu : ∀ w ∈ u_ws q.1 q.2.1 q.2.2, w ∈ lw_all := by
        rcases ci with _ | _ | _ | _ | _ | _ | _ | _ | _ | _ | _ | ci
        · cases hc; exact qm_u0
        · cases hc; exact qm_u1
        · cases hc; exact qm_u2
        · cases hc; exact qm_u3
        · cases hc; exact qm_u4
        · cases hc; exact qm_u5
        · cases hc; exact qm_u6
        · cases hc; exact qm_u7
        · cases hc; exact qm_u8
        · cases hc; exact qm_u9
        · cases hc; exact qm_u10
        · exfalso
          have h9 := (List.getElem?_eq_some_iff.mp hc).1
          simp only [List.length_cons, List.length_nil] at h9
          omega
      obtain ⟨cC, iS, hK⟩ := u_known (qm_all_ok hts) hu (hin _ (qm_ck_cls q (List.mem_of_getElem? hc)))
      exact ⟨(cC, iS), fun c h => by cases h; exact hK⟩
  obtain ⟨D, hD⟩ := Classical.axiomOfChoice h1
  have h2 : ∀ ty : Nat, ∃ c : ClassId, ty < 10 → ArrOfT s c (qm_ft ty) ∧ va_RA s c (qm_ft ty) := by
    intro ty
    have k1 : ∀ t : FieldType, (∀ C, t ≠ .object C) → (Cond.arrayClass t).before args s = true → ∃ c : ClassId, ArrOfT s c t ∧ va_RA s c t := by
      intro t hno h
      obtain ⟨c, k, comp, q1, q2, q3⟩ := Cond.arrayClass_spec (args := args) (first := s) (o := none) (idx := []) h
      refine ⟨c, fun N z => ⟨(fun k h => by cases h), k, q2, comp, q3⟩, ?_⟩
      cases t with
      | object C => exact absurd rfl (hno C)
      | _ => exact q1
    have k2 : ∀ C : String, (Cond.arrayOver (.object C)).before args s = true → ∃ c : ClassId, ArrOfT s c (.object C) ∧ va_RA s c (.object C) := by
      intro C h
      obtain ⟨comp, c, k, q1, q2, q3, q4, q5⟩ := Cond.arrayOver_spec (args := args) (first := s) (o := none) (idx := []) h
      exact ⟨c, fun N z => ⟨(fun k h => by cases h), k, q3, comp, q4⟩, k, comp, q3, q4, q1, q5⟩
    have k3 : ∀ t : FieldType, (Cond.arrayOver (.array t)).before args s = true → ∃ c : ClassId, ArrOfT s c (.array t) ∧ va_RA s c (.array t) := by
      intro t h
      obtain ⟨comp, c, k, q1, q2, q3, q4, q5⟩ := arrayOverA_spec (args := args) (first := s) (o := none) (idx := []) h
      exact ⟨c, fun N z => ⟨(fun k h => by cases h), k, q3, comp, q4⟩, q5⟩
    have k4 := qm_ck_over
    rcases ty with _ | _ | _ | _ | _ | _ | _ | _ | _ | _ | ty
    · obtain ⟨c, h⟩ := k1 .int (fun C h => by cases h) (hin _ (qm_ck_arc 0 (by omega))); exact ⟨c, fun _ => h⟩
    · obtain ⟨c, h⟩ := k1 .byte (fun C h => by cases h) (hin _ (qm_ck_arc 1 (by omega))); exact ⟨c, fun _ => h⟩
    · obtain ⟨c, h⟩ := k1 .long (fun C h => by cases h) (hin _ (qm_ck_arc 2 (by omega))); exact ⟨c, fun _ => h⟩
    · obtain ⟨c, h⟩ := k1 .double (fun C h => by cases h) (hin _ (qm_ck_arc 3 (by omega))); exact ⟨c, fun _ => h⟩
    · obtain ⟨c, h⟩ := k2 "QuoteMind$Tape" (hin _ (k4.2 _ (by decide))); exact ⟨c, fun _ => h⟩
    · obtain ⟨c, h⟩ := k2 "QuoteMind$Rival" (hin _ (k4.2 _ (by decide))); exact ⟨c, fun _ => h⟩
    · obtain ⟨c, h⟩ := k2 "QuoteMind$Word" (hin _ (k4.2 _ (by decide))); exact ⟨c, fun _ => h⟩
    · obtain ⟨c, h⟩ := k3 .int (hin _ (k4.1 _ (by decide))); exact ⟨c, fun _ => h⟩
    · obtain ⟨c, h⟩ := k3 .long (hin _ (k4.1 _ (by decide))); exact ⟨c, fun _ => h⟩
    · obtain ⟨c, h⟩ := k3 .double (hin _ (k4.1 _ (by decide))); exact ⟨c, fun _ => h⟩
    · exact ⟨default, fun h => by omega⟩
  obtain ⟨cA, hcA⟩ := Classical.axiomOfChoice h2
  refine ⟨(fun c => (D c).1, fun c => (D c).2), cA, fun c q hq => hD c q hq, fun k q hk => ?_⟩
  rw [List.getElem?_map] at hk
  cases hg : (List.range 10)[k]? with
  | none => rw [hg] at hk; cases hk
  | some ty =>
    rw [hg] at hk
    cases hk
    have : ty < 10 := List.mem_range.mp (List.mem_of_getElem? hg)
    exact hcA ty this
end QS
/-- at the law's entry everything of the small machine's start stands -/
theorem qm_st_env {p : Program} {s : State} {m : MethodId} {meth : Method} {c : Code} {b L : Nat} {xs : Nat → Int32} (C0 : lw_At p s m meth c b L xs) : ∃ (D : va_G) (cA : Nat → ClassId) (sa : Nat → Nat) (ys : Nat → Int32), (∀ j, j < L → ys j = xs j) ∧ ∀ F : List qm_Sh, qm_Env (D, cA, sa, s.heap.size, b, F) (L, ys) s s.heap := by
  obtain ⟨hx, hb, hr, hml, hown, hts, hX, hbl, hlocks, hgv⟩ := id C0
  have hn : ∀ w ∈ flatC narrow_1, w.before #[Value.ref b] s = true := fun w hw => flat_of_before _ hgv w (List.mem_append_right _ hw)
  have hin : ∀ w ∈ tables_1, w.before #[Value.ref b] s = true := fun w hw => hts w (List.mem_append_right _ hw)
  have hA : ∀ a : Nat, a < s.heap.size → ¬ (fun q : Nat => s.heap.size ≤ q) a := fun a ha => Nat.not_le.mpr ha
  obtain ⟨D, cA, hK⟩ := qm_st_cls hts
  obtain ⟨sa, hsa, z, hz⟩ := qm_st_ad hn
  refine ⟨D, cA, sa, fun j => if j = L then z else xs j, fun j hj => if_neg (by omega), fun F => ⟨hK, fun r ty n h => qm_st_arr hn hsa r ty n h, fun r ci h => va_Oof (qm_st_obj0 hn h) (hsa r (qm_ss_lt h)) hA, fun r ci k o n d t h1 h2 => qm_st_field hn hsa r ci k o n d t h1 h2, fun C n d v hz => ?_, fun o k tx r h => ?_, ?_, hbl, Nat.le_refl _, fun o k y host h => va_Nw.of rfl (hin _ (qm_ck_nest _ h)), fun t ht => over_moved (Vm.Alike.refl _) (hin _ (qm_ck_over.1 t ht)), fun C hC => va_AO.of (hin _ (qm_ck_over.2 C hC)), ?_⟩⟩
  · obtain ⟨w1, w2⟩ := qm_ck_sz _ hz
    refine va_Zof (hin _ w1) (hin _ w2) ?_ hA
    simp only [qm_SZ, List.mem_cons, List.not_mem_nil, or_false, Prod.mk.injEq] at hz
    rcases hz with ⟨rfl, rfl, rfl, rfl⟩ | ⟨rfl, rfl, rfl, rfl⟩ | ⟨rfl, rfl, rfl, rfl⟩ | ⟨rfl, rfl, rfl, rfl⟩ | ⟨rfl, rfl, rfl, rfl⟩ | ⟨rfl, rfl, rfl, rfl⟩ | ⟨rfl, rfl, rfl, rfl⟩ | ⟨rfl, rfl, rfl, rfl⟩
    · exact hsa 0 (by omega)
    · exact hsa 1 (by omega)
    · exact hsa 2 (by omega)
    · exact hsa 3 (by omega)
    · exact hsa 4 (by omega)
    · exact hsa 38 (by omega)
    · exact hsa 39 (by omega)
    · exact va_eqi (hn _ qm_ck_sio.2.2.2)
  · obtain ⟨h1, h2, h3⟩ := qm_ck_text _ h
    refine vk_R.of (hin _ h1) ?_
    rcases h2 with h2 | h2
    · dsimp only at h2
      rw [h2]
      exact hsa r h3
    · exact Cond.eq_refs (hn _ h2) (hsa r h3) rfl
  · obtain ⟨scr, g1, g2, g3, g4, g5⟩ := hX
    exact ⟨scr, g1, g2, g3, g4, fun j hj => by rw [g5 j hj]; show _ = some (Value.int (if j = L then z else xs j)); rw [if_neg (by omega)]⟩
  · refine va_Zof (hin _ qm_ck_sio.1) (hin _ qm_ck_sio.2.1) ?_ hA
    rw [hz]
    congr 1
    show _ = va_rf ((if (if L = L then z else xs L) = 0 then none else some (1, 40, 0) : Option qm_Rf).map _)
    rw [if_pos rfl]
    by_cases h0 : z = 0
    · rw [if_pos h0, if_pos h0]; rfl
    · rw [if_neg h0, if_neg h0]; rfl
