/-! THE START: what the statement gives of the start is what the small machine has at its start -/
theorem qm_sel_more {C : String} {y y0 : MethodName} {s : State} {args : Array Value} (hc : y.cls = y0.cls) (hy : y.cls ≠ "java/lang/invoke/MethodHandle" ∧ y.cls ≠ "java/lang/invoke/VarHandle") (h0 : (Cond.selects C y0 y0).before args s = true)
    (hpriv : (Cond.privateMethod y).before args s = true) (hinst : (Cond.instanceMethod y).before args s = true) : (Cond.selects C y y).before args s = true := by
  obtain ⟨c, r, m0, q1, -, q3, -, mk0, q5, q6⟩ := Cond.selects_spec (args := args) (first := s) (o := none) (idx := []) h0
  obtain ⟨mk, methM, hnamed, hmethM, -, -⟩ := Cond.instanceMethod_spec hinst
  have hfound : s.methodFound? y.cls y.name y.desc = some mk := State.methodFound?_of_named hnamed hy
  have hcls : mk.cls = m0.cls := by
    have e1 := findClass_of_methodNamed hnamed
    have e2 := findClass_of_methodNamed q3
    rw [hc] at e1
    exact Option.some.inj (e1.symm.trans e2)
  have hsel : selectMethod {} s.vm c mk = .method mk := selectMethod_private hmethM (Cond.privateMethod_at hpriv mk methM hnamed hmethM)
  simp only [Cond.before, Cond.holds, Cond.value, q1, hfound, hnamed, hsel, hcls, q5]
  simp
  exact q6
theorem qm_more_ok {s : State} {args : Array Value} (hts : ∀ w ∈ lw_tbl, w.before args s = true) : ∀ w ∈ lw_more, w.before args s = true := by
  have hin : ∀ w ∈ tables_1, w.before args s = true := fun w hw => hts w (List.mem_append_right _ hw)
  have h0 : (Cond.selects RJ4 yJ5_isLatin1_aae02 yJ5_isLatin1_aae02).before args s = true := hin _ (by decide +kernel)
  have key : ∀ y ∈ [yJ5_ensureCapacityInternal_d00df, yJ5_newCapacity_0f7a4, yJ5_putStringAt_47b60, yJ5_inflateIfNeededFor_a7421], (Cond.selects RJ4 y y).before args s = true := by
    intro y hy
    have h1 : (Cond.privateMethod y) ∈ tables_1 ∧ (Cond.instanceMethod y) ∈ tables_1 ∧ y.cls = yJ5_isLatin1_aae02.cls := by
      revert y
      decide +kernel
    exact qm_sel_more h1.2.2 (by rw [h1.2.2]; decide +kernel) h0 (hin _ h1.1) (hin _ h1.2.1)
  intro w hw
  simp only [lw_more, List.mem_cons, List.not_mem_nil, or_false] at hw
  rcases hw with rfl | rfl | rfl | rfl <;> exact key _ (by simp)
theorem qm_all_ok {s : State} {args : Array Value} (hts : ∀ w ∈ lw_tbl, w.before args s = true) : ∀ w ∈ lw_all, w.before args s = true := by
  intro w hw
  rcases List.mem_append.mp (List.mem_filter.mp hw).1 with h | h
  · exact qm_more_ok hts w h
  · exact hts w h
/-- where a given region's place is read from -/
def qm_tm : Nat → Term := fun r => match r with
  | 0 => .static "QuoteMind$Market" "LEAST" "[I"
  | 1 => .static "QuoteMind$Market" "MOST" "[I"
  | 2 => .static "QuoteMind$Notes" "SETTING_OF_EVENT" "[I"
  | 3 => .static "QuoteMind$1" "$SwitchMap$QuoteMind$Word" "[I"
  | 4 => .static "QuoteMind$Word" "ALL" "[LQuoteMind$Word;"
  | 5 => .static "QuoteMind$Word" "BID" "LQuoteMind$Word;"
  | 6 => .static "QuoteMind$Word" "ASK" "LQuoteMind$Word;"
  | 7 => .static "QuoteMind$Word" "HIT" "LQuoteMind$Word;"
  | 8 => .static "QuoteMind$Word" "LIFT" "LQuoteMind$Word;"
  | 9 => .static "QuoteMind$Word" "PULL" "LQuoteMind$Word;"
  | 10 => .static "QuoteMind$Word" "FAIR" "LQuoteMind$Word;"
  | 11 => .static "QuoteMind$Word" "STREET" "LQuoteMind$Word;"
  | 12 => .string "QuoteMind$Word" 79
  | 13 => .string "QuoteMind$Word" 85
  | 14 => .string "QuoteMind$Word" 88
  | 15 => .string "QuoteMind$Word" 91
  | 16 => .string "QuoteMind$Word" 94
  | 17 => .string "QuoteMind$Word" 97
  | 18 => .string "QuoteMind$Word" 100
  | 19 => .string "QuoteMind" 355
  | 20 => .string "QuoteMind" 357
  | 21 => .string "QuoteMind" 359
  | 22 => .string "QuoteMindModel" 232
  | 23 => .string "QuoteMindModel" 234
  | 24 => .string "QuoteMindModel" 236
  | 25 => .field (.string "QuoteMind$Word" 79) "java/lang/String" "value" "[B"
  | 26 => .field (.string "QuoteMind$Word" 85) "java/lang/String" "value" "[B"
  | 27 => .field (.string "QuoteMind$Word" 88) "java/lang/String" "value" "[B"
  | 28 => .field (.string "QuoteMind$Word" 91) "java/lang/String" "value" "[B"
  | 29 => .field (.string "QuoteMind$Word" 94) "java/lang/String" "value" "[B"
  | 30 => .field (.string "QuoteMind$Word" 97) "java/lang/String" "value" "[B"
  | 31 => .field (.string "QuoteMind$Word" 100) "java/lang/String" "value" "[B"
  | 32 => .field (.string "QuoteMind" 355) "java/lang/String" "value" "[B"
  | 33 => .field (.string "QuoteMind" 357) "java/lang/String" "value" "[B"
  | 34 => .field (.string "QuoteMind" 359) "java/lang/String" "value" "[B"
  | 35 => .field (.string "QuoteMindModel" 232) "java/lang/String" "value" "[B"
  | 36 => .field (.string "QuoteMindModel" 234) "java/lang/String" "value" "[B"
  | 37 => .field (.string "QuoteMindModel" 236) "java/lang/String" "value" "[B"
  | 38 => .static "java/lang/Integer" "DigitOnes" "[B"
  | _ => .static "java/lang/Integer" "DigitTens" "[B"
/-- an element of a given array of numbers -/
def qm_sc (r ty j : Nat) : Int32 := match ty with
  | 0 => qm_SI r j
  | _ => (qm_SB r j).toInt32
/-- the place of an array's elements among the parts of the start's condition -/
def qm_of : Nat → Nat := fun r => match r with
  | 0 => 6
  | 1 => 15
  | 2 => 256
  | 3 => 40
  | 4 => 26
  | 25 => 541
  | 26 => 561
  | 27 => 582
  | 28 => 604
  | 29 => 628
  | 30 => 653
  | 31 => 679
  | 32 => 355
  | 33 => 364
  | 34 => 375
  | 35 => 483
  | 36 => 501
  | 37 => 521
  | 38 => 50
  | 39 => 153
  | _ => 0
def qm_ck1 (r : Nat) : Bool := match qm_SS r with
  | some (Sum.inr (Sum.inl (ty, n))) => decide (Cond.arrayOf (qm_tm r) (qm_ft ty) ∈ flatC narrow_1) && (decide (Cond.eq (.length (qm_tm r)) (.int (Int32.ofNat n)) ∈ flatC narrow_1) && (Nat.blt n 1000 && (Nat.beq ty 6 || (Nat.blt ty 2 && decide ((List.range n).map (fun j => Cond.eq (.elem (qm_tm r) (.int (Int32.ofNat j))) (.int (qm_sc r ty j))) = ((flatC narrow_1).drop (qm_of r)).take n)))))
  | some (Sum.inl ci) => decide (Cond.exactly (qm_tm r) (qm_cn ci) ∈ flatC narrow_1)
  | _ => Nat.beq r 40
set_option maxRecDepth 100000 in
theorem qm_ck1_ok : ∀ r, r < 41 → qm_ck1 r = true := by decide +kernel
theorem qm_ck_all : ∀ j, j < 7 → Cond.eq (.elem (qm_tm 4) (.int (Int32.ofNat j))) (qm_tm (j + 5)) ∈ flatC narrow_1 := by decide +kernel
theorem qm_ck_field : ∀ i, i < 7 → Cond.eq (.field (qm_tm (i + 5)) "java/lang/Enum" "ordinal" "I") (.int (qm_SI (i + 5) 0)) ∈ flatC narrow_1 ∧ Cond.eq (.field (qm_tm (i + 5)) "QuoteMind$Word" "letters" "Ljava/lang/String;") (qm_tm (i + 12)) ∈ flatC narrow_1 ∧
    Cond.eq (.field (qm_tm (i + 5)) "QuoteMind$Word" "digitsLeast" "I") (.int (qm_SI (i + 5) 2)) ∈ flatC narrow_1 ∧ Cond.eq (.field (qm_tm (i + 5)) "QuoteMind$Word" "digitsMost" "I") (.int (qm_SI (i + 5) 3)) ∈ flatC narrow_1 := by decide +kernel
theorem qm_ck_coder : ∀ i, i < 13 → Cond.eq (.field (qm_tm (i + 12)) "java/lang/String" "coder" "B") (.int 0) ∈ flatC narrow_1 := by decide +kernel
theorem qm_ck_value : ∀ i, i < 13 → qm_tm (i + 25) = .field (qm_tm (i + 12)) "java/lang/String" "value" "[B" := by decide +kernel
theorem qm_ck_text : ∀ q ∈ qm_TX, Cond.stringRef q.1 q.2.1 q.2.2.1 ∈ tables_1 ∧ (Term.string q.1 q.2.1 = qm_tm q.2.2.2 ∨ Cond.eq (.string q.1 q.2.1) (qm_tm q.2.2.2) ∈ flatC narrow_1) ∧ q.2.2.2 < 40 := by decide +kernel
theorem qm_ck_nest : ∀ q ∈ qm_NL, Cond.methodLinkNest q.1 q.2.1 q.2.2.1 q.2.2.2 ∈ tables_1 := by decide +kernel
theorem qm_ck_over : (∀ t ∈ qm_AOt, Cond.arrayOver (.array t) ∈ tables_1) ∧ (∀ C ∈ qm_AOc, Cond.arrayOver (.object C) ∈ tables_1) := by decide +kernel
