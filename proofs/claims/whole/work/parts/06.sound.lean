/-! EACH INSTRUCTION OF THE SMALL MACHINE IS THE MACHINE'S -/
abbrev qm_cl : List vw_C := [(RX10, TX10, 7), (RX6, TX6, 4), (RX2, TX2, 6), (RX8, TX8, 5), (RX3, TX3, 7), (RX1, TX1, 7), (RX4, TX4, 6), (RX5, TX5, 3), (RX7, TX7, 3), (RX11, TX11, 24), (RJ4, TJ4, 4)]
/-- private methods of AbstractStringBuilder, as a StringBuilder selects them -/
def lw_more : List Cond := [.selects RJ4 yJ5_ensureCapacityInternal_d00df yJ5_ensureCapacityInternal_d00df, .selects RJ4 yJ5_newCapacity_0f7a4 yJ5_newCapacity_0f7a4, .selects RJ4 yJ5_putStringAt_47b60 yJ5_putStringAt_47b60, .selects RJ4 yJ5_inflateIfNeededFor_a7421 yJ5_inflateIfNeededFor_a7421]
def lw_all : List Cond := (lw_more ++ lw_tbl).filter goodWord
/-- texts: class, number in its constants, text, region -/
def qm_TX : List (String × Nat × String × Nat) := [("QuoteMind", 355, " long", 19), ("QuoteMind", 357, " short", 20), ("QuoteMind", 359, " flat", 21), ("QuoteMindModel", 171, "bid", 12), ("QuoteMindModel", 173, "ask", 13), ("QuoteMindModel", 175, "hit", 14), ("QuoteMindModel", 177, "lift", 15), ("QuoteMindModel", 179, "pull", 16), ("QuoteMindModel", 181, "fair", 17), ("QuoteMindModel", 183, "street", 18), ("QuoteMindModel", 232, "long", 22), ("QuoteMindModel", 234, "short", 23), ("QuoteMindModel", 236, "flat", 24), ("QuoteMind$Word", 79, "bid", 12), ("QuoteMind$Word", 85, "ask", 13), ("QuoteMind$Word", 88, "hit", 14), ("QuoteMind$Word", 91, "lift", 15), ("QuoteMind$Word", 94, "pull", 16), ("QuoteMind$Word", 97, "fair", 17), ("QuoteMind$Word", 100, "street", 18)]
/-- static fields that are read: class, name, descriptor, value -/
def qm_SZ : List (String × String × String × qm_V) := [("QuoteMind$Market", "LEAST", "[I", qm_R (some (1, 0, 0))), ("QuoteMind$Market", "MOST", "[I", qm_R (some (1, 1, 0))), ("QuoteMind$Notes", "SETTING_OF_EVENT", "[I", qm_R (some (1, 2, 0))), ("QuoteMind$1", "$SwitchMap$QuoteMind$Word", "[I", qm_R (some (1, 3, 0))), ("QuoteMind$Word", "ALL", "[LQuoteMind$Word;", qm_R (some (1, 4, 0))), ("java/lang/Integer", "DigitOnes", "[B", qm_R (some (1, 38, 0))), ("java/lang/Integer", "DigitTens", "[B", qm_R (some (1, 39, 0))), ("java/lang/String", "COMPACT_STRINGS", "Z", qm_I 1)]
/-- fields of given objects that are read: class of the object, place; owner, name, descriptor; type (0 int, 4 a reference) -/
def qm_GF : List ((Nat × Nat) × (String × String × String) × Nat) := [((11, 0), ("java/lang/Enum", "ordinal", "I"), 0), ((11, 1), ("QuoteMind$Word", "letters", "Ljava/lang/String;"), 4), ((11, 2), ("QuoteMind$Word", "digitsLeast", "I"), 0), ((11, 3), ("QuoteMind$Word", "digitsMost", "I"), 0), ((12, 0), ("java/lang/String", "value", "[B"), 4), ((12, 1), ("java/lang/String", "coder", "B"), 0)]
def qm_gv (r k t : Nat) : qm_V := match t with
  | 0 => qm_I (qm_SI r k)
  | _ => qm_R (qm_SR r k)
def qm_cn : Nat → String := fun ci => match ci with
  | 0 => RX10
  | 1 => RX6
  | 2 => RX2
  | 3 => RX8
  | 4 => RX3
  | 5 => RX1
  | 6 => RX4
  | 7 => RX5
  | 8 => RX7
  | 9 => RX11
  | 10 => RJ4
  | 11 => RX9
  | _ => RJ0
/-- what a given array holds -/
def qm_sv (Γ : qm_Cn) (r ty j : Nat) : Value := match ty with
  | 0 => .int (qm_SI r j)
  | 1 => .int (qm_SB r j).toInt32
  | _ => va_rf ((qm_SR r j).map (qm_ad Γ))
abbrev qm_A (Γ : qm_Cn) : Nat → Prop := fun q => Γ.2.2.2.1 ≤ q
/-- links to nest mates: class, number, method, host -/
def qm_NL : List (String × Nat × MethodName × String) := [("QuoteMind$State", 20, ⟨"QuoteMind$Truth", "<init>", "()V"⟩, "QuoteMind"), ("QuoteMind$State", 27, ⟨"QuoteMind$Notes", "<init>", "()V"⟩, "QuoteMind"), ("QuoteMind", 23, ⟨"QuoteMind$Backward", "<init>", "()V"⟩, "QuoteMind"), ("QuoteMind", 30, ⟨"QuoteMind$OrderText", "<init>", "()V"⟩, "QuoteMind"), ("QuoteMind", 48, ⟨"QuoteMind$Tape", "<init>", "()V"⟩, "QuoteMind"), ("QuoteMind$Market", 36, ⟨"QuoteMind", "within", "(III)Z"⟩, "QuoteMind"), ("QuoteMind$Backward", 67, ⟨"QuoteMind", "within", "(III)Z"⟩, "QuoteMind"), ("QuoteMind$Truth", 25, ⟨"QuoteMind", "within", "(III)Z"⟩, "QuoteMind"), ("QuoteMind$Word", 72, ⟨"QuoteMind", "within", "(III)Z"⟩, "QuoteMind"), ("QuoteMind$Notes", 30, ⟨"QuoteMind", "within", "(III)Z"⟩, "QuoteMind"), ("QuoteMind$Market", 85, ⟨"QuoteMind", "copyRows", "([[I[[I)V"⟩, "QuoteMind"), ("QuoteMind$State", 57, ⟨"QuoteMind", "copyRows", "([[I[[I)V"⟩, "QuoteMind"), ("QuoteMind$Tape", 28, ⟨"QuoteMind", "within", "(III)Z"⟩, "QuoteMind")]
/-- arrays over these stand -/
def qm_AOt : List FieldType := [.int, .long, .double]
def qm_AOc : List String := ["QuoteMind$Tape", "QuoteMind$Rival", "QuoteMind$Word"]
/-- what was given at the start stands: the tables' classes, static arrays, objects, fields, texts, the script -/
def qm_Env (Γ : qm_Cn) (X : Nat × (Nat → Int32)) (U : State) (H : Heap) : Prop :=
  va_K Γ.1 qm_cl (qm_tys Γ) U ∧
  (∀ r ty n, qm_SS r = some (Sum.inr (Sum.inl (ty, n))) → va_T (qm_ft ty) (Γ.2.2.1 r) n (qm_sv Γ r ty) (qm_A Γ) U H) ∧
  (∀ r ci, qm_SS r = some (Sum.inl ci) → va_O (qm_cn ci) (Γ.2.2.1 r) (qm_A Γ) U H) ∧
  (∀ r ci k o n d t, qm_SS r = some (Sum.inl ci) → ((ci, k), (o, n, d), t) ∈ qm_GF → va_OF o n d (qm_cv Γ (qm_gv r k t)) (Γ.2.2.1 r) (qm_A Γ) U H) ∧
  (∀ C n d v, (C, n, d, v) ∈ qm_SZ → va_Z C n d (qm_cv Γ v) (qm_A Γ) U H) ∧
  (∀ o k tx r, (o, k, tx, r) ∈ qm_TX → vk_R o k tx (Γ.2.2.1 r) U) ∧
  va_X Γ.2.2.2.2.1 X.1 X.2 U H ∧ Γ.2.2.2.2.1 < Γ.2.2.2.1 ∧ Γ.2.2.2.1 ≤ H.size ∧ (∀ o k y host, (o, k, y, host) ∈ qm_NL → va_Nw (.methodLinkNest o k y host) U) ∧
  (∀ t, t ∈ qm_AOt → (Cond.arrayOver (.array t)).before #[] U = true) ∧ (∀ C, C ∈ qm_AOc → va_AO C U) ∧
  va_Z "jdk/internal/util/Preconditions" "SIOOBE_FORMATTER" "Ljava/util/function/BiFunction;" (qm_cv Γ (qm_R (qm_sio X))) (qm_A Γ) U H
theorem qm_Env.classes {Γ : qm_Cn} {X : Nat × (Nat → Int32)} {U : State} {H : Heap} (h : qm_Env Γ X U H) : va_K Γ.1 qm_cl (qm_tys Γ) U := h.1
theorem qm_Env.arrays {Γ : qm_Cn} {X : Nat × (Nat → Int32)} {U : State} {H : Heap} (h : qm_Env Γ X U H) {r ty n : Nat} (hr : qm_SS r = some (Sum.inr (Sum.inl (ty, n)))) : va_T (qm_ft ty) (Γ.2.2.1 r) n (qm_sv Γ r ty) (qm_A Γ) U H := h.2.1 r ty n hr
theorem qm_Env.objects {Γ : qm_Cn} {X : Nat × (Nat → Int32)} {U : State} {H : Heap} (h : qm_Env Γ X U H) {r ci : Nat} (hr : qm_SS r = some (Sum.inl ci)) : va_O (qm_cn ci) (Γ.2.2.1 r) (qm_A Γ) U H := h.2.2.1 r ci hr
theorem qm_Env.fields {Γ : qm_Cn} {X : Nat × (Nat → Int32)} {U : State} {H : Heap} (h : qm_Env Γ X U H) {r ci k t : Nat} {o n d : String} (hr : qm_SS r = some (Sum.inl ci)) (hg : ((ci, k), (o, n, d), t) ∈ qm_GF) : va_OF o n d (qm_cv Γ (qm_gv r k t)) (Γ.2.2.1 r) (qm_A Γ) U H := h.2.2.2.1 r ci k o n d t hr hg
theorem qm_Env.statics {Γ : qm_Cn} {X : Nat × (Nat → Int32)} {U : State} {H : Heap} (h : qm_Env Γ X U H) {C n d : String} {v : qm_V} (hz : (C, n, d, v) ∈ qm_SZ) : va_Z C n d (qm_cv Γ v) (qm_A Γ) U H := h.2.2.2.2.1 C n d v hz
theorem qm_Env.texts {Γ : qm_Cn} {X : Nat × (Nat → Int32)} {U : State} {H : Heap} (h : qm_Env Γ X U H) {o tx : String} {k r : Nat} (hz : (o, k, tx, r) ∈ qm_TX) : vk_R o k tx (Γ.2.2.1 r) U := h.2.2.2.2.2.1 o k tx r hz
theorem qm_Env.script {Γ : qm_Cn} {X : Nat × (Nat → Int32)} {U : State} {H : Heap} (h : qm_Env Γ X U H) : va_X Γ.2.2.2.2.1 X.1 X.2 U H := h.2.2.2.2.2.2.1
theorem qm_Env.below {Γ : qm_Cn} {X : Nat × (Nat → Int32)} {U : State} {H : Heap} (h : qm_Env Γ X U H) : Γ.2.2.2.2.1 < Γ.2.2.2.1 := h.2.2.2.2.2.2.2.1
theorem qm_Env.base {Γ : qm_Cn} {X : Nat × (Nat → Int32)} {U : State} {H : Heap} (h : qm_Env Γ X U H) : Γ.2.2.2.1 ≤ H.size := h.2.2.2.2.2.2.2.2.1
theorem qm_Env.nest {Γ : qm_Cn} {X : Nat × (Nat → Int32)} {U : State} {H : Heap} (h : qm_Env Γ X U H) {o host : String} {k : Nat} {y : MethodName} (hz : (o, k, y, host) ∈ qm_NL) : va_Nw (.methodLinkNest o k y host) U := h.2.2.2.2.2.2.2.2.2.1 o k y host hz
theorem qm_Env.over {Γ : qm_Cn} {X : Nat × (Nat → Int32)} {U : State} {H : Heap} (h : qm_Env Γ X U H) {t : FieldType} (ht : t ∈ qm_AOt) (args : Array Value) : (Cond.arrayOver (.array t)).before args U = true := over_moved (Vm.Alike.refl _) (h.2.2.2.2.2.2.2.2.2.2.1 t ht)
theorem qm_Env.overO {Γ : qm_Cn} {X : Nat × (Nat → Int32)} {U : State} {H : Heap} (h : qm_Env Γ X U H) {C : String} (ht : C ∈ qm_AOc) (args : Array Value) : (Cond.arrayOver (.object C)).before args U = true := (h.2.2.2.2.2.2.2.2.2.2.2.1 C ht).use
theorem qm_Env.sio {Γ : qm_Cn} {X : Nat × (Nat → Int32)} {U : State} {H : Heap} (h : qm_Env Γ X U H) : va_Z "jdk/internal/util/Preconditions" "SIOOBE_FORMATTER" "Ljava/util/function/BiFunction;" (qm_cv Γ (qm_R (qm_sio X))) (qm_A Γ) U H := h.2.2.2.2.2.2.2.2.2.2.2.2
/-- the heap holds the small machine's -/
def qm_At (Γ : qm_Cn) (X : Nat × (Nat → Int32)) (h : qm_Hp) (s : State) (H : Heap) (locs : List Loc) : Prop :=
  h.2.2.2.2.2.2 = X ∧ h.1 <+: Γ.2.2.2.2.2 ∧ va_P Γ.1 qm_cl (qm_fl Γ h 0 h.1) H ∧ H.size = Γ.2.2.2.1 + qm_tot h.1 ∧ va_S (qm_A Γ) s.heap H locs
theorem qm_At.frame {Γ : qm_Cn} {X : Nat × (Nat → Int32)} {h : qm_Hp} {s : State} {H : Heap} {locs : List Loc} (hA : qm_At Γ X h s H locs) : va_S (qm_A Γ) s.heap H locs := hA.2.2.2.2
/-- in a frame of the method y -/
def qm_Cx (y : MethodName) (cc : ByteArray) (nL : Nat) (ret : Option FieldType) (fr lo : Nat) (Γ : qm_Cn) (X : Nat × (Nat → Int32)) (p : Program) (R : Room) (s : State) (m : MethodId) (args : Array Value) (meth : Method) (c : Code) : Prop :=
  p.tables.exec = Jvm.exec ∧ c.code = cc ∧ c.maxLocals = nL ∧ s.vm.findClass y.cls = some m.cls ∧ (y.name = "<init>" → meth.name = y.name) ∧ (∀ w ∈ lw_all, w.before args s = true) ∧ qm_Env Γ X s s.heap ∧ meth.locks = false ∧ meth.sig.returnType = ret ∧ R.frames = fr ∧ R.locals = lo
def qm_Snd (y : MethodName) (cc : ByteArray) (nL : Nat) (ret : Option FieldType) (fr lo pc : Nat) (op : qm_Op) : Prop :=
  ∀ f, op = Sum.inl f → ∀ (Γ : qm_Cn) (X : Nat × (Nat → Int32)) (p : Program) (l : Launch) (e : Env) (R : Room) (s : State) (m : MethodId) (args : Array Value) (below : List Frame) (meth : Method) (c : Code),
  qm_Cx y cc nL ret fr lo Γ X p R s m args meth c → ∀ (lv : qm_Lv) (st : List qm_V) (h : qm_Hp) (pc' : Nat) (lv' : qm_Lv) (st' : List qm_V) (h' : qm_Hp), f lv st h = some (pc', lv', st', h') →
  ∀ (H : Heap) (locs : List Loc) (ls : Array Slot), qm_At Γ X h s H locs → lv_has ls nL (qm_cvl Γ lv) → h'.1 <+: Γ.2.2.2.2.2 →
  ∀ (kc ks kc' ks' : Nat), kc' + qm_tot h.1 = kc + qm_tot h'.1 → ks' + qm_slt h.1 = ks + qm_slt h'.1 → kc' ≤ R.cells → ks' ≤ R.slots → s.heap.size + kc = Γ.2.2.2.1 + qm_tot h.1 →
  ∀ (Q : State → Prop), (∀ (H' : Heap) (locs' : List Loc) (ls' : Array Slot), qm_At Γ X h' s H' locs' → lv_has ls' nL (qm_cvl Γ lv') → W p l e R s m args below meth c H' locs' kc' ks' Q (F0 m pc' ls' (qm_cvs Γ st'))) →
  W p l e R s m args below meth c H locs kc ks Q (F0 m pc ls (qm_cvs Γ st))
theorem qm_ldcSW {p : Program} {l : Launch} {e : Env} {R : Room} {s : State} {m : MethodId} {args : Array Value} {below : List Frame} {meth : Method} {c : Code} {H : Heap} {locs : List Loc} {cells slots : Nat} {Q : State → Prop} {cc : ByteArray} {pc : Nat} {ls : Array Slot} {rest : List Value} (hexec : p.tables.exec = Jvm.exec) (hb : c.code = cc) {own tx : String} {index q : Nat} (hown : s.vm.findClass own = some m.cls) (hZ : vk_R own index tx q s) (hdg : decode cc pc = .ok (.ldc_w index, 3))
    (k : W p l e R s m args below meth c H locs cells slots Q (F0 m (pc + 3) ls (.ref q :: rest))) : W p l e R s m args below meth c H locs cells slots Q (F0 m pc ls rest) := by
  intro T hT X
  obtain ⟨t, a1, b1⟩ := k T hT X
  exact ⟨t, Jvm.Stand.ldcStringW X hexec hown (text := tx) (a := q) hZ.1 hZ.2 (g := F0 m pc ls rest) rfl (by rw [hb]; exact hdg) t a1, b1⟩
theorem qm_s_iconst {y : MethodName} {cc : ByteArray} {nL : Nat} {ret : Option FieldType} {fr lo pc : Nat} {n : Int} {v : Int32} (hd : decode cc pc = .ok (.iconst n, 1)) (hv : Int32.ofInt n = v) : qm_Snd y cc nL ret fr lo pc (qm_o_push (qm_I v) (pc + 1)) := by
  intro f0 e0
  cases e0
  intro Γ X p l e R s m args below meth c cx lv st h pc' lv' st' h' hf H locs ls hA hl hF kc ks kc' ks' hkc hks hc1 hs1 hsz Q kk
  obtain ⟨hx, hb, hml, hown, hnm, hts, hE, hlk, hrt, hfr, hlo⟩ := cx
  cases hf
  obtain rfl : kc' = kc := by omega
  obtain rfl : ks' = ks := by omega
  exact lv_iconst hx hb hd hv (kk H locs ls hA hl)

theorem qm_s_bipush {y : MethodName} {cc : ByteArray} {nL : Nat} {ret : Option FieldType} {fr lo pc : Nat} {n : Int} {v : Int32} (hd : decode cc pc = .ok (.bipush n, 2)) (hv : (Int8.ofInt n).toInt32 = v) : qm_Snd y cc nL ret fr lo pc (qm_o_push (qm_I v) (pc + 2)) := by
  intro f0 e0
  cases e0
  intro Γ X p l e R s m args below meth c cx lv st h pc' lv' st' h' hf H locs ls hA hl hF kc ks kc' ks' hkc hks hc1 hs1 hsz Q kk
  obtain ⟨hx, hb, hml, hown, hnm, hts, hE, hlk, hrt, hfr, hlo⟩ := cx
  cases hf
  obtain rfl : kc' = kc := by omega
  obtain rfl : ks' = ks := by omega
  exact lv_bipush hx hb hd hv (kk H locs ls hA hl)

theorem qm_s_sipush {y : MethodName} {cc : ByteArray} {nL : Nat} {ret : Option FieldType} {fr lo pc : Nat} {n : Int} {v : Int32} (hd : decode cc pc = .ok (.sipush n, 3)) (hv : (Int16.ofInt n).toInt32 = v) : qm_Snd y cc nL ret fr lo pc (qm_o_push (qm_I v) (pc + 3)) := by
  intro f0 e0
  cases e0
  intro Γ X p l e R s m args below meth c cx lv st h pc' lv' st' h' hf H locs ls hA hl hF kc ks kc' ks' hkc hks hc1 hs1 hsz Q kk
  obtain ⟨hx, hb, hml, hown, hnm, hts, hE, hlk, hrt, hfr, hlo⟩ := cx
  cases hf
  obtain rfl : kc' = kc := by omega
  obtain rfl : ks' = ks := by omega
  exact lv_sipush hx hb hd hv (kk H locs ls hA hl)

theorem qm_s_lconst {y : MethodName} {cc : ByteArray} {nL : Nat} {ret : Option FieldType} {fr lo pc : Nat} {n : Fin 2} {v : Int64} (hd : decode cc pc = .ok (.lconst n, 1)) (hv : Int64.ofNat (n : Nat) = v) : qm_Snd y cc nL ret fr lo pc (qm_o_push (qm_L v) (pc + 1)) := by
  intro f0 e0
  cases e0
  intro Γ X p l e R s m args below meth c cx lv st h pc' lv' st' h' hf H locs ls hA hl hF kc ks kc' ks' hkc hks hc1 hs1 hsz Q kk
  obtain ⟨hx, hb, hml, hown, hnm, hts, hE, hlk, hrt, hfr, hlo⟩ := cx
  cases hf
  obtain rfl : kc' = kc := by omega
  obtain rfl : ks' = ks := by omega
  exact lv_lconst hx hb hd hv (kk H locs ls hA hl)

theorem qm_s_dconst0 {y : MethodName} {cc : ByteArray} {nL : Nat} {ret : Option FieldType} {fr lo pc : Nat} (hd : decode cc pc = .ok (.dconst 0, 1)) : qm_Snd y cc nL ret fr lo pc (qm_o_push (qm_D 0) (pc + 1)) := by
  intro f0 e0
  cases e0
  intro Γ X p l e R s m args below meth c cx lv st h pc' lv' st' h' hf H locs ls hA hl hF kc ks kc' ks' hkc hks hc1 hs1 hsz Q kk
  obtain ⟨hx, hb, hml, hown, hnm, hts, hE, hlk, hrt, hfr, hlo⟩ := cx
  cases hf
  obtain rfl : kc' = kc := by omega
  obtain rfl : ks' = ks := by omega
  exact lv_dconst0 hx hb hd (kk H locs ls hA hl)

theorem qm_s_dconst1 {y : MethodName} {cc : ByteArray} {nL : Nat} {ret : Option FieldType} {fr lo pc : Nat} (hd : decode cc pc = .ok (.dconst 1, 1)) : qm_Snd y cc nL ret fr lo pc (qm_o_push (qm_D 4607182418800017408) (pc + 1)) := by
  intro f0 e0
  cases e0
  intro Γ X p l e R s m args below meth c cx lv st h pc' lv' st' h' hf H locs ls hA hl hF kc ks kc' ks' hkc hks hc1 hs1 hsz Q kk
  obtain ⟨hx, hb, hml, hown, hnm, hts, hE, hlk, hrt, hfr, hlo⟩ := cx
  cases hf
  obtain rfl : kc' = kc := by omega
  obtain rfl : ks' = ks := by omega
  exact lv_dconst1 hx hb hd (kk H locs ls hA hl)

theorem qm_s_null {y : MethodName} {cc : ByteArray} {nL : Nat} {ret : Option FieldType} {fr lo pc : Nat} (hd : decode cc pc = .ok (.aconst_null, 1)) : qm_Snd y cc nL ret fr lo pc (qm_o_push (qm_R none) (pc + 1)) := by
  intro f0 e0
  cases e0
  intro Γ X p l e R s m args below meth c cx lv st h pc' lv' st' h' hf H locs ls hA hl hF kc ks kc' ks' hkc hks hc1 hs1 hsz Q kk
  obtain ⟨hx, hb, hml, hown, hnm, hts, hE, hlk, hrt, hfr, hlo⟩ := cx
  cases hf
  obtain rfl : kc' = kc := by omega
  obtain rfl : ks' = ks := by omega
  exact lv_null hx hb hd (kk H locs ls hA hl)

theorem qm_s_ldci {y : MethodName} {cc : ByteArray} {nL : Nat} {ret : Option FieldType} {fr lo pc : Nat} {k : Nat} {v : Int32} (hd : decode cc pc = .ok (.ldc k, 2)) (hw : Cond.constant y.cls k v ∈ lw_all) : qm_Snd y cc nL ret fr lo pc (qm_o_push (qm_I v) (pc + 2)) := by
  intro f0 e0
  cases e0
  intro Γ X p l e R s m args below meth c cx lv st h pc' lv' st' h' hf H locs ls hA hl hF kc ks kc' ks' hkc hks hc1 hs1 hsz Q kk
  obtain ⟨hx, hb, hml, hown, hnm, hts, hE, hlk, hrt, hfr, hlo⟩ := cx
  cases hf
  obtain rfl : kc' = kc := by omega
  obtain rfl : ks' = ks := by omega
  exact lv_ldc hx hb hown (hts _ hw) hd (kk H locs ls hA hl)

theorem qm_s_ldcw {y : MethodName} {cc : ByteArray} {nL : Nat} {ret : Option FieldType} {fr lo pc : Nat} {k : Nat} {v : Int32} (hd : decode cc pc = .ok (.ldc_w k, 3)) (hw : Cond.constant y.cls k v ∈ lw_all) : qm_Snd y cc nL ret fr lo pc (qm_o_push (qm_I v) (pc + 3)) := by
  intro f0 e0
  cases e0
  intro Γ X p l e R s m args below meth c cx lv st h pc' lv' st' h' hf H locs ls hA hl hF kc ks kc' ks' hkc hks hc1 hs1 hsz Q kk
  obtain ⟨hx, hb, hml, hown, hnm, hts, hE, hlk, hrt, hfr, hlo⟩ := cx
  cases hf
  obtain rfl : kc' = kc := by omega
  obtain rfl : ks' = ks := by omega
  exact lv_ldcw hx hb hown (hts _ hw) hd (kk H locs ls hA hl)

theorem qm_s_ldcf {y : MethodName} {cc : ByteArray} {nL : Nat} {ret : Option FieldType} {fr lo pc : Nat} {k : Nat} {v : UInt32} (hd : decode cc pc = .ok (.ldc k, 2)) (hw : Cond.constantFloat y.cls k v ∈ lw_all) : qm_Snd y cc nL ret fr lo pc (qm_o_push (qm_F v) (pc + 2)) := by
  intro f0 e0
  cases e0
  intro Γ X p l e R s m args below meth c cx lv st h pc' lv' st' h' hf H locs ls hA hl hF kc ks kc' ks' hkc hks hc1 hs1 hsz Q kk
  obtain ⟨hx, hb, hml, hown, hnm, hts, hE, hlk, hrt, hfr, hlo⟩ := cx
  cases hf
  obtain rfl : kc' = kc := by omega
  obtain rfl : ks' = ks := by omega
  exact lv_ldcf hx hb hown (hts _ hw) hd (kk H locs ls hA hl)

theorem qm_s_ldc2 {y : MethodName} {cc : ByteArray} {nL : Nat} {ret : Option FieldType} {fr lo pc : Nat} {k : Nat} {v : Int64} (hd : decode cc pc = .ok (.ldc2_w k, 3)) (hw : Cond.constantLong y.cls k v ∈ lw_all) : qm_Snd y cc nL ret fr lo pc (qm_o_push (qm_L v) (pc + 3)) := by
  intro f0 e0
  cases e0
  intro Γ X p l e R s m args below meth c cx lv st h pc' lv' st' h' hf H locs ls hA hl hF kc ks kc' ks' hkc hks hc1 hs1 hsz Q kk
  obtain ⟨hx, hb, hml, hown, hnm, hts, hE, hlk, hrt, hfr, hlo⟩ := cx
  cases hf
  obtain rfl : kc' = kc := by omega
  obtain rfl : ks' = ks := by omega
  exact lv_ldc2 hx hb hown (hts _ hw) hd (kk H locs ls hA hl)

theorem qm_s_ldc2d {y : MethodName} {cc : ByteArray} {nL : Nat} {ret : Option FieldType} {fr lo pc : Nat} {k : Nat} {v : UInt64} (hd : decode cc pc = .ok (.ldc2_w k, 3)) (hw : Cond.constantDouble y.cls k v ∈ lw_all) : qm_Snd y cc nL ret fr lo pc (qm_o_push (qm_D v) (pc + 3)) := by
  intro f0 e0
  cases e0
  intro Γ X p l e R s m args below meth c cx lv st h pc' lv' st' h' hf H locs ls hA hl hF kc ks kc' ks' hkc hks hc1 hs1 hsz Q kk
  obtain ⟨hx, hb, hml, hown, hnm, hts, hE, hlk, hrt, hfr, hlo⟩ := cx
  cases hf
  obtain rfl : kc' = kc := by omega
  obtain rfl : ks' = ks := by omega
  exact lv_ldc2d hx hb hown (hts _ hw) hd (kk H locs ls hA hl)

theorem qm_s_ldcs {y : MethodName} {cc : ByteArray} {nL : Nat} {ret : Option FieldType} {fr lo pc : Nat} {k r : Nat} {tx : String} (hd : decode cc pc = .ok (.ldc k, 2)) (hw : (y.cls, k, tx, r) ∈ qm_TX) : qm_Snd y cc nL ret fr lo pc (qm_o_push (qm_R (some (1, r, 0))) (pc + 2)) := by
  intro f0 e0
  cases e0
  intro Γ X p l e R s m args below meth c cx lv st h pc' lv' st' h' hf H locs ls hA hl hF kc ks kc' ks' hkc hks hc1 hs1 hsz Q kk
  obtain ⟨hx, hb, hml, hown, hnm, hts, hE, hlk, hrt, hfr, hlo⟩ := cx
  cases hf
  obtain rfl : kc' = kc := by omega
  obtain rfl : ks' = ks := by omega
  exact va_ldcS hx hb hown (hE.texts hw) hd (kk H locs ls hA hl)

theorem qm_s_ldcsw {y : MethodName} {cc : ByteArray} {nL : Nat} {ret : Option FieldType} {fr lo pc : Nat} {k r : Nat} {tx : String} (hd : decode cc pc = .ok (.ldc_w k, 3)) (hw : (y.cls, k, tx, r) ∈ qm_TX) : qm_Snd y cc nL ret fr lo pc (qm_o_push (qm_R (some (1, r, 0))) (pc + 3)) := by
  intro f0 e0
  cases e0
  intro Γ X p l e R s m args below meth c cx lv st h pc' lv' st' h' hf H locs ls hA hl hF kc ks kc' ks' hkc hks hc1 hs1 hsz Q kk
  obtain ⟨hx, hb, hml, hown, hnm, hts, hE, hlk, hrt, hfr, hlo⟩ := cx
  cases hf
  obtain rfl : kc' = kc := by omega
  obtain rfl : ks' = ks := by omega
  exact qm_ldcSW hx hb hown (hE.texts hw) hd (kk H locs ls hA hl)

theorem qm_s_gets {y : MethodName} {cc : ByteArray} {nL : Nat} {ret : Option FieldType} {fr lo pc : Nat} {k : Nat} {C n d ref : String} {v : qm_V} (hd : decode cc pc = .ok (.getstatic k, 3)) (hz : (C, n, d, v) ∈ qm_SZ) (hw : Cond.fieldLink y.cls k ref n d ∈ lw_all) (hsame : C = ref) : qm_Snd y cc nL ret fr lo pc (qm_o_push v (pc + 3)) := by
  intro f0 e0
  cases e0
  intro Γ X p l e R s m args below meth c cx lv st h pc' lv' st' h' hf H locs ls hA hl hF kc ks kc' ks' hkc hks hc1 hs1 hsz Q kk
  obtain ⟨hx, hb, hml, hown, hnm, hts, hE, hlk, hrt, hfr, hlo⟩ := cx
  cases hf
  obtain rfl : kc' = kc := by omega
  obtain rfl : ks' = ks := by omega
  exact va_gets hx hb (hE.statics hz) hA.frame hown (hts _ hw) (fun _ h9 => by rw [← hsame]; exact h9) hd (kk H locs ls hA hl)

theorem qm_s_sio {y : MethodName} {cc : ByteArray} {nL : Nat} {ret : Option FieldType} {fr lo pc : Nat} {k : Nat} (hd : decode cc pc = .ok (.getstatic k, 3)) (hw : Cond.fieldLink y.cls k "jdk/internal/util/Preconditions" "SIOOBE_FORMATTER" "Ljava/util/function/BiFunction;" ∈ lw_all) : qm_Snd y cc nL ret fr lo pc (qm_o_sio (pc + 3)) := by
  intro f0 e0
  cases e0
  intro Γ X p l e R s m args below meth c cx lv st h pc' lv' st' h' hf H locs ls hA hl hF kc ks kc' ks' hkc hks hc1 hs1 hsz Q kk
  obtain ⟨hx, hb, hml, hown, hnm, hts, hE, hlk, hrt, hfr, hlo⟩ := cx
  cases hf
  obtain rfl : kc' = kc := by omega
  obtain rfl : ks' = ks := by omega
  refine va_gets hx hb hE.sio hA.frame hown (hts _ hw) (fun _ h9 => h9) hd ?_
  rw [← hA.1]
  exact kk H locs ls hA hl

theorem qm_s_iload_n {y : MethodName} {cc : ByteArray} {nL : Nat} {ret : Option FieldType} {fr lo pc : Nat} {k : Fin 4} {i : Nat} (hd : decode cc pc = .ok (.iload_n k, 1)) (hi : (k : Nat) = i) : qm_Snd y cc nL ret fr lo pc (qm_o_iload i (pc + 1)) := by
  intro f0 e0
  cases e0
  intro Γ X p l e R s m args below meth c cx lv st h pc' lv' st' h' hf H locs ls hA hl hF kc ks kc' ks' hkc hks hc1 hs1 hsz Q kk
  obtain ⟨hx, hb, hml, hown, hnm, hts, hE, hlk, hrt, hfr, hlo⟩ := cx
  dsimp only at hf
  split at hf
  · rename_i x h9
    cases hf
    obtain rfl : kc' = kc := by omega
    obtain rfl : ks' = ks := by omega
    exact lv_iload_n hx hb hd hi (qm_ld_at hl h9) (kk H locs ls hA hl)
  · cases hf

theorem qm_s_iload {y : MethodName} {cc : ByteArray} {nL : Nat} {ret : Option FieldType} {fr lo pc : Nat} {i : Nat} (hd : decode cc pc = .ok (.iload i, 2)) : qm_Snd y cc nL ret fr lo pc (qm_o_iload i (pc + 2)) := by
  intro f0 e0
  cases e0
  intro Γ X p l e R s m args below meth c cx lv st h pc' lv' st' h' hf H locs ls hA hl hF kc ks kc' ks' hkc hks hc1 hs1 hsz Q kk
  obtain ⟨hx, hb, hml, hown, hnm, hts, hE, hlk, hrt, hfr, hlo⟩ := cx
  dsimp only at hf
  split at hf
  · rename_i x h9
    cases hf
    obtain rfl : kc' = kc := by omega
    obtain rfl : ks' = ks := by omega
    exact lv_iload hx hb hd (qm_ld_at hl h9) (kk H locs ls hA hl)
  · cases hf

theorem qm_s_lload_n {y : MethodName} {cc : ByteArray} {nL : Nat} {ret : Option FieldType} {fr lo pc : Nat} {k : Fin 4} {i : Nat} (hd : decode cc pc = .ok (.lload_n k, 1)) (hi : (k : Nat) = i) : qm_Snd y cc nL ret fr lo pc (qm_o_lload i (pc + 1)) := by
  intro f0 e0
  cases e0
  intro Γ X p l e R s m args below meth c cx lv st h pc' lv' st' h' hf H locs ls hA hl hF kc ks kc' ks' hkc hks hc1 hs1 hsz Q kk
  obtain ⟨hx, hb, hml, hown, hnm, hts, hE, hlk, hrt, hfr, hlo⟩ := cx
  dsimp only at hf
  split at hf
  · rename_i x h9
    cases hf
    obtain rfl : kc' = kc := by omega
    obtain rfl : ks' = ks := by omega
    exact lv_lload_n hx hb hd hi (qm_ld_at hl h9) (kk H locs ls hA hl)
  · cases hf

theorem qm_s_lload {y : MethodName} {cc : ByteArray} {nL : Nat} {ret : Option FieldType} {fr lo pc : Nat} {i : Nat} (hd : decode cc pc = .ok (.lload i, 2)) : qm_Snd y cc nL ret fr lo pc (qm_o_lload i (pc + 2)) := by
  intro f0 e0
  cases e0
  intro Γ X p l e R s m args below meth c cx lv st h pc' lv' st' h' hf H locs ls hA hl hF kc ks kc' ks' hkc hks hc1 hs1 hsz Q kk
  obtain ⟨hx, hb, hml, hown, hnm, hts, hE, hlk, hrt, hfr, hlo⟩ := cx
  dsimp only at hf
  split at hf
  · rename_i x h9
    cases hf
    obtain rfl : kc' = kc := by omega
    obtain rfl : ks' = ks := by omega
    exact lv_lload hx hb hd (qm_ld_at hl h9) (kk H locs ls hA hl)
  · cases hf

theorem qm_s_fload_n {y : MethodName} {cc : ByteArray} {nL : Nat} {ret : Option FieldType} {fr lo pc : Nat} {k : Fin 4} {i : Nat} (hd : decode cc pc = .ok (.fload_n k, 1)) (hi : (k : Nat) = i) : qm_Snd y cc nL ret fr lo pc (qm_o_fload i (pc + 1)) := by
  intro f0 e0
  cases e0
  intro Γ X p l e R s m args below meth c cx lv st h pc' lv' st' h' hf H locs ls hA hl hF kc ks kc' ks' hkc hks hc1 hs1 hsz Q kk
  obtain ⟨hx, hb, hml, hown, hnm, hts, hE, hlk, hrt, hfr, hlo⟩ := cx
  dsimp only at hf
  split at hf
  · rename_i x h9
    cases hf
    obtain rfl : kc' = kc := by omega
    obtain rfl : ks' = ks := by omega
    exact lv_fload_n hx hb hd hi (qm_ld_at hl h9) (kk H locs ls hA hl)
  · cases hf

theorem qm_s_fload {y : MethodName} {cc : ByteArray} {nL : Nat} {ret : Option FieldType} {fr lo pc : Nat} {i : Nat} (hd : decode cc pc = .ok (.fload i, 2)) : qm_Snd y cc nL ret fr lo pc (qm_o_fload i (pc + 2)) := by
  intro f0 e0
  cases e0
  intro Γ X p l e R s m args below meth c cx lv st h pc' lv' st' h' hf H locs ls hA hl hF kc ks kc' ks' hkc hks hc1 hs1 hsz Q kk
  obtain ⟨hx, hb, hml, hown, hnm, hts, hE, hlk, hrt, hfr, hlo⟩ := cx
  dsimp only at hf
  split at hf
  · rename_i x h9
    cases hf
    obtain rfl : kc' = kc := by omega
    obtain rfl : ks' = ks := by omega
    exact lv_fload hx hb hd (qm_ld_at hl h9) (kk H locs ls hA hl)
  · cases hf

theorem qm_s_dload_n {y : MethodName} {cc : ByteArray} {nL : Nat} {ret : Option FieldType} {fr lo pc : Nat} {k : Fin 4} {i : Nat} (hd : decode cc pc = .ok (.dload_n k, 1)) (hi : (k : Nat) = i) : qm_Snd y cc nL ret fr lo pc (qm_o_dload i (pc + 1)) := by
  intro f0 e0
  cases e0
  intro Γ X p l e R s m args below meth c cx lv st h pc' lv' st' h' hf H locs ls hA hl hF kc ks kc' ks' hkc hks hc1 hs1 hsz Q kk
  obtain ⟨hx, hb, hml, hown, hnm, hts, hE, hlk, hrt, hfr, hlo⟩ := cx
  dsimp only at hf
  split at hf
  · rename_i x h9
    cases hf
    obtain rfl : kc' = kc := by omega
    obtain rfl : ks' = ks := by omega
    exact lv_dload_n hx hb hd hi (qm_ld_at hl h9) (kk H locs ls hA hl)
  · cases hf

theorem qm_s_dload {y : MethodName} {cc : ByteArray} {nL : Nat} {ret : Option FieldType} {fr lo pc : Nat} {i : Nat} (hd : decode cc pc = .ok (.dload i, 2)) : qm_Snd y cc nL ret fr lo pc (qm_o_dload i (pc + 2)) := by
  intro f0 e0
  cases e0
  intro Γ X p l e R s m args below meth c cx lv st h pc' lv' st' h' hf H locs ls hA hl hF kc ks kc' ks' hkc hks hc1 hs1 hsz Q kk
  obtain ⟨hx, hb, hml, hown, hnm, hts, hE, hlk, hrt, hfr, hlo⟩ := cx
  dsimp only at hf
  split at hf
  · rename_i x h9
    cases hf
    obtain rfl : kc' = kc := by omega
    obtain rfl : ks' = ks := by omega
    exact lv_dload hx hb hd (qm_ld_at hl h9) (kk H locs ls hA hl)
  · cases hf

theorem qm_s_aload_n {y : MethodName} {cc : ByteArray} {nL : Nat} {ret : Option FieldType} {fr lo pc : Nat} {k : Fin 4} {i : Nat} (hd : decode cc pc = .ok (.aload_n k, 1)) (hi : (k : Nat) = i) : qm_Snd y cc nL ret fr lo pc (qm_o_aload i (pc + 1)) := by
  intro f0 e0
  cases e0
  intro Γ X p l e R s m args below meth c cx lv st h pc' lv' st' h' hf H locs ls hA hl hF kc ks kc' ks' hkc hks hc1 hs1 hsz Q kk
  obtain ⟨hx, hb, hml, hown, hnm, hts, hE, hlk, hrt, hfr, hlo⟩ := cx
  dsimp only at hf
  split at hf
  · rename_i x h9
    cases hf
    obtain rfl : kc' = kc := by omega
    obtain rfl : ks' = ks := by omega
    cases x with
    | none => exact lv_aload_nN hx hb hd hi (qm_ld_at hl h9) (kk H locs ls hA hl)
    | some x => exact lv_aload_n hx hb hd hi (qm_ld_at hl h9) (kk H locs ls hA hl)
  · cases hf

theorem qm_s_aload {y : MethodName} {cc : ByteArray} {nL : Nat} {ret : Option FieldType} {fr lo pc : Nat} {i : Nat} (hd : decode cc pc = .ok (.aload i, 2)) : qm_Snd y cc nL ret fr lo pc (qm_o_aload i (pc + 2)) := by
  intro f0 e0
  cases e0
  intro Γ X p l e R s m args below meth c cx lv st h pc' lv' st' h' hf H locs ls hA hl hF kc ks kc' ks' hkc hks hc1 hs1 hsz Q kk
  obtain ⟨hx, hb, hml, hown, hnm, hts, hE, hlk, hrt, hfr, hlo⟩ := cx
  dsimp only at hf
  split at hf
  · rename_i x h9
    cases hf
    obtain rfl : kc' = kc := by omega
    obtain rfl : ks' = ks := by omega
    cases x with
    | none => exact lv_aloadN hx hb hd (qm_ld_at hl h9) (kk H locs ls hA hl)
    | some x => exact lv_aload hx hb hd (qm_ld_at hl h9) (kk H locs ls hA hl)
  · cases hf

theorem qm_s_istore_n {y : MethodName} {cc : ByteArray} {nL : Nat} {ret : Option FieldType} {fr lo pc : Nat} {k : Fin 4} {i : Nat} (hd : decode cc pc = .ok (.istore_n k, 1)) (hi : (k : Nat) = i) (hn : i < nL) : qm_Snd y cc nL ret fr lo pc (qm_o_istore i (pc + 1)) := by
  intro f0 e0
  cases e0
  intro Γ X p l e R s m args below meth c cx lv st h pc' lv' st' h' hf H locs ls hA hl hF kc ks kc' ks' hkc hks hc1 hs1 hsz Q kk
  obtain ⟨hx, hb, hml, hown, hnm, hts, hE, hlk, hrt, hfr, hlo⟩ := cx
  dsimp only at hf
  split at hf
  · rename_i x r
    cases hf
    obtain rfl : kc' = kc := by omega
    obtain rfl : ks' = ks := by omega
    exact lv_istore_n hx hb hd hi hl hn (by rw [← qm_k1_cv]; rfl) (fun ls9 hl9 => kk H locs ls9 hA hl9)
  · cases hf

theorem qm_s_istore {y : MethodName} {cc : ByteArray} {nL : Nat} {ret : Option FieldType} {fr lo pc : Nat} {i : Nat} (hd : decode cc pc = .ok (.istore i, 2)) (hn : i < nL) : qm_Snd y cc nL ret fr lo pc (qm_o_istore i (pc + 2)) := by
  intro f0 e0
  cases e0
  intro Γ X p l e R s m args below meth c cx lv st h pc' lv' st' h' hf H locs ls hA hl hF kc ks kc' ks' hkc hks hc1 hs1 hsz Q kk
  obtain ⟨hx, hb, hml, hown, hnm, hts, hE, hlk, hrt, hfr, hlo⟩ := cx
  dsimp only at hf
  split at hf
  · rename_i x r
    cases hf
    obtain rfl : kc' = kc := by omega
    obtain rfl : ks' = ks := by omega
    exact lv_istore hx hb hd hl hn (by rw [← qm_k1_cv]; rfl) (fun ls9 hl9 => kk H locs ls9 hA hl9)
  · cases hf

theorem qm_s_lstore_n {y : MethodName} {cc : ByteArray} {nL : Nat} {ret : Option FieldType} {fr lo pc : Nat} {k : Fin 4} {i : Nat} (hd : decode cc pc = .ok (.lstore_n k, 1)) (hi : (k : Nat) = i) (hn : i + 1 < nL) : qm_Snd y cc nL ret fr lo pc (qm_o_lstore i (pc + 1)) := by
  intro f0 e0
  cases e0
  intro Γ X p l e R s m args below meth c cx lv st h pc' lv' st' h' hf H locs ls hA hl hF kc ks kc' ks' hkc hks hc1 hs1 hsz Q kk
  obtain ⟨hx, hb, hml, hown, hnm, hts, hE, hlk, hrt, hfr, hlo⟩ := cx
  dsimp only at hf
  split at hf
  · rename_i x r
    cases hf
    obtain rfl : kc' = kc := by omega
    obtain rfl : ks' = ks := by omega
    exact lv_lstore_n hx hb hd hi hl hn (by rw [← qm_k2_cv]; rfl) (fun ls9 hl9 => kk H locs ls9 hA hl9)
  · cases hf

theorem qm_s_lstore {y : MethodName} {cc : ByteArray} {nL : Nat} {ret : Option FieldType} {fr lo pc : Nat} {i : Nat} (hd : decode cc pc = .ok (.lstore i, 2)) (hn : i + 1 < nL) : qm_Snd y cc nL ret fr lo pc (qm_o_lstore i (pc + 2)) := by
  intro f0 e0
  cases e0
  intro Γ X p l e R s m args below meth c cx lv st h pc' lv' st' h' hf H locs ls hA hl hF kc ks kc' ks' hkc hks hc1 hs1 hsz Q kk
  obtain ⟨hx, hb, hml, hown, hnm, hts, hE, hlk, hrt, hfr, hlo⟩ := cx
  dsimp only at hf
  split at hf
  · rename_i x r
    cases hf
    obtain rfl : kc' = kc := by omega
    obtain rfl : ks' = ks := by omega
    exact lv_lstore hx hb hd hl hn (by rw [← qm_k2_cv]; rfl) (fun ls9 hl9 => kk H locs ls9 hA hl9)
  · cases hf

theorem qm_s_fstore_n {y : MethodName} {cc : ByteArray} {nL : Nat} {ret : Option FieldType} {fr lo pc : Nat} {k : Fin 4} {i : Nat} (hd : decode cc pc = .ok (.fstore_n k, 1)) (hi : (k : Nat) = i) (hn : i < nL) : qm_Snd y cc nL ret fr lo pc (qm_o_fstore i (pc + 1)) := by
  intro f0 e0
  cases e0
  intro Γ X p l e R s m args below meth c cx lv st h pc' lv' st' h' hf H locs ls hA hl hF kc ks kc' ks' hkc hks hc1 hs1 hsz Q kk
  obtain ⟨hx, hb, hml, hown, hnm, hts, hE, hlk, hrt, hfr, hlo⟩ := cx
  dsimp only at hf
  split at hf
  · rename_i x r
    cases hf
    obtain rfl : kc' = kc := by omega
    obtain rfl : ks' = ks := by omega
    exact lv_fstore_n hx hb hd hi hl hn (by rw [← qm_k1_cv]; rfl) (fun ls9 hl9 => kk H locs ls9 hA hl9)
  · cases hf

theorem qm_s_fstore {y : MethodName} {cc : ByteArray} {nL : Nat} {ret : Option FieldType} {fr lo pc : Nat} {i : Nat} (hd : decode cc pc = .ok (.fstore i, 2)) (hn : i < nL) : qm_Snd y cc nL ret fr lo pc (qm_o_fstore i (pc + 2)) := by
  intro f0 e0
  cases e0
  intro Γ X p l e R s m args below meth c cx lv st h pc' lv' st' h' hf H locs ls hA hl hF kc ks kc' ks' hkc hks hc1 hs1 hsz Q kk
  obtain ⟨hx, hb, hml, hown, hnm, hts, hE, hlk, hrt, hfr, hlo⟩ := cx
  dsimp only at hf
  split at hf
  · rename_i x r
    cases hf
    obtain rfl : kc' = kc := by omega
    obtain rfl : ks' = ks := by omega
    exact lv_fstore hx hb hd hl hn (by rw [← qm_k1_cv]; rfl) (fun ls9 hl9 => kk H locs ls9 hA hl9)
  · cases hf

theorem qm_s_dstore_n {y : MethodName} {cc : ByteArray} {nL : Nat} {ret : Option FieldType} {fr lo pc : Nat} {k : Fin 4} {i : Nat} (hd : decode cc pc = .ok (.dstore_n k, 1)) (hi : (k : Nat) = i) (hn : i + 1 < nL) : qm_Snd y cc nL ret fr lo pc (qm_o_dstore i (pc + 1)) := by
  intro f0 e0
  cases e0
  intro Γ X p l e R s m args below meth c cx lv st h pc' lv' st' h' hf H locs ls hA hl hF kc ks kc' ks' hkc hks hc1 hs1 hsz Q kk
  obtain ⟨hx, hb, hml, hown, hnm, hts, hE, hlk, hrt, hfr, hlo⟩ := cx
  dsimp only at hf
  split at hf
  · rename_i x r
    cases hf
    obtain rfl : kc' = kc := by omega
    obtain rfl : ks' = ks := by omega
    exact lv_dstore_n hx hb hd hi hl hn (by rw [← qm_k2_cv]; rfl) (fun ls9 hl9 => kk H locs ls9 hA hl9)
  · cases hf

theorem qm_s_dstore {y : MethodName} {cc : ByteArray} {nL : Nat} {ret : Option FieldType} {fr lo pc : Nat} {i : Nat} (hd : decode cc pc = .ok (.dstore i, 2)) (hn : i + 1 < nL) : qm_Snd y cc nL ret fr lo pc (qm_o_dstore i (pc + 2)) := by
  intro f0 e0
  cases e0
  intro Γ X p l e R s m args below meth c cx lv st h pc' lv' st' h' hf H locs ls hA hl hF kc ks kc' ks' hkc hks hc1 hs1 hsz Q kk
  obtain ⟨hx, hb, hml, hown, hnm, hts, hE, hlk, hrt, hfr, hlo⟩ := cx
  dsimp only at hf
  split at hf
  · rename_i x r
    cases hf
    obtain rfl : kc' = kc := by omega
    obtain rfl : ks' = ks := by omega
    exact lv_dstore hx hb hd hl hn (by rw [← qm_k2_cv]; rfl) (fun ls9 hl9 => kk H locs ls9 hA hl9)
  · cases hf

theorem qm_s_astore_n {y : MethodName} {cc : ByteArray} {nL : Nat} {ret : Option FieldType} {fr lo pc : Nat} {k : Fin 4} {i : Nat} (hd : decode cc pc = .ok (.astore_n k, 1)) (hi : (k : Nat) = i) (hn : i < nL) : qm_Snd y cc nL ret fr lo pc (qm_o_astore i (pc + 1)) := by
  intro f0 e0
  cases e0
  intro Γ X p l e R s m args below meth c cx lv st h pc' lv' st' h' hf H locs ls hA hl hF kc ks kc' ks' hkc hks hc1 hs1 hsz Q kk
  obtain ⟨hx, hb, hml, hown, hnm, hts, hE, hlk, hrt, hfr, hlo⟩ := cx
  dsimp only at hf
  split at hf
  · rename_i x r
    cases hf
    obtain rfl : kc' = kc := by omega
    obtain rfl : ks' = ks := by omega
    cases x with
    | none => exact lv_astore_nN hx hb hd hi hl hn (by rw [← qm_k1_cv]; rfl) (fun ls9 hl9 => kk H locs ls9 hA hl9)
    | some x => exact lv_astore_n hx hb hd hi hl hn (by rw [← qm_k1_cv]; rfl) (fun ls9 hl9 => kk H locs ls9 hA hl9)
  · cases hf

theorem qm_s_astore {y : MethodName} {cc : ByteArray} {nL : Nat} {ret : Option FieldType} {fr lo pc : Nat} {i : Nat} (hd : decode cc pc = .ok (.astore i, 2)) (hn : i < nL) : qm_Snd y cc nL ret fr lo pc (qm_o_astore i (pc + 2)) := by
  intro f0 e0
  cases e0
  intro Γ X p l e R s m args below meth c cx lv st h pc' lv' st' h' hf H locs ls hA hl hF kc ks kc' ks' hkc hks hc1 hs1 hsz Q kk
  obtain ⟨hx, hb, hml, hown, hnm, hts, hE, hlk, hrt, hfr, hlo⟩ := cx
  dsimp only at hf
  split at hf
  · rename_i x r
    cases hf
    obtain rfl : kc' = kc := by omega
    obtain rfl : ks' = ks := by omega
    cases x with
    | none => exact lv_astoreN hx hb hd hl hn (by rw [← qm_k1_cv]; rfl) (fun ls9 hl9 => kk H locs ls9 hA hl9)
    | some x => exact lv_astore hx hb hd hl hn (by rw [← qm_k1_cv]; rfl) (fun ls9 hl9 => kk H locs ls9 hA hl9)
  · cases hf

theorem qm_s_iinc {y : MethodName} {cc : ByteArray} {nL : Nat} {ret : Option FieldType} {fr lo pc : Nat} {i : Nat} {n : Int} {d : Int32} (hd : decode cc pc = .ok (.iinc i n, 3)) (hv : Int32.ofInt n = d) (hn : i < nL) : qm_Snd y cc nL ret fr lo pc (qm_o_iinc i d (pc + 3)) := by
  intro f0 e0
  cases e0
  intro Γ X p l e R s m args below meth c cx lv st h pc' lv' st' h' hf H locs ls hA hl hF kc ks kc' ks' hkc hks hc1 hs1 hsz Q kk
  obtain ⟨hx, hb, hml, hown, hnm, hts, hE, hlk, hrt, hfr, hlo⟩ := cx
  dsimp only at hf
  split at hf
  · rename_i x h9
    cases hf
    obtain rfl : kc' = kc := by omega
    obtain rfl : ks' = ks := by omega
    obtain ⟨k9, hk9⟩ := List.getElem?_of_mem (qm_ld_mem Γ lv i _ h9)
    exact lv_iinc hx hb hd hl hk9 (by rw [hv]) hn (by rw [← qm_k1_cv]; rfl) (fun ls9 hl9 => kk H locs ls9 hA hl9)
  · cases hf

theorem qm_s_iincw {y : MethodName} {cc : ByteArray} {nL : Nat} {ret : Option FieldType} {fr lo pc : Nat} {i : Nat} {n : Int} {d : Int32} (hd : decode cc pc = .ok (.iinc i n, 6)) (hv : Int32.ofInt n = d) (hn : i < nL) : qm_Snd y cc nL ret fr lo pc (qm_o_iinc i d (pc + 6)) := by
  intro f0 e0
  cases e0
  intro Γ X p l e R s m args below meth c cx lv st h pc' lv' st' h' hf H locs ls hA hl hF kc ks kc' ks' hkc hks hc1 hs1 hsz Q kk
  obtain ⟨hx, hb, hml, hown, hnm, hts, hE, hlk, hrt, hfr, hlo⟩ := cx
  dsimp only at hf
  split at hf
  · rename_i x h9
    cases hf
    obtain rfl : kc' = kc := by omega
    obtain rfl : ks' = ks := by omega
    obtain ⟨k9, hk9⟩ := List.getElem?_of_mem (qm_ld_mem Γ lv i _ h9)
    exact lv_iincW hx hb hd hl hk9 (by rw [hv]) hn (by rw [← qm_k1_cv]; rfl) (fun ls9 hl9 => kk H locs ls9 hA hl9)
  · cases hf

theorem qm_s_iadd {y : MethodName} {cc : ByteArray} {nL : Nat} {ret : Option FieldType} {fr lo pc : Nat} (hd : decode cc pc = .ok (.iadd, 1)) : qm_Snd y cc nL ret fr lo pc (qm_o_iadd (pc + 1)) := by
  intro f0 e0
  cases e0
  intro Γ X p l e R s m args below meth c cx lv st h pc' lv' st' h' hf H locs ls hA hl hF kc ks kc' ks' hkc hks hc1 hs1 hsz Q kk
  obtain ⟨hx, hb, hml, hown, hnm, hts, hE, hlk, hrt, hfr, hlo⟩ := cx
  dsimp only at hf
  split at hf
  · rename_i a b r
    cases hf
    obtain rfl : kc' = kc := by omega
    obtain rfl : ks' = ks := by omega
    exact lv_iadd hx hb hd (kk H locs ls hA hl)
  · cases hf

theorem qm_s_isub {y : MethodName} {cc : ByteArray} {nL : Nat} {ret : Option FieldType} {fr lo pc : Nat} (hd : decode cc pc = .ok (.isub, 1)) : qm_Snd y cc nL ret fr lo pc (qm_o_isub (pc + 1)) := by
  intro f0 e0
  cases e0
  intro Γ X p l e R s m args below meth c cx lv st h pc' lv' st' h' hf H locs ls hA hl hF kc ks kc' ks' hkc hks hc1 hs1 hsz Q kk
  obtain ⟨hx, hb, hml, hown, hnm, hts, hE, hlk, hrt, hfr, hlo⟩ := cx
  dsimp only at hf
  split at hf
  · rename_i a b r
    cases hf
    obtain rfl : kc' = kc := by omega
    obtain rfl : ks' = ks := by omega
    exact lv_isub hx hb hd (kk H locs ls hA hl)
  · cases hf

theorem qm_s_imul {y : MethodName} {cc : ByteArray} {nL : Nat} {ret : Option FieldType} {fr lo pc : Nat} (hd : decode cc pc = .ok (.imul, 1)) : qm_Snd y cc nL ret fr lo pc (qm_o_imul (pc + 1)) := by
  intro f0 e0
  cases e0
  intro Γ X p l e R s m args below meth c cx lv st h pc' lv' st' h' hf H locs ls hA hl hF kc ks kc' ks' hkc hks hc1 hs1 hsz Q kk
  obtain ⟨hx, hb, hml, hown, hnm, hts, hE, hlk, hrt, hfr, hlo⟩ := cx
  dsimp only at hf
  split at hf
  · rename_i a b r
    cases hf
    obtain rfl : kc' = kc := by omega
    obtain rfl : ks' = ks := by omega
    exact lv_imul hx hb hd (kk H locs ls hA hl)
  · cases hf

theorem qm_s_iand {y : MethodName} {cc : ByteArray} {nL : Nat} {ret : Option FieldType} {fr lo pc : Nat} (hd : decode cc pc = .ok (.iand, 1)) : qm_Snd y cc nL ret fr lo pc (qm_o_iand (pc + 1)) := by
  intro f0 e0
  cases e0
  intro Γ X p l e R s m args below meth c cx lv st h pc' lv' st' h' hf H locs ls hA hl hF kc ks kc' ks' hkc hks hc1 hs1 hsz Q kk
  obtain ⟨hx, hb, hml, hown, hnm, hts, hE, hlk, hrt, hfr, hlo⟩ := cx
  dsimp only at hf
  split at hf
  · rename_i a b r
    cases hf
    obtain rfl : kc' = kc := by omega
    obtain rfl : ks' = ks := by omega
    exact lv_iand hx hb hd (kk H locs ls hA hl)
  · cases hf

theorem qm_s_ior {y : MethodName} {cc : ByteArray} {nL : Nat} {ret : Option FieldType} {fr lo pc : Nat} (hd : decode cc pc = .ok (.ior, 1)) : qm_Snd y cc nL ret fr lo pc (qm_o_ior (pc + 1)) := by
  intro f0 e0
  cases e0
  intro Γ X p l e R s m args below meth c cx lv st h pc' lv' st' h' hf H locs ls hA hl hF kc ks kc' ks' hkc hks hc1 hs1 hsz Q kk
  obtain ⟨hx, hb, hml, hown, hnm, hts, hE, hlk, hrt, hfr, hlo⟩ := cx
  dsimp only at hf
  split at hf
  · rename_i a b r
    cases hf
    obtain rfl : kc' = kc := by omega
    obtain rfl : ks' = ks := by omega
    exact lv_ior hx hb hd (kk H locs ls hA hl)
  · cases hf

theorem qm_s_ixor {y : MethodName} {cc : ByteArray} {nL : Nat} {ret : Option FieldType} {fr lo pc : Nat} (hd : decode cc pc = .ok (.ixor, 1)) : qm_Snd y cc nL ret fr lo pc (qm_o_ixor (pc + 1)) := by
  intro f0 e0
  cases e0
  intro Γ X p l e R s m args below meth c cx lv st h pc' lv' st' h' hf H locs ls hA hl hF kc ks kc' ks' hkc hks hc1 hs1 hsz Q kk
  obtain ⟨hx, hb, hml, hown, hnm, hts, hE, hlk, hrt, hfr, hlo⟩ := cx
  dsimp only at hf
  split at hf
  · rename_i a b r
    cases hf
    obtain rfl : kc' = kc := by omega
    obtain rfl : ks' = ks := by omega
    exact lv_ixor hx hb hd (kk H locs ls hA hl)
  · cases hf

theorem qm_s_ishl {y : MethodName} {cc : ByteArray} {nL : Nat} {ret : Option FieldType} {fr lo pc : Nat} (hd : decode cc pc = .ok (.ishl, 1)) : qm_Snd y cc nL ret fr lo pc (qm_o_ishl (pc + 1)) := by
  intro f0 e0
  cases e0
  intro Γ X p l e R s m args below meth c cx lv st h pc' lv' st' h' hf H locs ls hA hl hF kc ks kc' ks' hkc hks hc1 hs1 hsz Q kk
  obtain ⟨hx, hb, hml, hown, hnm, hts, hE, hlk, hrt, hfr, hlo⟩ := cx
  dsimp only at hf
  split at hf
  · rename_i a b r
    cases hf
    obtain rfl : kc' = kc := by omega
    obtain rfl : ks' = ks := by omega
    exact lv_ishl hx hb hd (kk H locs ls hA hl)
  · cases hf

theorem qm_s_ishr {y : MethodName} {cc : ByteArray} {nL : Nat} {ret : Option FieldType} {fr lo pc : Nat} (hd : decode cc pc = .ok (.ishr, 1)) : qm_Snd y cc nL ret fr lo pc (qm_o_ishr (pc + 1)) := by
  intro f0 e0
  cases e0
  intro Γ X p l e R s m args below meth c cx lv st h pc' lv' st' h' hf H locs ls hA hl hF kc ks kc' ks' hkc hks hc1 hs1 hsz Q kk
  obtain ⟨hx, hb, hml, hown, hnm, hts, hE, hlk, hrt, hfr, hlo⟩ := cx
  dsimp only at hf
  split at hf
  · rename_i a b r
    cases hf
    obtain rfl : kc' = kc := by omega
    obtain rfl : ks' = ks := by omega
    exact lv_ishr hx hb hd (kk H locs ls hA hl)
  · cases hf

theorem qm_s_idiv {y : MethodName} {cc : ByteArray} {nL : Nat} {ret : Option FieldType} {fr lo pc : Nat} (hd : decode cc pc = .ok (.idiv, 1)) : qm_Snd y cc nL ret fr lo pc (qm_o_idiv (pc + 1)) := by
  intro f0 e0
  cases e0
  intro Γ X p l e R s m args below meth c cx lv st h pc' lv' st' h' hf H locs ls hA hl hF kc ks kc' ks' hkc hks hc1 hs1 hsz Q kk
  obtain ⟨hx, hb, hml, hown, hnm, hts, hE, hlk, hrt, hfr, hlo⟩ := cx
  dsimp only at hf
  split at hf
  · rename_i a b r
    split at hf
    · cases hf
    rename_i h9
    cases hf
    obtain rfl : kc' = kc := by omega
    obtain rfl : ks' = ks := by omega
    exact lv_idiv hx hb hd h9 (kk H locs ls hA hl)
  · cases hf

theorem qm_s_irem {y : MethodName} {cc : ByteArray} {nL : Nat} {ret : Option FieldType} {fr lo pc : Nat} (hd : decode cc pc = .ok (.irem, 1)) : qm_Snd y cc nL ret fr lo pc (qm_o_irem (pc + 1)) := by
  intro f0 e0
  cases e0
  intro Γ X p l e R s m args below meth c cx lv st h pc' lv' st' h' hf H locs ls hA hl hF kc ks kc' ks' hkc hks hc1 hs1 hsz Q kk
  obtain ⟨hx, hb, hml, hown, hnm, hts, hE, hlk, hrt, hfr, hlo⟩ := cx
  dsimp only at hf
  split at hf
  · rename_i a b r
    split at hf
    · cases hf
    rename_i h9
    cases hf
    obtain rfl : kc' = kc := by omega
    obtain rfl : ks' = ks := by omega
    exact lv_irem hx hb hd h9 (kk H locs ls hA hl)
  · cases hf

theorem qm_s_ineg {y : MethodName} {cc : ByteArray} {nL : Nat} {ret : Option FieldType} {fr lo pc : Nat} (hd : decode cc pc = .ok (.ineg, 1)) : qm_Snd y cc nL ret fr lo pc (qm_o_ineg (pc + 1)) := by
  intro f0 e0
  cases e0
  intro Γ X p l e R s m args below meth c cx lv st h pc' lv' st' h' hf H locs ls hA hl hF kc ks kc' ks' hkc hks hc1 hs1 hsz Q kk
  obtain ⟨hx, hb, hml, hown, hnm, hts, hE, hlk, hrt, hfr, hlo⟩ := cx
  dsimp only at hf
  split at hf
  · rename_i a r
    cases hf
    obtain rfl : kc' = kc := by omega
    obtain rfl : ks' = ks := by omega
    exact lv_ineg hx hb hd (kk H locs ls hA hl)
  · cases hf

theorem qm_s_ladd {y : MethodName} {cc : ByteArray} {nL : Nat} {ret : Option FieldType} {fr lo pc : Nat} (hd : decode cc pc = .ok (.ladd, 1)) : qm_Snd y cc nL ret fr lo pc (qm_o_ladd (pc + 1)) := by
  intro f0 e0
  cases e0
  intro Γ X p l e R s m args below meth c cx lv st h pc' lv' st' h' hf H locs ls hA hl hF kc ks kc' ks' hkc hks hc1 hs1 hsz Q kk
  obtain ⟨hx, hb, hml, hown, hnm, hts, hE, hlk, hrt, hfr, hlo⟩ := cx
  dsimp only at hf
  split at hf
  · rename_i a b r
    cases hf
    obtain rfl : kc' = kc := by omega
    obtain rfl : ks' = ks := by omega
    exact lv_ladd hx hb hd (kk H locs ls hA hl)
  · cases hf

theorem qm_s_lsub {y : MethodName} {cc : ByteArray} {nL : Nat} {ret : Option FieldType} {fr lo pc : Nat} (hd : decode cc pc = .ok (.lsub, 1)) : qm_Snd y cc nL ret fr lo pc (qm_o_lsub (pc + 1)) := by
  intro f0 e0
  cases e0
  intro Γ X p l e R s m args below meth c cx lv st h pc' lv' st' h' hf H locs ls hA hl hF kc ks kc' ks' hkc hks hc1 hs1 hsz Q kk
  obtain ⟨hx, hb, hml, hown, hnm, hts, hE, hlk, hrt, hfr, hlo⟩ := cx
  dsimp only at hf
  split at hf
  · rename_i a b r
    cases hf
    obtain rfl : kc' = kc := by omega
    obtain rfl : ks' = ks := by omega
    exact lv_lsub hx hb hd (kk H locs ls hA hl)
  · cases hf

theorem qm_s_lmul {y : MethodName} {cc : ByteArray} {nL : Nat} {ret : Option FieldType} {fr lo pc : Nat} (hd : decode cc pc = .ok (.lmul, 1)) : qm_Snd y cc nL ret fr lo pc (qm_o_lmul (pc + 1)) := by
  intro f0 e0
  cases e0
  intro Γ X p l e R s m args below meth c cx lv st h pc' lv' st' h' hf H locs ls hA hl hF kc ks kc' ks' hkc hks hc1 hs1 hsz Q kk
  obtain ⟨hx, hb, hml, hown, hnm, hts, hE, hlk, hrt, hfr, hlo⟩ := cx
  dsimp only at hf
  split at hf
  · rename_i a b r
    cases hf
    obtain rfl : kc' = kc := by omega
    obtain rfl : ks' = ks := by omega
    exact lv_lmul hx hb hd (kk H locs ls hA hl)
  · cases hf

theorem qm_s_land {y : MethodName} {cc : ByteArray} {nL : Nat} {ret : Option FieldType} {fr lo pc : Nat} (hd : decode cc pc = .ok (.land, 1)) : qm_Snd y cc nL ret fr lo pc (qm_o_land (pc + 1)) := by
  intro f0 e0
  cases e0
  intro Γ X p l e R s m args below meth c cx lv st h pc' lv' st' h' hf H locs ls hA hl hF kc ks kc' ks' hkc hks hc1 hs1 hsz Q kk
  obtain ⟨hx, hb, hml, hown, hnm, hts, hE, hlk, hrt, hfr, hlo⟩ := cx
  dsimp only at hf
  split at hf
  · rename_i a b r
    cases hf
    obtain rfl : kc' = kc := by omega
    obtain rfl : ks' = ks := by omega
    exact lv_land hx hb hd (kk H locs ls hA hl)
  · cases hf

theorem qm_s_lor {y : MethodName} {cc : ByteArray} {nL : Nat} {ret : Option FieldType} {fr lo pc : Nat} (hd : decode cc pc = .ok (.lor, 1)) : qm_Snd y cc nL ret fr lo pc (qm_o_lor (pc + 1)) := by
  intro f0 e0
  cases e0
  intro Γ X p l e R s m args below meth c cx lv st h pc' lv' st' h' hf H locs ls hA hl hF kc ks kc' ks' hkc hks hc1 hs1 hsz Q kk
  obtain ⟨hx, hb, hml, hown, hnm, hts, hE, hlk, hrt, hfr, hlo⟩ := cx
  dsimp only at hf
  split at hf
  · rename_i a b r
    cases hf
    obtain rfl : kc' = kc := by omega
    obtain rfl : ks' = ks := by omega
    exact lv_lor hx hb hd (kk H locs ls hA hl)
  · cases hf

theorem qm_s_lxor {y : MethodName} {cc : ByteArray} {nL : Nat} {ret : Option FieldType} {fr lo pc : Nat} (hd : decode cc pc = .ok (.lxor, 1)) : qm_Snd y cc nL ret fr lo pc (qm_o_lxor (pc + 1)) := by
  intro f0 e0
  cases e0
  intro Γ X p l e R s m args below meth c cx lv st h pc' lv' st' h' hf H locs ls hA hl hF kc ks kc' ks' hkc hks hc1 hs1 hsz Q kk
  obtain ⟨hx, hb, hml, hown, hnm, hts, hE, hlk, hrt, hfr, hlo⟩ := cx
  dsimp only at hf
  split at hf
  · rename_i a b r
    cases hf
    obtain rfl : kc' = kc := by omega
    obtain rfl : ks' = ks := by omega
    exact lv_lxor hx hb hd (kk H locs ls hA hl)
  · cases hf

theorem qm_s_ldiv {y : MethodName} {cc : ByteArray} {nL : Nat} {ret : Option FieldType} {fr lo pc : Nat} (hd : decode cc pc = .ok (.ldiv, 1)) : qm_Snd y cc nL ret fr lo pc (qm_o_ldiv (pc + 1)) := by
  intro f0 e0
  cases e0
  intro Γ X p l e R s m args below meth c cx lv st h pc' lv' st' h' hf H locs ls hA hl hF kc ks kc' ks' hkc hks hc1 hs1 hsz Q kk
  obtain ⟨hx, hb, hml, hown, hnm, hts, hE, hlk, hrt, hfr, hlo⟩ := cx
  dsimp only at hf
  split at hf
  · rename_i a b r
    split at hf
    · cases hf
    rename_i h9
    cases hf
    obtain rfl : kc' = kc := by omega
    obtain rfl : ks' = ks := by omega
    exact lv_ldiv hx hb hd h9 (kk H locs ls hA hl)
  · cases hf

theorem qm_s_lrem {y : MethodName} {cc : ByteArray} {nL : Nat} {ret : Option FieldType} {fr lo pc : Nat} (hd : decode cc pc = .ok (.lrem, 1)) : qm_Snd y cc nL ret fr lo pc (qm_o_lrem (pc + 1)) := by
  intro f0 e0
  cases e0
  intro Γ X p l e R s m args below meth c cx lv st h pc' lv' st' h' hf H locs ls hA hl hF kc ks kc' ks' hkc hks hc1 hs1 hsz Q kk
  obtain ⟨hx, hb, hml, hown, hnm, hts, hE, hlk, hrt, hfr, hlo⟩ := cx
  dsimp only at hf
  split at hf
  · rename_i a b r
    split at hf
    · cases hf
    rename_i h9
    cases hf
    obtain rfl : kc' = kc := by omega
    obtain rfl : ks' = ks := by omega
    exact lv_lrem hx hb hd h9 (kk H locs ls hA hl)
  · cases hf

theorem qm_s_lneg {y : MethodName} {cc : ByteArray} {nL : Nat} {ret : Option FieldType} {fr lo pc : Nat} (hd : decode cc pc = .ok (.lneg, 1)) : qm_Snd y cc nL ret fr lo pc (qm_o_lneg (pc + 1)) := by
  intro f0 e0
  cases e0
  intro Γ X p l e R s m args below meth c cx lv st h pc' lv' st' h' hf H locs ls hA hl hF kc ks kc' ks' hkc hks hc1 hs1 hsz Q kk
  obtain ⟨hx, hb, hml, hown, hnm, hts, hE, hlk, hrt, hfr, hlo⟩ := cx
  dsimp only at hf
  split at hf
  · rename_i a r
    cases hf
    obtain rfl : kc' = kc := by omega
    obtain rfl : ks' = ks := by omega
    exact lv_lneg hx hb hd (kk H locs ls hA hl)
  · cases hf

theorem qm_s_lshl {y : MethodName} {cc : ByteArray} {nL : Nat} {ret : Option FieldType} {fr lo pc : Nat} (hd : decode cc pc = .ok (.lshl, 1)) : qm_Snd y cc nL ret fr lo pc (qm_o_lshl (pc + 1)) := by
  intro f0 e0
  cases e0
  intro Γ X p l e R s m args below meth c cx lv st h pc' lv' st' h' hf H locs ls hA hl hF kc ks kc' ks' hkc hks hc1 hs1 hsz Q kk
  obtain ⟨hx, hb, hml, hown, hnm, hts, hE, hlk, hrt, hfr, hlo⟩ := cx
  dsimp only at hf
  split at hf
  · rename_i a b r
    cases hf
    obtain rfl : kc' = kc := by omega
    obtain rfl : ks' = ks := by omega
    exact lv_lshl hx hb hd rfl (kk H locs ls hA hl)
  · cases hf

theorem qm_s_lcmp {y : MethodName} {cc : ByteArray} {nL : Nat} {ret : Option FieldType} {fr lo pc : Nat} (hd : decode cc pc = .ok (.lcmp, 1)) : qm_Snd y cc nL ret fr lo pc (qm_o_lcmp (pc + 1)) := by
  intro f0 e0
  cases e0
  intro Γ X p l e R s m args below meth c cx lv st h pc' lv' st' h' hf H locs ls hA hl hF kc ks kc' ks' hkc hks hc1 hs1 hsz Q kk
  obtain ⟨hx, hb, hml, hown, hnm, hts, hE, hlk, hrt, hfr, hlo⟩ := cx
  dsimp only at hf
  split at hf
  · rename_i a b r
    cases hf
    obtain rfl : kc' = kc := by omega
    obtain rfl : ks' = ks := by omega
    exact W.lcmp hx hb hd (kk H locs ls hA hl)
  · cases hf

theorem qm_s_i2l {y : MethodName} {cc : ByteArray} {nL : Nat} {ret : Option FieldType} {fr lo pc : Nat} (hd : decode cc pc = .ok (.i2l, 1)) : qm_Snd y cc nL ret fr lo pc (qm_o_i2l (pc + 1)) := by
  intro f0 e0
  cases e0
  intro Γ X p l e R s m args below meth c cx lv st h pc' lv' st' h' hf H locs ls hA hl hF kc ks kc' ks' hkc hks hc1 hs1 hsz Q kk
  obtain ⟨hx, hb, hml, hown, hnm, hts, hE, hlk, hrt, hfr, hlo⟩ := cx
  dsimp only at hf
  split at hf
  · rename_i a r
    cases hf
    obtain rfl : kc' = kc := by omega
    obtain rfl : ks' = ks := by omega
    exact lv_i2l hx hb hd rfl (kk H locs ls hA hl)
  · cases hf

theorem qm_s_l2i {y : MethodName} {cc : ByteArray} {nL : Nat} {ret : Option FieldType} {fr lo pc : Nat} (hd : decode cc pc = .ok (.l2i, 1)) : qm_Snd y cc nL ret fr lo pc (qm_o_l2i (pc + 1)) := by
  intro f0 e0
  cases e0
  intro Γ X p l e R s m args below meth c cx lv st h pc' lv' st' h' hf H locs ls hA hl hF kc ks kc' ks' hkc hks hc1 hs1 hsz Q kk
  obtain ⟨hx, hb, hml, hown, hnm, hts, hE, hlk, hrt, hfr, hlo⟩ := cx
  dsimp only at hf
  split at hf
  · rename_i a r
    cases hf
    obtain rfl : kc' = kc := by omega
    obtain rfl : ks' = ks := by omega
    exact lv_l2i hx hb hd rfl (kk H locs ls hA hl)
  · cases hf

theorem qm_s_i2b {y : MethodName} {cc : ByteArray} {nL : Nat} {ret : Option FieldType} {fr lo pc : Nat} (hd : decode cc pc = .ok (.i2b, 1)) : qm_Snd y cc nL ret fr lo pc (qm_o_i2b (pc + 1)) := by
  intro f0 e0
  cases e0
  intro Γ X p l e R s m args below meth c cx lv st h pc' lv' st' h' hf H locs ls hA hl hF kc ks kc' ks' hkc hks hc1 hs1 hsz Q kk
  obtain ⟨hx, hb, hml, hown, hnm, hts, hE, hlk, hrt, hfr, hlo⟩ := cx
  dsimp only at hf
  split at hf
  · rename_i a r
    cases hf
    obtain rfl : kc' = kc := by omega
    obtain rfl : ks' = ks := by omega
    exact lv_i2b hx hb hd rfl (kk H locs ls hA hl)
  · cases hf

theorem qm_s_i2s {y : MethodName} {cc : ByteArray} {nL : Nat} {ret : Option FieldType} {fr lo pc : Nat} (hd : decode cc pc = .ok (.i2s, 1)) : qm_Snd y cc nL ret fr lo pc (qm_o_i2s (pc + 1)) := by
  intro f0 e0
  cases e0
  intro Γ X p l e R s m args below meth c cx lv st h pc' lv' st' h' hf H locs ls hA hl hF kc ks kc' ks' hkc hks hc1 hs1 hsz Q kk
  obtain ⟨hx, hb, hml, hown, hnm, hts, hE, hlk, hrt, hfr, hlo⟩ := cx
  dsimp only at hf
  split at hf
  · rename_i a r
    cases hf
    obtain rfl : kc' = kc := by omega
    obtain rfl : ks' = ks := by omega
    exact lv_i2s hx hb hd rfl (kk H locs ls hA hl)
  · cases hf

theorem qm_s_i2c {y : MethodName} {cc : ByteArray} {nL : Nat} {ret : Option FieldType} {fr lo pc : Nat} (hd : decode cc pc = .ok (.i2c, 1)) : qm_Snd y cc nL ret fr lo pc (qm_o_i2c (pc + 1)) := by
  intro f0 e0
  cases e0
  intro Γ X p l e R s m args below meth c cx lv st h pc' lv' st' h' hf H locs ls hA hl hF kc ks kc' ks' hkc hks hc1 hs1 hsz Q kk
  obtain ⟨hx, hb, hml, hown, hnm, hts, hE, hlk, hrt, hfr, hlo⟩ := cx
  dsimp only at hf
  split at hf
  · rename_i a r
    cases hf
    obtain rfl : kc' = kc := by omega
    obtain rfl : ks' = ks := by omega
    exact lv_i2c hx hb hd rfl (kk H locs ls hA hl)
  · cases hf

theorem qm_s_i2f {y : MethodName} {cc : ByteArray} {nL : Nat} {ret : Option FieldType} {fr lo pc : Nat} (hd : decode cc pc = .ok (.i2f, 1)) : qm_Snd y cc nL ret fr lo pc (qm_o_i2f (pc + 1)) := by
  intro f0 e0
  cases e0
  intro Γ X p l e R s m args below meth c cx lv st h pc' lv' st' h' hf H locs ls hA hl hF kc ks kc' ks' hkc hks hc1 hs1 hsz Q kk
  obtain ⟨hx, hb, hml, hown, hnm, hts, hE, hlk, hrt, hfr, hlo⟩ := cx
  dsimp only at hf
  split at hf
  · rename_i a r
    cases hf
    obtain rfl : kc' = kc := by omega
    obtain rfl : ks' = ks := by omega
    exact lv_i2f hx hb hd (kk H locs ls hA hl)
  · cases hf

theorem qm_s_i2d {y : MethodName} {cc : ByteArray} {nL : Nat} {ret : Option FieldType} {fr lo pc : Nat} (hd : decode cc pc = .ok (.i2d, 1)) : qm_Snd y cc nL ret fr lo pc (qm_o_i2d (pc + 1)) := by
  intro f0 e0
  cases e0
  intro Γ X p l e R s m args below meth c cx lv st h pc' lv' st' h' hf H locs ls hA hl hF kc ks kc' ks' hkc hks hc1 hs1 hsz Q kk
  obtain ⟨hx, hb, hml, hown, hnm, hts, hE, hlk, hrt, hfr, hlo⟩ := cx
  dsimp only at hf
  split at hf
  · rename_i a r
    cases hf
    obtain rfl : kc' = kc := by omega
    obtain rfl : ks' = ks := by omega
    exact lv_i2d hx hb hd (kk H locs ls hA hl)
  · cases hf

theorem qm_s_l2d {y : MethodName} {cc : ByteArray} {nL : Nat} {ret : Option FieldType} {fr lo pc : Nat} (hd : decode cc pc = .ok (.l2d, 1)) : qm_Snd y cc nL ret fr lo pc (qm_o_l2d (pc + 1)) := by
  intro f0 e0
  cases e0
  intro Γ X p l e R s m args below meth c cx lv st h pc' lv' st' h' hf H locs ls hA hl hF kc ks kc' ks' hkc hks hc1 hs1 hsz Q kk
  obtain ⟨hx, hb, hml, hown, hnm, hts, hE, hlk, hrt, hfr, hlo⟩ := cx
  dsimp only at hf
  split at hf
  · rename_i a r
    cases hf
    obtain rfl : kc' = kc := by omega
    obtain rfl : ks' = ks := by omega
    exact lv_l2d hx hb hd (kk H locs ls hA hl)
  · cases hf

theorem qm_s_f2i {y : MethodName} {cc : ByteArray} {nL : Nat} {ret : Option FieldType} {fr lo pc : Nat} (hd : decode cc pc = .ok (.f2i, 1)) : qm_Snd y cc nL ret fr lo pc (qm_o_f2i (pc + 1)) := by
  intro f0 e0
  cases e0
  intro Γ X p l e R s m args below meth c cx lv st h pc' lv' st' h' hf H locs ls hA hl hF kc ks kc' ks' hkc hks hc1 hs1 hsz Q kk
  obtain ⟨hx, hb, hml, hown, hnm, hts, hE, hlk, hrt, hfr, hlo⟩ := cx
  dsimp only at hf
  split at hf
  · rename_i a r
    cases hf
    obtain rfl : kc' = kc := by omega
    obtain rfl : ks' = ks := by omega
    exact lv_f2i hx hb hd (kk H locs ls hA hl)
  · cases hf

theorem qm_s_d2l {y : MethodName} {cc : ByteArray} {nL : Nat} {ret : Option FieldType} {fr lo pc : Nat} (hd : decode cc pc = .ok (.d2l, 1)) : qm_Snd y cc nL ret fr lo pc (qm_o_d2l (pc + 1)) := by
  intro f0 e0
  cases e0
  intro Γ X p l e R s m args below meth c cx lv st h pc' lv' st' h' hf H locs ls hA hl hF kc ks kc' ks' hkc hks hc1 hs1 hsz Q kk
  obtain ⟨hx, hb, hml, hown, hnm, hts, hE, hlk, hrt, hfr, hlo⟩ := cx
  dsimp only at hf
  split at hf
  · rename_i a r
    cases hf
    obtain rfl : kc' = kc := by omega
    obtain rfl : ks' = ks := by omega
    exact lv_d2l hx hb hd (kk H locs ls hA hl)
  · cases hf

theorem qm_s_f2d {y : MethodName} {cc : ByteArray} {nL : Nat} {ret : Option FieldType} {fr lo pc : Nat} (hd : decode cc pc = .ok (.f2d, 1)) : qm_Snd y cc nL ret fr lo pc (qm_o_f2d (pc + 1)) := by
  intro f0 e0
  cases e0
  intro Γ X p l e R s m args below meth c cx lv st h pc' lv' st' h' hf H locs ls hA hl hF kc ks kc' ks' hkc hks hc1 hs1 hsz Q kk
  obtain ⟨hx, hb, hml, hown, hnm, hts, hE, hlk, hrt, hfr, hlo⟩ := cx
  dsimp only at hf
  split at hf
  · rename_i a r
    split at hf
    · cases hf
    rename_i h9
    cases hf
    obtain rfl : kc' = kc := by omega
    obtain rfl : ks' = ks := by omega
    exact lv_f2d hx hb hd (Classical.not_not.mp h9) (kk H locs ls hA hl)
  · cases hf

theorem qm_s_fadd {y : MethodName} {cc : ByteArray} {nL : Nat} {ret : Option FieldType} {fr lo pc : Nat} (hd : decode cc pc = .ok (.fadd, 1)) : qm_Snd y cc nL ret fr lo pc (qm_o_fadd (pc + 1)) := by
  intro f0 e0
  cases e0
  intro Γ X p l e R s m args below meth c cx lv st h pc' lv' st' h' hf H locs ls hA hl hF kc ks kc' ks' hkc hks hc1 hs1 hsz Q kk
  obtain ⟨hx, hb, hml, hown, hnm, hts, hE, hlk, hrt, hfr, hlo⟩ := cx
  dsimp only at hf
  split at hf
  · rename_i a b r
    split at hf
    · cases hf
    rename_i h9
    cases hf
    obtain rfl : kc' = kc := by omega
    obtain rfl : ks' = ks := by omega
    exact lv_fadd hx hb hd (Classical.not_not.mp h9) (kk H locs ls hA hl)
  · cases hf

theorem qm_s_fsub {y : MethodName} {cc : ByteArray} {nL : Nat} {ret : Option FieldType} {fr lo pc : Nat} (hd : decode cc pc = .ok (.fsub, 1)) : qm_Snd y cc nL ret fr lo pc (qm_o_fsub (pc + 1)) := by
  intro f0 e0
  cases e0
  intro Γ X p l e R s m args below meth c cx lv st h pc' lv' st' h' hf H locs ls hA hl hF kc ks kc' ks' hkc hks hc1 hs1 hsz Q kk
  obtain ⟨hx, hb, hml, hown, hnm, hts, hE, hlk, hrt, hfr, hlo⟩ := cx
  dsimp only at hf
  split at hf
  · rename_i a b r
    split at hf
    · cases hf
    rename_i h9
    cases hf
    obtain rfl : kc' = kc := by omega
    obtain rfl : ks' = ks := by omega
    exact lv_fsub hx hb hd (Classical.not_not.mp h9) (kk H locs ls hA hl)
  · cases hf

theorem qm_s_fmul {y : MethodName} {cc : ByteArray} {nL : Nat} {ret : Option FieldType} {fr lo pc : Nat} (hd : decode cc pc = .ok (.fmul, 1)) : qm_Snd y cc nL ret fr lo pc (qm_o_fmul (pc + 1)) := by
  intro f0 e0
  cases e0
  intro Γ X p l e R s m args below meth c cx lv st h pc' lv' st' h' hf H locs ls hA hl hF kc ks kc' ks' hkc hks hc1 hs1 hsz Q kk
  obtain ⟨hx, hb, hml, hown, hnm, hts, hE, hlk, hrt, hfr, hlo⟩ := cx
  dsimp only at hf
  split at hf
  · rename_i a b r
    split at hf
    · cases hf
    rename_i h9
    cases hf
    obtain rfl : kc' = kc := by omega
    obtain rfl : ks' = ks := by omega
    exact lv_fmul hx hb hd (Classical.not_not.mp h9) (kk H locs ls hA hl)
  · cases hf

theorem qm_s_fdiv {y : MethodName} {cc : ByteArray} {nL : Nat} {ret : Option FieldType} {fr lo pc : Nat} (hd : decode cc pc = .ok (.fdiv, 1)) : qm_Snd y cc nL ret fr lo pc (qm_o_fdiv (pc + 1)) := by
  intro f0 e0
  cases e0
  intro Γ X p l e R s m args below meth c cx lv st h pc' lv' st' h' hf H locs ls hA hl hF kc ks kc' ks' hkc hks hc1 hs1 hsz Q kk
  obtain ⟨hx, hb, hml, hown, hnm, hts, hE, hlk, hrt, hfr, hlo⟩ := cx
  dsimp only at hf
  split at hf
  · rename_i a b r
    split at hf
    · cases hf
    rename_i h9
    cases hf
    obtain rfl : kc' = kc := by omega
    obtain rfl : ks' = ks := by omega
    exact lv_fdiv hx hb hd (Classical.not_not.mp h9) (kk H locs ls hA hl)
  · cases hf

theorem qm_s_dadd {y : MethodName} {cc : ByteArray} {nL : Nat} {ret : Option FieldType} {fr lo pc : Nat} (hd : decode cc pc = .ok (.dadd, 1)) : qm_Snd y cc nL ret fr lo pc (qm_o_dadd (pc + 1)) := by
  intro f0 e0
  cases e0
  intro Γ X p l e R s m args below meth c cx lv st h pc' lv' st' h' hf H locs ls hA hl hF kc ks kc' ks' hkc hks hc1 hs1 hsz Q kk
  obtain ⟨hx, hb, hml, hown, hnm, hts, hE, hlk, hrt, hfr, hlo⟩ := cx
  dsimp only at hf
  split at hf
  · rename_i a b r
    split at hf
    · cases hf
    rename_i h9
    cases hf
    obtain rfl : kc' = kc := by omega
    obtain rfl : ks' = ks := by omega
    exact lv_dadd hx hb hd (Classical.not_not.mp h9) (kk H locs ls hA hl)
  · cases hf

theorem qm_s_dsub {y : MethodName} {cc : ByteArray} {nL : Nat} {ret : Option FieldType} {fr lo pc : Nat} (hd : decode cc pc = .ok (.dsub, 1)) : qm_Snd y cc nL ret fr lo pc (qm_o_dsub (pc + 1)) := by
  intro f0 e0
  cases e0
  intro Γ X p l e R s m args below meth c cx lv st h pc' lv' st' h' hf H locs ls hA hl hF kc ks kc' ks' hkc hks hc1 hs1 hsz Q kk
  obtain ⟨hx, hb, hml, hown, hnm, hts, hE, hlk, hrt, hfr, hlo⟩ := cx
  dsimp only at hf
  split at hf
  · rename_i a b r
    split at hf
    · cases hf
    rename_i h9
    cases hf
    obtain rfl : kc' = kc := by omega
    obtain rfl : ks' = ks := by omega
    exact lv_dsub hx hb hd (Classical.not_not.mp h9) (kk H locs ls hA hl)
  · cases hf

theorem qm_s_dmul {y : MethodName} {cc : ByteArray} {nL : Nat} {ret : Option FieldType} {fr lo pc : Nat} (hd : decode cc pc = .ok (.dmul, 1)) : qm_Snd y cc nL ret fr lo pc (qm_o_dmul (pc + 1)) := by
  intro f0 e0
  cases e0
  intro Γ X p l e R s m args below meth c cx lv st h pc' lv' st' h' hf H locs ls hA hl hF kc ks kc' ks' hkc hks hc1 hs1 hsz Q kk
  obtain ⟨hx, hb, hml, hown, hnm, hts, hE, hlk, hrt, hfr, hlo⟩ := cx
  dsimp only at hf
  split at hf
  · rename_i a b r
    split at hf
    · cases hf
    rename_i h9
    cases hf
    obtain rfl : kc' = kc := by omega
    obtain rfl : ks' = ks := by omega
    exact lv_dmul hx hb hd (Classical.not_not.mp h9) (kk H locs ls hA hl)
  · cases hf

theorem qm_s_ddiv {y : MethodName} {cc : ByteArray} {nL : Nat} {ret : Option FieldType} {fr lo pc : Nat} (hd : decode cc pc = .ok (.ddiv, 1)) : qm_Snd y cc nL ret fr lo pc (qm_o_ddiv (pc + 1)) := by
  intro f0 e0
  cases e0
  intro Γ X p l e R s m args below meth c cx lv st h pc' lv' st' h' hf H locs ls hA hl hF kc ks kc' ks' hkc hks hc1 hs1 hsz Q kk
  obtain ⟨hx, hb, hml, hown, hnm, hts, hE, hlk, hrt, hfr, hlo⟩ := cx
  dsimp only at hf
  split at hf
  · rename_i a b r
    split at hf
    · cases hf
    rename_i h9
    cases hf
    obtain rfl : kc' = kc := by omega
    obtain rfl : ks' = ks := by omega
    exact lv_ddiv hx hb hd (Classical.not_not.mp h9) (kk H locs ls hA hl)
  · cases hf

theorem qm_s_fcmp {y : MethodName} {cc : ByteArray} {nL : Nat} {ret : Option FieldType} {fr lo pc : Nat} {o : CmpOp} (hd : decode cc pc = .ok (.fcmp o, 1)) : qm_Snd y cc nL ret fr lo pc (qm_o_fcmp o (pc + 1)) := by
  intro f0 e0
  cases e0
  intro Γ X p l e R s m args below meth c cx lv st h pc' lv' st' h' hf H locs ls hA hl hF kc ks kc' ks' hkc hks hc1 hs1 hsz Q kk
  obtain ⟨hx, hb, hml, hown, hnm, hts, hE, hlk, hrt, hfr, hlo⟩ := cx
  dsimp only at hf
  split at hf
  · rename_i a b r
    cases hf
    obtain rfl : kc' = kc := by omega
    obtain rfl : ks' = ks := by omega
    exact lv_fcmp hx hb hd (kk H locs ls hA hl)
  · cases hf

theorem qm_s_dcmp {y : MethodName} {cc : ByteArray} {nL : Nat} {ret : Option FieldType} {fr lo pc : Nat} {o : CmpOp} (hd : decode cc pc = .ok (.dcmp o, 1)) : qm_Snd y cc nL ret fr lo pc (qm_o_dcmp o (pc + 1)) := by
  intro f0 e0
  cases e0
  intro Γ X p l e R s m args below meth c cx lv st h pc' lv' st' h' hf H locs ls hA hl hF kc ks kc' ks' hkc hks hc1 hs1 hsz Q kk
  obtain ⟨hx, hb, hml, hown, hnm, hts, hE, hlk, hrt, hfr, hlo⟩ := cx
  dsimp only at hf
  split at hf
  · rename_i a b r
    cases hf
    obtain rfl : kc' = kc := by omega
    obtain rfl : ks' = ks := by omega
    exact lv_dcmp hx hb hd (kk H locs ls hA hl)
  · cases hf

theorem qm_s_icmp_eq {y : MethodName} {cc : ByteArray} {nL : Nat} {ret : Option FieldType} {fr lo pc : Nat} {off : Int} {t : Nat} (hd : decode cc pc = .ok (.if_icmp .eq off, 3)) (ht : (pc : Int) + off = (t : Int)) : qm_Snd y cc nL ret fr lo pc (qm_o_icmp_eq t (pc + 3)) := by
  intro f0 e0
  cases e0
  intro Γ X p l e R s m args below meth c cx lv st h pc' lv' st' h' hf H locs ls hA hl hF kc ks kc' ks' hkc hks hc1 hs1 hsz Q kk
  obtain ⟨hx, hb, hml, hown, hnm, hts, hE, hlk, hrt, hfr, hlo⟩ := cx
  dsimp only at hf
  split at hf
  · rename_i a b r
    refine lv_icmp_eq hx hb hd ht (fun z => ?_) (fun z => ?_)
    · rw [if_pos z] at hf
      cases hf
      obtain rfl : kc' = kc := by omega
      obtain rfl : ks' = ks := by omega
      exact kk H locs ls hA hl
    · rw [if_neg z] at hf
      cases hf
      obtain rfl : kc' = kc := by omega
      obtain rfl : ks' = ks := by omega
      exact kk H locs ls hA hl
  · cases hf

theorem qm_s_if_eq {y : MethodName} {cc : ByteArray} {nL : Nat} {ret : Option FieldType} {fr lo pc : Nat} {off : Int} {t : Nat} (hd : decode cc pc = .ok (.ifCond .eq off, 3)) (ht : (pc : Int) + off = (t : Int)) : qm_Snd y cc nL ret fr lo pc (qm_o_if_eq t (pc + 3)) := by
  intro f0 e0
  cases e0
  intro Γ X p l e R s m args below meth c cx lv st h pc' lv' st' h' hf H locs ls hA hl hF kc ks kc' ks' hkc hks hc1 hs1 hsz Q kk
  obtain ⟨hx, hb, hml, hown, hnm, hts, hE, hlk, hrt, hfr, hlo⟩ := cx
  dsimp only at hf
  split at hf
  · rename_i a r
    refine lv_if_eq hx hb hd ht (fun z => ?_) (fun z => ?_)
    · rw [if_pos z] at hf
      cases hf
      obtain rfl : kc' = kc := by omega
      obtain rfl : ks' = ks := by omega
      exact kk H locs ls hA hl
    · rw [if_neg z] at hf
      cases hf
      obtain rfl : kc' = kc := by omega
      obtain rfl : ks' = ks := by omega
      exact kk H locs ls hA hl
  · cases hf

theorem qm_s_icmp_ne {y : MethodName} {cc : ByteArray} {nL : Nat} {ret : Option FieldType} {fr lo pc : Nat} {off : Int} {t : Nat} (hd : decode cc pc = .ok (.if_icmp .ne off, 3)) (ht : (pc : Int) + off = (t : Int)) : qm_Snd y cc nL ret fr lo pc (qm_o_icmp_ne t (pc + 3)) := by
  intro f0 e0
  cases e0
  intro Γ X p l e R s m args below meth c cx lv st h pc' lv' st' h' hf H locs ls hA hl hF kc ks kc' ks' hkc hks hc1 hs1 hsz Q kk
  obtain ⟨hx, hb, hml, hown, hnm, hts, hE, hlk, hrt, hfr, hlo⟩ := cx
  dsimp only at hf
  split at hf
  · rename_i a b r
    refine lv_icmp_ne hx hb hd ht (fun z => ?_) (fun z => ?_)
    · rw [if_pos z] at hf
      cases hf
      obtain rfl : kc' = kc := by omega
      obtain rfl : ks' = ks := by omega
      exact kk H locs ls hA hl
    · rw [if_neg (fun q => q z)] at hf
      cases hf
      obtain rfl : kc' = kc := by omega
      obtain rfl : ks' = ks := by omega
      exact kk H locs ls hA hl
  · cases hf

theorem qm_s_if_ne {y : MethodName} {cc : ByteArray} {nL : Nat} {ret : Option FieldType} {fr lo pc : Nat} {off : Int} {t : Nat} (hd : decode cc pc = .ok (.ifCond .ne off, 3)) (ht : (pc : Int) + off = (t : Int)) : qm_Snd y cc nL ret fr lo pc (qm_o_if_ne t (pc + 3)) := by
  intro f0 e0
  cases e0
  intro Γ X p l e R s m args below meth c cx lv st h pc' lv' st' h' hf H locs ls hA hl hF kc ks kc' ks' hkc hks hc1 hs1 hsz Q kk
  obtain ⟨hx, hb, hml, hown, hnm, hts, hE, hlk, hrt, hfr, hlo⟩ := cx
  dsimp only at hf
  split at hf
  · rename_i a r
    refine lv_if_ne hx hb hd ht (fun z => ?_) (fun z => ?_)
    · rw [if_pos z] at hf
      cases hf
      obtain rfl : kc' = kc := by omega
      obtain rfl : ks' = ks := by omega
      exact kk H locs ls hA hl
    · rw [if_neg (fun q => q z)] at hf
      cases hf
      obtain rfl : kc' = kc := by omega
      obtain rfl : ks' = ks := by omega
      exact kk H locs ls hA hl
  · cases hf

theorem qm_s_icmp_lt {y : MethodName} {cc : ByteArray} {nL : Nat} {ret : Option FieldType} {fr lo pc : Nat} {off : Int} {t : Nat} (hd : decode cc pc = .ok (.if_icmp .lt off, 3)) (ht : (pc : Int) + off = (t : Int)) : qm_Snd y cc nL ret fr lo pc (qm_o_icmp_lt t (pc + 3)) := by
  intro f0 e0
  cases e0
  intro Γ X p l e R s m args below meth c cx lv st h pc' lv' st' h' hf H locs ls hA hl hF kc ks kc' ks' hkc hks hc1 hs1 hsz Q kk
  obtain ⟨hx, hb, hml, hown, hnm, hts, hE, hlk, hrt, hfr, hlo⟩ := cx
  dsimp only at hf
  split at hf
  · rename_i a b r
    refine lv_icmp_lt hx hb hd ht (fun z => ?_) (fun z => ?_)
    · rw [if_pos z] at hf
      cases hf
      obtain rfl : kc' = kc := by omega
      obtain rfl : ks' = ks := by omega
      exact kk H locs ls hA hl
    · rw [if_neg z] at hf
      cases hf
      obtain rfl : kc' = kc := by omega
      obtain rfl : ks' = ks := by omega
      exact kk H locs ls hA hl
  · cases hf

theorem qm_s_if_lt {y : MethodName} {cc : ByteArray} {nL : Nat} {ret : Option FieldType} {fr lo pc : Nat} {off : Int} {t : Nat} (hd : decode cc pc = .ok (.ifCond .lt off, 3)) (ht : (pc : Int) + off = (t : Int)) : qm_Snd y cc nL ret fr lo pc (qm_o_if_lt t (pc + 3)) := by
  intro f0 e0
  cases e0
  intro Γ X p l e R s m args below meth c cx lv st h pc' lv' st' h' hf H locs ls hA hl hF kc ks kc' ks' hkc hks hc1 hs1 hsz Q kk
  obtain ⟨hx, hb, hml, hown, hnm, hts, hE, hlk, hrt, hfr, hlo⟩ := cx
  dsimp only at hf
  split at hf
  · rename_i a r
    refine lv_if_lt hx hb hd ht (fun z => ?_) (fun z => ?_)
    · rw [if_pos z] at hf
      cases hf
      obtain rfl : kc' = kc := by omega
      obtain rfl : ks' = ks := by omega
      exact kk H locs ls hA hl
    · rw [if_neg z] at hf
      cases hf
      obtain rfl : kc' = kc := by omega
      obtain rfl : ks' = ks := by omega
      exact kk H locs ls hA hl
  · cases hf

theorem qm_s_icmp_ge {y : MethodName} {cc : ByteArray} {nL : Nat} {ret : Option FieldType} {fr lo pc : Nat} {off : Int} {t : Nat} (hd : decode cc pc = .ok (.if_icmp .ge off, 3)) (ht : (pc : Int) + off = (t : Int)) : qm_Snd y cc nL ret fr lo pc (qm_o_icmp_ge t (pc + 3)) := by
  intro f0 e0
  cases e0
  intro Γ X p l e R s m args below meth c cx lv st h pc' lv' st' h' hf H locs ls hA hl hF kc ks kc' ks' hkc hks hc1 hs1 hsz Q kk
  obtain ⟨hx, hb, hml, hown, hnm, hts, hE, hlk, hrt, hfr, hlo⟩ := cx
  dsimp only at hf
  split at hf
  · rename_i a b r
    refine lv_icmp_ge hx hb hd ht (fun z => ?_) (fun z => ?_)
    · rw [if_pos z] at hf
      cases hf
      obtain rfl : kc' = kc := by omega
      obtain rfl : ks' = ks := by omega
      exact kk H locs ls hA hl
    · rw [if_neg z] at hf
      cases hf
      obtain rfl : kc' = kc := by omega
      obtain rfl : ks' = ks := by omega
      exact kk H locs ls hA hl
  · cases hf

theorem qm_s_if_ge {y : MethodName} {cc : ByteArray} {nL : Nat} {ret : Option FieldType} {fr lo pc : Nat} {off : Int} {t : Nat} (hd : decode cc pc = .ok (.ifCond .ge off, 3)) (ht : (pc : Int) + off = (t : Int)) : qm_Snd y cc nL ret fr lo pc (qm_o_if_ge t (pc + 3)) := by
  intro f0 e0
  cases e0
  intro Γ X p l e R s m args below meth c cx lv st h pc' lv' st' h' hf H locs ls hA hl hF kc ks kc' ks' hkc hks hc1 hs1 hsz Q kk
  obtain ⟨hx, hb, hml, hown, hnm, hts, hE, hlk, hrt, hfr, hlo⟩ := cx
  dsimp only at hf
  split at hf
  · rename_i a r
    refine lv_if_ge hx hb hd ht (fun z => ?_) (fun z => ?_)
    · rw [if_pos z] at hf
      cases hf
      obtain rfl : kc' = kc := by omega
      obtain rfl : ks' = ks := by omega
      exact kk H locs ls hA hl
    · rw [if_neg z] at hf
      cases hf
      obtain rfl : kc' = kc := by omega
      obtain rfl : ks' = ks := by omega
      exact kk H locs ls hA hl
  · cases hf

theorem qm_s_icmp_gt {y : MethodName} {cc : ByteArray} {nL : Nat} {ret : Option FieldType} {fr lo pc : Nat} {off : Int} {t : Nat} (hd : decode cc pc = .ok (.if_icmp .gt off, 3)) (ht : (pc : Int) + off = (t : Int)) : qm_Snd y cc nL ret fr lo pc (qm_o_icmp_gt t (pc + 3)) := by
  intro f0 e0
  cases e0
  intro Γ X p l e R s m args below meth c cx lv st h pc' lv' st' h' hf H locs ls hA hl hF kc ks kc' ks' hkc hks hc1 hs1 hsz Q kk
  obtain ⟨hx, hb, hml, hown, hnm, hts, hE, hlk, hrt, hfr, hlo⟩ := cx
  dsimp only at hf
  split at hf
  · rename_i a b r
    refine lv_icmp_gt hx hb hd ht (fun z => ?_) (fun z => ?_)
    · rw [if_pos z] at hf
      cases hf
      obtain rfl : kc' = kc := by omega
      obtain rfl : ks' = ks := by omega
      exact kk H locs ls hA hl
    · rw [if_neg z] at hf
      cases hf
      obtain rfl : kc' = kc := by omega
      obtain rfl : ks' = ks := by omega
      exact kk H locs ls hA hl
  · cases hf

theorem qm_s_if_gt {y : MethodName} {cc : ByteArray} {nL : Nat} {ret : Option FieldType} {fr lo pc : Nat} {off : Int} {t : Nat} (hd : decode cc pc = .ok (.ifCond .gt off, 3)) (ht : (pc : Int) + off = (t : Int)) : qm_Snd y cc nL ret fr lo pc (qm_o_if_gt t (pc + 3)) := by
  intro f0 e0
  cases e0
  intro Γ X p l e R s m args below meth c cx lv st h pc' lv' st' h' hf H locs ls hA hl hF kc ks kc' ks' hkc hks hc1 hs1 hsz Q kk
  obtain ⟨hx, hb, hml, hown, hnm, hts, hE, hlk, hrt, hfr, hlo⟩ := cx
  dsimp only at hf
  split at hf
  · rename_i a r
    refine lv_if_gt hx hb hd ht (fun z => ?_) (fun z => ?_)
    · rw [if_pos z] at hf
      cases hf
      obtain rfl : kc' = kc := by omega
      obtain rfl : ks' = ks := by omega
      exact kk H locs ls hA hl
    · rw [if_neg z] at hf
      cases hf
      obtain rfl : kc' = kc := by omega
      obtain rfl : ks' = ks := by omega
      exact kk H locs ls hA hl
  · cases hf

theorem qm_s_icmp_le {y : MethodName} {cc : ByteArray} {nL : Nat} {ret : Option FieldType} {fr lo pc : Nat} {off : Int} {t : Nat} (hd : decode cc pc = .ok (.if_icmp .le off, 3)) (ht : (pc : Int) + off = (t : Int)) : qm_Snd y cc nL ret fr lo pc (qm_o_icmp_le t (pc + 3)) := by
  intro f0 e0
  cases e0
  intro Γ X p l e R s m args below meth c cx lv st h pc' lv' st' h' hf H locs ls hA hl hF kc ks kc' ks' hkc hks hc1 hs1 hsz Q kk
  obtain ⟨hx, hb, hml, hown, hnm, hts, hE, hlk, hrt, hfr, hlo⟩ := cx
  dsimp only at hf
  split at hf
  · rename_i a b r
    refine lv_icmp_le hx hb hd ht (fun z => ?_) (fun z => ?_)
    · rw [if_pos z] at hf
      cases hf
      obtain rfl : kc' = kc := by omega
      obtain rfl : ks' = ks := by omega
      exact kk H locs ls hA hl
    · rw [if_neg z] at hf
      cases hf
      obtain rfl : kc' = kc := by omega
      obtain rfl : ks' = ks := by omega
      exact kk H locs ls hA hl
  · cases hf

theorem qm_s_if_le {y : MethodName} {cc : ByteArray} {nL : Nat} {ret : Option FieldType} {fr lo pc : Nat} {off : Int} {t : Nat} (hd : decode cc pc = .ok (.ifCond .le off, 3)) (ht : (pc : Int) + off = (t : Int)) : qm_Snd y cc nL ret fr lo pc (qm_o_if_le t (pc + 3)) := by
  intro f0 e0
  cases e0
  intro Γ X p l e R s m args below meth c cx lv st h pc' lv' st' h' hf H locs ls hA hl hF kc ks kc' ks' hkc hks hc1 hs1 hsz Q kk
  obtain ⟨hx, hb, hml, hown, hnm, hts, hE, hlk, hrt, hfr, hlo⟩ := cx
  dsimp only at hf
  split at hf
  · rename_i a r
    refine lv_if_le hx hb hd ht (fun z => ?_) (fun z => ?_)
    · rw [if_pos z] at hf
      cases hf
      obtain rfl : kc' = kc := by omega
      obtain rfl : ks' = ks := by omega
      exact kk H locs ls hA hl
    · rw [if_neg z] at hf
      cases hf
      obtain rfl : kc' = kc := by omega
      obtain rfl : ks' = ks := by omega
      exact kk H locs ls hA hl
  · cases hf

theorem qm_s_goto {y : MethodName} {cc : ByteArray} {nL : Nat} {ret : Option FieldType} {fr lo pc : Nat} {off : Int} {t : Nat} (hd : decode cc pc = .ok (.goto off, 3)) (ht : (pc : Int) + off = (t : Int)) : qm_Snd y cc nL ret fr lo pc (qm_o_goto t) := by
  intro f0 e0
  cases e0
  intro Γ X p l e R s m args below meth c cx lv st h pc' lv' st' h' hf H locs ls hA hl hF kc ks kc' ks' hkc hks hc1 hs1 hsz Q kk
  obtain ⟨hx, hb, hml, hown, hnm, hts, hE, hlk, hrt, hfr, hlo⟩ := cx
  cases hf
  obtain rfl : kc' = kc := by omega
  obtain rfl : ks' = ks := by omega
  exact lv_goto hx hb hd ht (kk H locs ls hA hl)

theorem qm_s_ifnull {y : MethodName} {cc : ByteArray} {nL : Nat} {ret : Option FieldType} {fr lo pc : Nat} {off : Int} {t : Nat} (hd : decode cc pc = .ok (.ifnull off, 3)) (ht : (pc : Int) + off = (t : Int)) : qm_Snd y cc nL ret fr lo pc (qm_o_ifnull t (pc + 3)) := by
  intro f0 e0
  cases e0
  intro Γ X p l e R s m args below meth c cx lv st h pc' lv' st' h' hf H locs ls hA hl hF kc ks kc' ks' hkc hks hc1 hs1 hsz Q kk
  obtain ⟨hx, hb, hml, hown, hnm, hts, hE, hlk, hrt, hfr, hlo⟩ := cx
  dsimp only at hf
  split at hf
  · cases hf
    obtain rfl : kc' = kc := by omega
    obtain rfl : ks' = ks := by omega
    exact lv_ifnullN hx hb hd ht (kk H locs ls hA hl)
  · cases hf
    obtain rfl : kc' = kc := by omega
    obtain rfl : ks' = ks := by omega
    exact lv_ifnull hx hb hd  (kk H locs ls hA hl)
  · cases hf

theorem qm_s_ifnonnull {y : MethodName} {cc : ByteArray} {nL : Nat} {ret : Option FieldType} {fr lo pc : Nat} {off : Int} {t : Nat} (hd : decode cc pc = .ok (.ifnonnull off, 3)) (ht : (pc : Int) + off = (t : Int)) : qm_Snd y cc nL ret fr lo pc (qm_o_ifnonnull t (pc + 3)) := by
  intro f0 e0
  cases e0
  intro Γ X p l e R s m args below meth c cx lv st h pc' lv' st' h' hf H locs ls hA hl hF kc ks kc' ks' hkc hks hc1 hs1 hsz Q kk
  obtain ⟨hx, hb, hml, hown, hnm, hts, hE, hlk, hrt, hfr, hlo⟩ := cx
  dsimp only at hf
  split at hf
  · cases hf
    obtain rfl : kc' = kc := by omega
    obtain rfl : ks' = ks := by omega
    exact lv_ifnonnullN hx hb hd  (kk H locs ls hA hl)
  · cases hf
    obtain rfl : kc' = kc := by omega
    obtain rfl : ks' = ks := by omega
    exact lv_ifnonnull hx hb hd ht (kk H locs ls hA hl)
  · cases hf

theorem qm_sw_out : ∀ (ts : List Nat) (k : Int) (d : Nat) (x : Int32), -2147483648 ≤ k → k + ts.length ≤ 2147483648 → (x.toInt < k ∨ k + ts.length ≤ x.toInt) → qm_sw k ts d x = d
  | [], _, _, _, _, _, _ => rfl
  | t :: ts, k, d, x, h1, h2, h3 => by
    have h2 : k + ((ts.length + 1 : Nat) : Int) ≤ 2147483648 := h2
    have h3 : x.toInt < k ∨ k + ((ts.length + 1 : Nat) : Int) ≤ x.toInt := h3
    have e : (Int32.ofInt k).toInt = k := Int32.toInt_ofInt_of_le (by omega) (by omega)
    have hne : ¬ x = Int32.ofInt k := fun z => by rw [z, e] at h3; omega
    show (if x = Int32.ofInt k then t else qm_sw (k + 1) ts d x) = d
    rw [if_neg hne]
    exact qm_sw_out ts (k + 1) d x (by omega) (by omega) (by omega)
theorem qm_sw_in : ∀ (ts : List Nat) (k : Int) (d : Nat) (x : Int32) (t : Nat), -2147483648 ≤ k → k + ts.length ≤ 2147483648 → k ≤ x.toInt → ts[(x.toInt - k).toNat]? = some t → qm_sw k ts d x = t
  | [], _, _, _, _, _, _, _, h => by simp at h
  | t0 :: ts, k, d, x, t, h1, h2, h3, h4 => by
    have h2 : k + ((ts.length + 1 : Nat) : Int) ≤ 2147483648 := h2
    have e : (Int32.ofInt k).toInt = k := Int32.toInt_ofInt_of_le (by omega) (by omega)
    show (if x = Int32.ofInt k then t0 else qm_sw (k + 1) ts d x) = t
    by_cases hx : x = Int32.ofInt k
    · rw [if_pos hx]
      rw [hx, e, Int.sub_self] at h4
      exact Option.some.inj h4
    · rw [if_neg hx]
      have hne : x.toInt ≠ k := fun z => hx (Int32.toInt_inj.mp (by rw [e, z]))
      have e2 : (x.toInt - k).toNat = (x.toInt - (k + 1)).toNat + 1 := by omega
      rw [e2, List.getElem?_cons_succ] at h4
      exact qm_sw_in ts (k + 1) d x t (by omega) (by omega) (by omega) h4
theorem qm_s_tsw {y : MethodName} {cc : ByteArray} {nL : Nat} {ret : Option FieldType} {fr lo pc : Nat} {dflt lo0 hi0 : Int} {offs : Array Int} {len d : Nat} {ts : List Nat} (hd : decode cc pc = .ok (.tableswitch dflt lo0 hi0 offs, len)) (ht : (pc : Int) + dflt = (d : Int)) (hb0 : -2147483648 ≤ lo0) (hb1 : lo0 + ts.length ≤ 2147483648) (hh : hi0 + 1 = lo0 + ts.length) (hts0 : offs.toList.map (fun o => (pc : Int) + o) = ts.map (fun (t : Nat) => (t : Int))) : qm_Snd y cc nL ret fr lo pc (qm_o_tsw lo0 ts d) := by
  intro f0 e0
  cases e0
  intro Γ X p l e R s m args below meth c cx lv st h pc' lv' st' h' hf H locs ls hA hl hF kc ks kc' ks' hkc hks hc1 hs1 hsz Q kk
  obtain ⟨hx, hb, hml, hown, hnm, hts, hE, hlk, hrt, hfr, hlo⟩ := cx
  dsimp only at hf
  split at hf
  · rename_i x r
    cases hf
    obtain rfl : kc' = kc := by omega
    obtain rfl : ks' = ks := by omega
    by_cases h1 : x.toInt < lo0
    · refine lv_tableOut hx hb hd (Or.inl h1) (by rw [ht, qm_sw_out ts lo0 d x hb0 hb1 (Or.inl h1)]) (kk H locs ls hA hl)
    · by_cases h2 : hi0 < x.toInt
      · refine lv_tableOut hx hb hd (Or.inr h2) (by rw [ht, qm_sw_out ts lo0 d x hb0 hb1 (Or.inr (by omega))]) (kk H locs ls hA hl)
      · have hlen : (x.toInt - lo0).toNat < ts.length := by omega
        obtain ⟨t, htt⟩ : ∃ t, ts[(x.toInt - lo0).toNat]? = some t := ⟨_, List.getElem?_eq_getElem hlen⟩
        have h5 : (offs.toList.map (fun o => (pc : Int) + o))[(x.toInt - lo0).toNat]? = some (t : Int) := by rw [hts0, List.getElem?_map, htt]; rfl
        rw [List.getElem?_map, Array.getElem?_toList] at h5
        cases ho : offs[(x.toInt - lo0).toNat]? with
        | none => rw [ho] at h5; cases h5
        | some off =>
          rw [ho] at h5
          refine lv_tableIn hx hb hd h1 h2 ho (by rw [qm_sw_in ts lo0 d x t hb0 hb1 (by omega) htt]; exact Option.some.inj h5) (kk H locs ls hA hl)
  · cases hf

theorem qm_s_dup {y : MethodName} {cc : ByteArray} {nL : Nat} {ret : Option FieldType} {fr lo pc : Nat} (hd : decode cc pc = .ok (.dup, 1)) : qm_Snd y cc nL ret fr lo pc (qm_o_dup (pc + 1)) := by
  intro f0 e0
  cases e0
  intro Γ X p l e R s m args below meth c cx lv st h pc' lv' st' h' hf H locs ls hA hl hF kc ks kc' ks' hkc hks hc1 hs1 hsz Q kk
  obtain ⟨hx, hb, hml, hown, hnm, hts, hE, hlk, hrt, hfr, hlo⟩ := cx
  dsimp only at hf
  split at hf
  · rename_i v r
    cases h9 : Nat.beq (qm_cat v) 1 with
    | false => rw [h9] at hf; cases hf
    | true =>
    rw [h9] at hf
    cases hf
    obtain rfl : kc' = kc := by omega
    obtain rfl : ks' = ks := by omega
    exact lv_dup hx hb hd (by rw [qm_cv_cat]; exact Nat.eq_of_beq_eq_true h9) (kk H locs ls hA hl)
  · cases hf

theorem qm_s_pop {y : MethodName} {cc : ByteArray} {nL : Nat} {ret : Option FieldType} {fr lo pc : Nat} (hd : decode cc pc = .ok (.pop, 1)) : qm_Snd y cc nL ret fr lo pc (qm_o_pop (pc + 1)) := by
  intro f0 e0
  cases e0
  intro Γ X p l e R s m args below meth c cx lv st h pc' lv' st' h' hf H locs ls hA hl hF kc ks kc' ks' hkc hks hc1 hs1 hsz Q kk
  obtain ⟨hx, hb, hml, hown, hnm, hts, hE, hlk, hrt, hfr, hlo⟩ := cx
  dsimp only at hf
  split at hf
  · rename_i v r
    cases h9 : Nat.beq (qm_cat v) 1 with
    | false => rw [h9] at hf; cases hf
    | true =>
    rw [h9] at hf
    cases hf
    obtain rfl : kc' = kc := by omega
    obtain rfl : ks' = ks := by omega
    exact lv_pop hx hb hd (by rw [qm_cv_cat]; exact Nat.eq_of_beq_eq_true h9) (kk H locs ls hA hl)
  · cases hf

theorem qm_s_dup_x1 {y : MethodName} {cc : ByteArray} {nL : Nat} {ret : Option FieldType} {fr lo pc : Nat} (hd : decode cc pc = .ok (.dup_x1, 1)) : qm_Snd y cc nL ret fr lo pc (qm_o_dup_x1 (pc + 1)) := by
  intro f0 e0
  cases e0
  intro Γ X p l e R s m args below meth c cx lv st h pc' lv' st' h' hf H locs ls hA hl hF kc ks kc' ks' hkc hks hc1 hs1 hsz Q kk
  obtain ⟨hx, hb, hml, hown, hnm, hts, hE, hlk, hrt, hfr, hlo⟩ := cx
  dsimp only at hf
  split at hf
  · rename_i v w r
    cases h9 : (Nat.beq (qm_cat v) 1 && Nat.beq (qm_cat w) 1) with
    | false => rw [h9] at hf; cases hf
    | true =>
    rw [h9] at hf
    cases hf
    simp only [Bool.and_eq_true] at h9
    obtain rfl : kc' = kc := by omega
    obtain rfl : ks' = ks := by omega
    exact lv_dup_x1 hx hb hd (by rw [qm_cv_cat]; exact Nat.eq_of_beq_eq_true h9.1) (by rw [qm_cv_cat]; exact Nat.eq_of_beq_eq_true h9.2) (kk H locs ls hA hl)
  · cases hf

theorem qm_s_dup_x2 {y : MethodName} {cc : ByteArray} {nL : Nat} {ret : Option FieldType} {fr lo pc : Nat} (hd : decode cc pc = .ok (.dup_x2, 1)) : qm_Snd y cc nL ret fr lo pc (qm_o_dup_x2 (pc + 1)) := by
  intro f0 e0
  cases e0
  intro Γ X p l e R s m args below meth c cx lv st h pc' lv' st' h' hf H locs ls hA hl hF kc ks kc' ks' hkc hks hc1 hs1 hsz Q kk
  obtain ⟨hx, hb, hml, hown, hnm, hts, hE, hlk, hrt, hfr, hlo⟩ := cx
  dsimp only at hf
  split at hf
  · rename_i v w u r
    cases h9 : (Nat.beq (qm_cat v) 1 && (Nat.beq (qm_cat w) 1 && Nat.beq (qm_cat u) 1)) with
    | false => rw [h9] at hf; cases hf
    | true =>
    rw [h9] at hf
    cases hf
    simp only [Bool.and_eq_true] at h9
    obtain rfl : kc' = kc := by omega
    obtain rfl : ks' = ks := by omega
    exact lv_dup_x2 hx hb hd (by rw [qm_cv_cat]; exact Nat.eq_of_beq_eq_true h9.1) (by rw [qm_cv_cat]; exact Nat.eq_of_beq_eq_true h9.2.1) (by rw [qm_cv_cat]; exact Nat.eq_of_beq_eq_true h9.2.2) (kk H locs ls hA hl)
  · cases hf

theorem qm_s_dup2 {y : MethodName} {cc : ByteArray} {nL : Nat} {ret : Option FieldType} {fr lo pc : Nat} (hd : decode cc pc = .ok (.dup2, 1)) : qm_Snd y cc nL ret fr lo pc (qm_o_dup2 (pc + 1)) := by
  intro f0 e0
  cases e0
  intro Γ X p l e R s m args below meth c cx lv st h pc' lv' st' h' hf H locs ls hA hl hF kc ks kc' ks' hkc hks hc1 hs1 hsz Q kk
  obtain ⟨hx, hb, hml, hown, hnm, hts, hE, hlk, hrt, hfr, hlo⟩ := cx
  dsimp only at hf
  split at hf
  · rename_i v w r
    cases h9 : (Nat.beq (qm_cat v) 1 && Nat.beq (qm_cat w) 1) with
    | false => rw [h9] at hf; cases hf
    | true =>
    rw [h9] at hf
    cases hf
    simp only [Bool.and_eq_true] at h9
    obtain rfl : kc' = kc := by omega
    obtain rfl : ks' = ks := by omega
    exact lv_dup2_11 hx hb hd (by rw [qm_cv_cat]; exact Nat.eq_of_beq_eq_true h9.1) (by rw [qm_cv_cat]; exact Nat.eq_of_beq_eq_true h9.2) (kk H locs ls hA hl)
  · cases hf

