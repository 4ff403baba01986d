/-! A METHOD RUN BY THE SMALL MACHINE IS THE MACHINE'S -/
/-- a method: name, code, locals, type of its answer, frames and words below it -/
abbrev qm_Mt : Type := MethodName × ByteArray × Nat × Option FieldType × Nat × Nat
theorem qm_good {L : List Cond} (h : ∀ w ∈ L, w ∈ lw_all) : GoodIn lw_all L := fun w hw => ⟨h w hw, good_of_word (List.mem_filter.mp (h w hw)).2⟩
def qm_ws (M : qm_Mt) : List Cond := Cond.code M.1 M.2.1 M.2.2.1 M.2.2.2.1 :: lw_all
abbrev qm_rm (M : qm_Mt) (mc ms : Nat) : Room := { frames := M.2.2.2.2.1, cells := mc, slots := ms, locals := M.2.2.2.2.2 }
/-- a call's instruction does the call -/
def qm_SndC (W9 : Nat) (N M : qm_Mt) (pc na : Nat) (pc' : Nat) (ci : Option Nat) : Prop :=
  pc' = pc + 3 ∧ ∀ (Γ : qm_Cn) (X : Nat × (Nat → Int32)) (p : Program) (l : Launch) (e : Env) (R : Room) (s : State) (m : MethodId) (args : Array Value) (below : List Frame) (meth : Method) (c : Code),
  qm_Cx N.1 N.2.1 N.2.2.1 N.2.2.2.1 N.2.2.2.2.1 N.2.2.2.2.2 Γ X p R s m args meth c → ∀ (lv : qm_Lv) (h : qm_Hp) (as rest : List qm_V), as.length = na → qm_rcv h ci as = true → qm_sum rest ≤ W9 →
  ∀ (H : Heap) (locs : List Loc) (ls : Array Slot), qm_At Γ X h s H locs → lv_has ls N.2.2.1 (qm_cvl Γ lv) → ∀ (kc ks mc ms : Nat) (Pc : Array Value → State → Prop) (Qc : Array Value → State → Outcome → State → Prop) (free : Addr → Prop), Met l M.1 (qm_ws M) (qm_rm M mc ms) Pc Qc mc ms free → FrameBlind Pc →
  (∀ U : State, U.heap = H → s.WarmedH U.vm → Pc (qm_cvs Γ as).toArray U) → kc + mc ≤ R.cells → ks + ms ≤ R.slots →
  va_Run p l e R s m args below meth c H locs kc ks mc ms (F0 m pc ls ((qm_cvs Γ as).reverse ++ qm_cvs Γ rest)) (qm_cvs Γ rest) (Qc (qm_cvs Γ as).toArray) free
def qm_SndR (N : qm_Mt) (pc t : Nat) : Prop := match t with
  | 0 => decode N.2.1 pc = .ok (.return_, 1) ∧ N.2.2.2.1 = none
  | 1 => decode N.2.1 pc = .ok (.ireturn, 1) ∧ N.2.2.2.1 = some .int
  | 2 => decode N.2.1 pc = .ok (.lreturn, 1) ∧ N.2.2.2.1 = some .long
  | 3 => decode N.2.1 pc = .ok (.freturn, 1) ∧ N.2.2.2.1 = some .float
  | 4 => decode N.2.1 pc = .ok (.dreturn, 1) ∧ N.2.2.2.1 = some .double
  | 5 => decode N.2.1 pc = .ok (.areturn, 1) ∧ ∃ ft : FieldType, N.2.2.2.1 = some ft ∧ ((∃ n, ft = .object n) ∨ ∃ t, ft = .array t)
  | 6 => decode N.2.1 pc = .ok (.ireturn, 1) ∧ N.2.2.2.1 = some .boolean
  | 7 => decode N.2.1 pc = .ok (.ireturn, 1) ∧ N.2.2.2.1 = some .byte
  | 8 => decode N.2.1 pc = .ok (.ireturn, 1) ∧ N.2.2.2.1 = some .char
  | _ => False
def qm_Mono (op : qm_Op) : Prop := ∀ f, op = Sum.inl f → ∀ (lv : qm_Lv) (st : List qm_V) (h : qm_Hp) (q : Nat × qm_Lv × List qm_V × qm_Hp), f lv st h = some q → h.1 <+: q.2.2.2.1
/-- an entry of the method N's table is right -/
def qm_Ok (M : Nat → qm_Mt) (N : qm_Mt) (pc : Nat) (op : qm_Op) : Prop :=
  qm_Mono op ∧ qm_Snd N.1 N.2.1 N.2.2.1 N.2.2.2.1 N.2.2.2.2.1 N.2.2.2.2.2 pc op ∧
  (∀ y na hr pc' ci mL, op = Sum.inr (Sum.inl (y, na, hr, pc', ci, mL)) → qm_SndC (qm_wr y) N (M y) pc na pc' ci ∧ mL = (M y).2.2.1) ∧ (∀ t, op = Sum.inr (Sum.inr t) → qm_SndR N pc t)
theorem qm_ok_op {M : Nat → qm_Mt} {N : qm_Mt} {pc : Nat} {op : qm_Op} (hi : ∃ f, op = Sum.inl f) (hm : qm_Mono op) (hs : qm_Snd N.1 N.2.1 N.2.2.1 N.2.2.2.1 N.2.2.2.2.1 N.2.2.2.2.2 pc op) : qm_Ok M N pc op := by
  obtain ⟨f, rfl⟩ := hi
  exact ⟨hm, hs, (fun _ _ _ _ _ _ h => by cases h), (fun _ h => by cases h)⟩
theorem qm_ok_call {M : Nat → qm_Mt} {N : qm_Mt} {pc y na pc' : Nat} {hr : Bool} {ci : Option Nat} {mL : Nat} (hs : qm_SndC (qm_wr y) N (M y) pc na pc' ci) (hL : mL = (M y).2.2.1) : qm_Ok M N pc (Sum.inr (Sum.inl (y, na, hr, pc', ci, mL))) :=
  ⟨(fun _ h => by cases h), (fun _ h => by cases h), (fun _ _ _ _ _ _ h => by cases h; exact ⟨hs, hL⟩), (fun _ h => by cases h)⟩
theorem qm_ok_ret {M : Nat → qm_Mt} {N : qm_Mt} {pc t : Nat} (hs : qm_SndR N pc t) : qm_Ok M N pc (Sum.inr (Sum.inr t)) :=
  ⟨(fun _ h => by cases h), (fun _ h => by cases h), (fun _ _ _ _ _ _ h => by cases h), (fun _ h => by cases h; exact hs)⟩
/-! what was given stays -/
theorem qm_Env.go {Γ : qm_Cn} {X : Nat × (Nat → Int32)} {s U : State} {H : Heap} {locs : List Loc} (h : qm_Env Γ X s s.heap) (hW : s.WarmedH U.vm) (hU : U.heap = H) (hS : va_S (qm_A Γ) s.heap H locs) : qm_Env Γ X U U.heap := by
  have hvm := hW.alike
  have hk : ∀ a : Nat, a < s.heap.size → ¬ qm_A Γ a → H[a]? = s.heap[a]? := hS.2.1
  obtain ⟨h1, h2, h3, h4, h5, h6, h7, h8, h9, h10, h11, h12, h13⟩ := h
  rw [hU]
  refine ⟨h1.moved hvm, fun r ty n hr => ((h2 r ty n hr).moved hvm).kept hk, fun r ci hr => ((h3 r ci hr).moved hvm).kept hk, fun r ci k o n d t hr hg => ((h4 r ci k o n d t hr hg).moved hvm).kept hk, fun C n d v hz => ((h5 C n d v hz).moved hvm).kept hk, fun o k tx r hz => (h6 o k tx r hz).warm hW, ?_, h8, Nat.le_trans h9 hS.1, fun o k y host hz => (h10 o k y host hz).warmM hW, fun t ht => over_moved hvm (h11 t ht), fun C ht => (h12 C ht).moved hvm, (h13.moved hvm).kept hk⟩
  exact (h7.moved hvm).kept (hk _ (Nat.lt_of_lt_of_le h8 h9) (Nat.not_le.mpr h8))
theorem qm_Env.same {Γ : qm_Cn} {X : Nat × (Nat → Int32)} {s U : State} (h : qm_Env Γ X s s.heap) (hv : U.vm = s.vm) (hU : U.heap = s.heap) : qm_Env Γ X U U.heap := by
  have hvm : s.vm.Alike U.vm := by rw [hv]; exact Vm.Alike.refl _
  obtain ⟨h1, h2, h3, h4, h5, h6, h7, h8, h9, h10, h11, h12, h13⟩ := h
  rw [hU]
  exact ⟨h1.moved hvm, fun r ty n hr => (h2 r ty n hr).moved hvm, fun r ci hr => (h3 r ci hr).moved hvm, fun r ci k o n d t hr hg => (h4 r ci k o n d t hr hg).moved hvm, fun C n d v hz => (h5 C n d v hz).moved hvm, fun o k tx r hz => (h6 o k tx r hz).same hv, h7.moved hvm, h8, h9, fun o k y host hz => (h10 o k y host hz).same rfl hv.symm, fun t ht => over_moved hvm (h11 t ht), fun C ht => (h12 C ht).moved hvm, h13.moved hvm⟩
/-- a method's start and end -/
def qm_Pc (Γ : qm_Cn) (X : Nat × (Nat → Int32)) (as : List qm_V) (h : qm_Hp) : Array Value → State → Prop := fun v U => v = (qm_cvs Γ as).toArray ∧ qm_At Γ X h U U.heap [] ∧ qm_Env Γ X U U.heap
def qm_Qc (Γ : qm_Cn) (X : Nat × (Nat → Int32)) (v : Option qm_V) (h' : qm_Hp) : Array Value → State → Outcome → State → Prop := fun _ st o t => o = .returned (v.map (qm_cv Γ)) ∧ (h'.2.2.2.2.2.2 = X ∧ h'.1 <+: Γ.2.2.2.2.2 ∧ va_P Γ.1 qm_cl (qm_fl Γ h' 0 h'.1) t.heap ∧ t.heap.size = Γ.2.2.2.1 + qm_tot h'.1) ∧ va_F (qm_A Γ) st t
theorem qm_Pc_blind (Γ : qm_Cn) (X : Nat × (Nat → Int32)) (as : List qm_V) (h : qm_Hp) : FrameBlind (qm_Pc Γ X as h) := fun a U g mk q => by
  obtain ⟨q1, q2, q3⟩ := q
  exact ⟨q1, q2, q3.same (U := U.calling g mk a) rfl rfl⟩
theorem qm_runW {p : Program} {l : Launch} {e : Env} {R : Room} {s : State} {m : MethodId} {args : Array Value} {below : List Frame} {meth : Method} {c : Code} {H : Heap} {locs : List Loc} {kc ks mc ms pc : Nat} {ls : Array Slot} {st0 rest : List Value} {Qa : State → Outcome → State → Prop} {free : Addr → Prop} {Q : State → Prop} (hr : va_Run p l e R s m args below meth c H locs kc ks mc ms (F0 m pc ls st0) rest Qa free)
    (kk : ∀ (v : Option Value) (st₀ t : State) (H1 : Heap) (L : List Loc), st₀.heap = H → t.heap = H1 → (∀ q ∈ L, free q.base) → Qa st₀ (.returned v) t → W p l e R s m args below meth c H1 (locs ++ L) (kc + mc) (ks + ms) Q (F0 m (pc + 3) ls (v.toList ++ rest))) : W p l e R s m args below meth c H locs kc ks Q (F0 m pc ls st0) := by
  intro T hT X
  obtain ⟨v, st₀, t, T', L, h0, X', hL, e1, e2, hq, st⟩ := hr T hT X
  obtain ⟨t2, a1, b1⟩ := kk v st₀ t T'.heap L h0 e1.symm hL hq T' rfl X'
  exact ⟨t2, st t2 a1, b1⟩
theorem qm_run_pre {P : Nat → qm_Cd} {M : Nat → qm_Mt} (hOk : ∀ y pc op, P y pc = some op → qm_Ok M (M y) pc op) : ∀ (n y pc : Nat) (lv : qm_Lv) (st : List qm_V) (h : qm_Hp) (v : Option qm_V) (h' : qm_Hp), qm_run P n (P y) pc lv st h = some (v, h') → h.1 <+: h'.1 := by
  intro n
  induction n with
  | zero => intro y pc lv st h v h' e; cases e
  | succ n ih =>
    intro y pc lv st h v h' e
    rw [qm_run] at e
    cases hc : P y pc with
    | none => rw [hc] at e; cases e
    | some op =>
      rw [hc] at e
      have ho := hOk y pc op hc
      rcases op with f | ⟨y2, na, hr, pc', ci, mL⟩ | t
      · dsimp only at e
        cases hf : f lv st h with
        | none => rw [hf] at e; cases e
        | some q =>
          rw [hf] at e
          exact (ho.1 f rfl lv st h q hf).trans (ih y _ _ _ _ _ _ e)
      · dsimp only at e
        cases hp : qm_pop na [] st with
        | none => rw [hp] at e; cases e
        | some q =>
          rw [hp] at e
          obtain ⟨as, rest⟩ := q
          dsimp only at e
          cases hb : (qm_rcv h ci as && (Nat.ble (qm_sum rest) (qm_wr y2) && Nat.ble (qm_sum as) mL)) with
          | false => rw [hb] at e; cases e
          | true =>
            rw [hb] at e
            dsimp only [cond_true] at e
            cases hk : qm_run P n (P y2) 0 (qm_args 0 as) [] h with
            | none => rw [hk] at e; cases e
            | some q =>
              rw [hk] at e
              obtain ⟨w, h2⟩ := q
              have h3 := ih y2 _ _ _ _ _ _ hk
              cases w with
              | none =>
                cases hr with
                | false => exact h3.trans (ih y _ _ _ _ _ _ e)
                | true => cases e
              | some w =>
                cases hr with
                | false => cases e
                | true => exact h3.trans (ih y _ _ _ _ _ _ e)
      · dsimp only at e
        split at e
        · cases hb : Nat.beq t 0 with
          | false => rw [hb] at e; cases e
          | true => rw [hb] at e; cases e; exact List.prefix_rfl
        · rename_i w
          cases hb : qm_rok t w with
          | false => rw [hb] at e; cases e
          | true => rw [hb] at e; cases e; exact List.prefix_rfl
        · cases e
