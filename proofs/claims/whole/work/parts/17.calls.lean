/-! CALLS: each kind of call instruction, out of words of the tables -/
theorem qm_cl_cn : ∀ (ci : Nat) (q : vw_C), qm_cl[ci]? = some q → q.1 = qm_cn ci := by
  intro ci q h
  rcases ci with _ | _ | _ | _ | _ | _ | _ | _ | _ | _ | _ | ci
  all_goals first | (cases h; rfl) | (exfalso; have h9 := (List.getElem?_eq_some_iff.mp h).1; simp only [List.length_cons, List.length_nil] at h9; omega)
theorem qm_rcv_cell {Γ : qm_Cn} {X : Nat × (Nat → Int32)} {s : State} {H : Heap} {locs : List Loc} {h : qm_Hp} (hE : qm_Env Γ X s s.heap) (hA : qm_At Γ X h s H locs) {ci : Nat} {as : List qm_V} (hr : qm_rcv h (some ci) as = true) :
    ∃ (a : qm_Rf) (as' : List qm_V), as = qm_R (some a) :: as' ∧ ∃ cell : Cell, H[qm_ad Γ a]? = some cell ∧ cell.vm.isStatics = false ∧ s.vm.findClass (qm_cn ci) = some cell.cls := by
  unfold qm_rcv at hr
  split at hr
  · rename_i h0; cases h0
  · rename_i ci' a as' h0
    cases h0
    refine ⟨a, as', rfl, ?_⟩
    split at hr
    · rename_i c hs
      simp only [Bool.and_eq_true] at hr
      obtain ⟨h1, h2⟩ := hr
      obtain rfl := Nat.eq_of_beq_eq_true h1
      have h2 := Nat.eq_of_beq_eq_true h2
      obtain ⟨k, r, t⟩ := a
      dsimp only at h2
      subst h2
      rcases k with _ | _ | k
      · have hn : qm_nth h.1 r = some (Sum.inl c) := hs
        have he := qm_fl_get (Γ := Γ) (h := h) h.1 0 r (Sum.inl c) 0 hn Nat.one_pos
        rw [Nat.zero_add] at he
        have hP := hA.2.2.1
        have hP2 := hP _ _ he
        obtain ⟨q', g1, -⟩ := hP2
        have hv := va_recv hE.classes hP g1 he
        rw [qm_cl_cn c q' g1] at hv
        exact hv
      · have hn : qm_SS r = some (Sum.inl c) := hs
        obtain ⟨cell, g1, g2, g3, -⟩ := (hE.objects hn).kept (fun q r1 r2 => hA.frame.2.1 q r1 r2)
        exact ⟨cell, g1, g2, g3⟩
      · cases hs
    · cases hr
  · cases hr
theorem qm_rest8 (Γ : qm_Cn) {m : MethodId} {pc : Nat} {ls : Array Slot} {st : List Value} {rest : List qm_V} (h : qm_sum rest ≤ 8) : 2 * (F0 m pc ls st).monitorRoom + ((qm_cvs Γ rest).map fun v => v.category).sum ≤ 8 := by
  rw [qm_sum_cv]
  show 2 * 0 + _ ≤ 8
  omega
theorem qm_sp (Γ : qm_Cn) (a : qm_Rf) (as rest : List qm_V) : (qm_cvs Γ (qm_R (some a) :: as)).reverse ++ qm_cvs Γ rest = (qm_cvs Γ as).reverse ++ Value.ref (qm_ad Γ a) :: qm_cvs Γ rest := by
  show (Value.ref (qm_ad Γ a) :: qm_cvs Γ as).reverse ++ qm_cvs Γ rest = _
  rw [List.reverse_cons, List.append_assoc]
  rfl
theorem qm_cl_len (Γ : qm_Cn) (as : List qm_V) : (qm_cvs Γ as).length = as.length := List.length_map ..
theorem qm_ws_in {M : qm_Mt} (hc : Cond.code M.1 M.2.1 M.2.2.1 M.2.2.2.1 ∈ lw_all) : ∀ w ∈ qm_ws M, w ∈ lw_all := by
  intro w hw
  rcases List.mem_cons.mp hw with rfl | hw
  · exact hc
  · exact hw
theorem qm_c_V {N M : qm_Mt} {pc ix n ci : Nat} (hC : qm_cn ci = M.1.cls) (hdc : decode N.2.1 pc = .ok (.invokevirtual ix, 3)) (h1 : Cond.methodLink N.1.cls ix M.1 ∈ lw_all) (h2 : Cond.instanceMethod M.1 ∈ lw_all) (h3 : Cond.selects M.1.cls M.1 M.1 ∈ lw_all) (h4 : Cond.initialized M.1.cls ∈ lw_all) (h5 : Cond.code M.1 M.2.1 M.2.2.1 M.2.2.2.1 ∈ lw_all)
    (hd : M.1.cls ≠ "java/lang/invoke/MethodHandle" ∧ M.1.cls ≠ "java/lang/invoke/VarHandle" ∧ (parseMethodDescriptor M.1.desc).map (fun d => d.parameters.length) = some n) (hfr : M.2.2.2.2.1 + 1 ≤ N.2.2.2.2.1) (hlo : 8 + (M.2.2.1 + 11) + M.2.2.2.2.2 ≤ N.2.2.2.2.2) : qm_SndC 8 N M pc (n + 1) (pc + 3) (some ci) := by
  refine ⟨rfl, ?_⟩
  intro Γ X p l e R s m args below meth c cx lv h as rest hlen hrc hrest H locs ls hA hl kc ks mc ms Pc Qc free hM hB hPc hk1 hk2
  obtain ⟨hx, hb, hml, hown, -, hts, hE, -, -, hfr2, hlo2⟩ := cx
  obtain ⟨a, as', rfl, cell, g1, g2, g3⟩ := qm_rcv_cell hE hA hrc
  rw [qm_sp]
  refine va_runV (Ts := lw_all) ⟨hx, hb, hml, hown, hts⟩ hM (cwV (C := M.1.cls) n hts (qm_good (fun w hw => ?_)) (show qm_ws M = _ from rfl) rfl rfl ⟨rfl, hd⟩ ⟨by rw [hfr2]; exact hfr, by rw [hlo2]; exact hlo⟩) ⟨hB, ⟨cell, g1, g2, hC ▸ g3⟩, hPc⟩ rfl ?_ hl.1 rfl (qm_rest8 Γ hrest) hdc ⟨hk1, hk2⟩
  · unfold wsV at hw
    rcases List.mem_append.mp hw with hw | hw
    · simp only [List.mem_cons, List.not_mem_nil, or_false] at hw
      rcases hw with rfl | rfl | rfl | rfl <;> assumption
    · exact qm_ws_in h5 w hw
  · first | rw [qm_cl_len] | rw [List.length_map]
    simpa using hlen
theorem qm_rest9 (Γ : qm_Cn) {m : MethodId} {pc : Nat} {ls : Array Slot} {st : List Value} {rest : List qm_V} (h : qm_sum rest ≤ 9) : 2 * (F0 m pc ls st).monitorRoom + ((qm_cvs Γ rest).map fun v => v.category).sum ≤ 9 := by
  rw [qm_sum_cv]
  show 2 * 0 + _ ≤ 9
  omega
section C9
variable {p : Program} {l : Launch} {e : Env} {R : Room} {s : State} {m : MethodId} {args : Array Value} {below : List Frame} {meth : Method} {c : Code} {H : Heap} {locs : List Loc} {cells slots : Nat}
variable {y : MethodName} {bytes cc : ByteArray} {maxL nL mc ms n index : Nat} {ret : Option FieldType} {ws : List Cond} {rm : Room} {Pc : Array Value → State → Prop} {Qc : Array Value → State → Outcome → State → Prop} {free : Addr → Prop} {Ts : List Cond} {own C : String} {b : Addr} {As rest : List Value} {g : JFrame}
/-- a call that leaves up to nine words below it -/
theorem qm_runV9 (S : CallFix p m c cc nL s args Ts own) (hM : Met l y ws rm Pc Qc mc ms free) (cw : CallW R s args own C index y bytes maxL ret ws rm mc ms n) (h9 : 9 + (maxL + 11) + rm.locals ≤ R.locals) (hp : PreV s H C b Pc As)
    (hg : g.method = m) (hn : As.length = n) (hsize : g.locals.size = nL) (hstack : g.stack = As.reverse ++ .ref b :: rest) (hW : 2 * g.monitorRoom + (rest.map fun v => v.category).sum ≤ 9) (hdg : decode cc g.pc = .ok (.invokevirtual index, 3)) (hf : cells + mc ≤ R.cells ∧ slots + ms ≤ R.slots) :
    va_Run p l e R s m args below meth c H locs cells slots mc ms g rest (Qc (Value.ref b :: As).toArray) (free) := by
  have hK : Back l R p e below s args y 3 9 (PreOf R mc ms Pc) (PostOf Qc mc ms free) := by
    obtain ⟨q1, q2, q3, -, q5, q6, -, q8, -⟩ := cw.1
    exact back_of (bytes := bytes) (maxL := maxL) (ret := ret) hM hp.1 q1 q2 q3 h9 q5 q6 (fun a' U hU => word_at hU (Or.inl (by first | rfl | simp [Cond.onTables, Cond.keeps, Cond.steady])) q8)
  obtain ⟨⟨-, -, -, -, -, -, k7, -, k9, k10, k11⟩, k12, k13⟩ := cw
  obtain ⟨s1, s2, s3, s4, -⟩ := S
  obtain ⟨-, ⟨cellB, u1, u2, u3⟩, u4⟩ := hp
  intro T hT X
  obtain ⟨v, vm₁, ⟨U', l2, c2, s5⟩, hW₁, X', ⟨g', mk, t, L, e1, e2, hq, h1, hL, h2, h3⟩, st⟩ := callV X s1 (C := C) (bytes := bytes) (maxL := maxL) (ret := ret) s4 k11 k12 k13 k7 k9 hK (by rw [hT]; exact u1) u2 u3 hg (hsize.trans s3.symm) (argsL := As) (rest := rest) (fun sig h => hn.trans (k10 sig h)) hstack hW (by rw [s2]; exact hdg)
    (fun vm₁ hW₁ => ⟨hf.1, hf.2, u4 (T.setVm vm₁) hT hW₁⟩)
  dsimp only [Pt.U, Pt.locs, Pt.cells, Pt.slots] at X' e1 e2 h1 h2 h3 st
  subst h1 h2 h3
  exact ⟨v, (T.setVm vm₁).calling g' mk (Value.ref b :: As).toArray, t, U', L, hT, X', hL, e1, e2, hq, st⟩
end C9
theorem qm_c_V9 {N M : qm_Mt} {pc ix n ci : Nat} (hC : qm_cn ci = M.1.cls) (hdc : decode N.2.1 pc = .ok (.invokevirtual ix, 3)) (h1 : Cond.methodLink N.1.cls ix M.1 ∈ lw_all) (h2 : Cond.instanceMethod M.1 ∈ lw_all) (h3 : Cond.selects M.1.cls M.1 M.1 ∈ lw_all) (h4 : Cond.initialized M.1.cls ∈ lw_all) (h5 : Cond.code M.1 M.2.1 M.2.2.1 M.2.2.2.1 ∈ lw_all)
    (hd : M.1.cls ≠ "java/lang/invoke/MethodHandle" ∧ M.1.cls ≠ "java/lang/invoke/VarHandle" ∧ (parseMethodDescriptor M.1.desc).map (fun d => d.parameters.length) = some n) (hfr : M.2.2.2.2.1 + 1 ≤ N.2.2.2.2.1) (hlo : 9 + (M.2.2.1 + 11) + M.2.2.2.2.2 ≤ N.2.2.2.2.2) : qm_SndC 9 N M pc (n + 1) (pc + 3) (some ci) := by
  refine ⟨rfl, ?_⟩
  intro Γ X p l e R s m args below meth c cx lv h as rest hlen hrc hrest H locs ls hA hl kc ks mc ms Pc Qc free hM hB hPc hk1 hk2
  obtain ⟨hx, hb, hml, hown, -, hts, hE, -, -, hfr2, hlo2⟩ := cx
  obtain ⟨a, as', rfl, cell, g1, g2, g3⟩ := qm_rcv_cell hE hA hrc
  rw [qm_sp]
  refine qm_runV9 (Ts := lw_all) ⟨hx, hb, hml, hown, hts⟩ hM (cwV (C := M.1.cls) n hts (qm_good (fun w hw => ?_)) (show qm_ws M = _ from rfl) rfl rfl ⟨rfl, hd⟩ ⟨by rw [hfr2]; exact hfr, by rw [hlo2]; exact Nat.le_trans (show 8 + (M.2.2.1 + 11) + M.2.2.2.2.2 ≤ 9 + (M.2.2.1 + 11) + M.2.2.2.2.2 by omega) hlo⟩) (by rw [hlo2]; exact hlo) ⟨hB, ⟨cell, g1, g2, hC ▸ g3⟩, hPc⟩ rfl ?_ hl.1 rfl (qm_rest9 Γ hrest) hdc ⟨hk1, hk2⟩
  · unfold wsV at hw
    rcases List.mem_append.mp hw with hw | hw
    · simp only [List.mem_cons, List.not_mem_nil, or_false] at hw
      rcases hw with rfl | rfl | rfl | rfl <;> assumption
    · exact qm_ws_in h5 w hw
  · first | rw [qm_cl_len] | rw [List.length_map]
    simpa using hlen
theorem qm_c_S {N M : qm_Mt} {pc ix n : Nat} (hdc : decode N.2.1 pc = .ok (.invokestatic ix, 3)) (h1 : Cond.methodLink N.1.cls ix M.1 ∈ lw_all) (h2 : Cond.static M.1 ∈ lw_all) (h4 : Cond.initialized M.1.cls ∈ lw_all) (h5 : Cond.code M.1 M.2.1 M.2.2.1 M.2.2.2.1 ∈ lw_all)
    (hd : M.1.cls ≠ "java/lang/invoke/MethodHandle" ∧ M.1.cls ≠ "java/lang/invoke/VarHandle" ∧ (parseMethodDescriptor M.1.desc).map (fun d => d.parameters.length) = some n) (hfr : M.2.2.2.2.1 + 1 ≤ N.2.2.2.2.1) (hlo : 8 + (M.2.2.1 + 11) + M.2.2.2.2.2 ≤ N.2.2.2.2.2) : qm_SndC 8 N M pc n (pc + 3) none := by
  refine ⟨rfl, ?_⟩
  intro Γ X p l e R s m args below meth c cx lv h as rest hlen hrc hrest H locs ls hA hl kc ks mc ms Pc Qc free hM hB hPc hk1 hk2
  obtain ⟨hx, hb, hml, hown, -, hts, hE, -, -, hfr2, hlo2⟩ := cx
  refine va_runS (Ts := lw_all) ⟨hx, hb, hml, hown, hts⟩ hM (va_cwS n hts (qm_good (fun w hw => ?_)) (show qm_ws M = _ from rfl) rfl rfl hd ⟨by rw [hfr2]; exact hfr, by rw [hlo2]; exact hlo⟩) ⟨hB, hPc⟩ rfl ?_ hl.1 rfl (qm_rest8 Γ hrest) hdc ⟨hk1, hk2⟩
  · unfold va_wsS at hw
    rcases List.mem_append.mp hw with hw | hw
    · simp only [List.mem_cons, List.not_mem_nil, or_false] at hw
      rcases hw with rfl | rfl | rfl <;> assumption
    · exact qm_ws_in h5 w hw
  · first | rw [qm_cl_len] | rw [List.length_map]
    exact hlen
theorem qm_c_I {N M : qm_Mt} {pc ix n ci : Nat} (hret : M.2.2.2.1 = none) (hdc : decode N.2.1 pc = .ok (.invokespecial ix, 3)) (h1 : Cond.methodLink N.1.cls ix M.1 ∈ lw_all) (h2 : Cond.instanceMethod M.1 ∈ lw_all) (h4 : Cond.initialized M.1.cls ∈ lw_all) (h5 : Cond.code M.1 M.2.1 M.2.2.1 M.2.2.2.1 ∈ lw_all) (hy : M.1.name = "<init>")
    (hd : M.1.cls ≠ "java/lang/invoke/MethodHandle" ∧ M.1.cls ≠ "java/lang/invoke/VarHandle" ∧ (parseMethodDescriptor M.1.desc).map (fun d => d.parameters.length) = some n) (hfr : M.2.2.2.2.1 + 1 ≤ N.2.2.2.2.1) (hlo : 8 + (M.2.2.1 + 11) + M.2.2.2.2.2 ≤ N.2.2.2.2.2) : qm_SndC 8 N M pc (n + 1) (pc + 3) (some ci) := by
  refine ⟨rfl, ?_⟩
  intro Γ X p l e R s m args below meth c cx lv h as rest hlen hrc hrest H locs ls hA hl kc ks mc ms Pc Qc free hM hB hPc hk1 hk2
  obtain ⟨hx, hb, hml, hown, -, hts, hE, -, -, hfr2, hlo2⟩ := cx
  obtain ⟨a, as', rfl, -⟩ := qm_rcv_cell hE hA hrc
  rw [qm_sp]
  have hw1 : qm_ws M = Cond.code M.1 M.2.1 M.2.2.1 none :: lw_all := by rw [← hret]; rfl
  refine va_runI (Ts := lw_all) ⟨hx, hb, hml, hown, hts⟩ hM (cwI n hts (qm_good (qm_ws_in h5)) hw1 rfl rfl (hts _ h4) (hts _ h1) (hts _ h2) hy hd ⟨by rw [hfr2]; exact hfr, by rw [hlo2]; exact hlo⟩) ⟨hB, hPc⟩ rfl ?_ hl.1 rfl (qm_rest8 Γ hrest) hdc ⟨hk1, hk2⟩
  first | rw [qm_cl_len] | rw [List.length_map]
  simpa using hlen
theorem qm_c_SN {N M : qm_Mt} {pc ix n : Nat} {host : String} (hdc : decode N.2.1 pc = .ok (.invokestatic ix, 3)) (h1 : (N.1.cls, ix, M.1, host) ∈ qm_NL) (h2 : Cond.static M.1 ∈ lw_all) (h4 : Cond.initialized M.1.cls ∈ lw_all) (h5 : Cond.code M.1 M.2.1 M.2.2.1 M.2.2.2.1 ∈ lw_all)
    (hd : M.1.cls ≠ "java/lang/invoke/MethodHandle" ∧ M.1.cls ≠ "java/lang/invoke/VarHandle" ∧ (parseMethodDescriptor M.1.desc).map (fun d => d.parameters.length) = some n) (hfr : M.2.2.2.2.1 + 1 ≤ N.2.2.2.2.1) (hlo : 8 + (M.2.2.1 + 11) + M.2.2.2.2.2 ≤ N.2.2.2.2.2) : qm_SndC 8 N M pc n (pc + 3) none := by
  refine ⟨rfl, ?_⟩
  intro Γ X p l e R s m args below meth c cx lv h as rest hlen hrc hrest H locs ls hA hl kc ks mc ms Pc Qc free hM hB hPc hk1 hk2
  obtain ⟨hx, hb, hml, hown, -, hts, hE, -, -, hfr2, hlo2⟩ := cx
  refine va_runSN (Ts := lw_all) ⟨hx, hb, hml, hown, hts⟩ hM ⟨va_cnB n hts (qm_good (qm_ws_in h5)) (show qm_ws M = _ from rfl) rfl rfl (hE.nest h1) (hts _ h4) hd ⟨by rw [hfr2]; exact hfr, by rw [hlo2]; exact hlo⟩, hts _ h2, trivial⟩ ⟨hB, hPc⟩ rfl ?_ hl.1 rfl (qm_rest8 Γ hrest) hdc ⟨hk1, hk2⟩
  first | rw [qm_cl_len] | rw [List.length_map]
  exact hlen
theorem qm_c_IN {N M : qm_Mt} {pc ix n ci : Nat} {host : String} (hret : M.2.2.2.1 = none) (hdc : decode N.2.1 pc = .ok (.invokespecial ix, 3)) (h1 : (N.1.cls, ix, M.1, host) ∈ qm_NL) (h2 : Cond.instanceMethod M.1 ∈ lw_all) (h4 : Cond.initialized M.1.cls ∈ lw_all) (h5 : Cond.code M.1 M.2.1 M.2.2.1 M.2.2.2.1 ∈ lw_all) (hy : M.1.name = "<init>")
    (hd : M.1.cls ≠ "java/lang/invoke/MethodHandle" ∧ M.1.cls ≠ "java/lang/invoke/VarHandle" ∧ (parseMethodDescriptor M.1.desc).map (fun d => d.parameters.length) = some n) (hfr : M.2.2.2.2.1 + 1 ≤ N.2.2.2.2.1) (hlo : 8 + (M.2.2.1 + 11) + M.2.2.2.2.2 ≤ N.2.2.2.2.2) : qm_SndC 8 N M pc (n + 1) (pc + 3) (some ci) := by
  refine ⟨rfl, ?_⟩
  intro Γ X p l e R s m args below meth c cx lv h as rest hlen hrc hrest H locs ls hA hl kc ks mc ms Pc Qc free hM hB hPc hk1 hk2
  obtain ⟨hx, hb, hml, hown, -, hts, hE, -, -, hfr2, hlo2⟩ := cx
  obtain ⟨a, as', rfl, -⟩ := qm_rcv_cell hE hA hrc
  rw [qm_sp]
  have hw1 : qm_ws M = Cond.code M.1 M.2.1 M.2.2.1 none :: lw_all := by rw [← hret]; rfl
  refine va_runIN (Ts := lw_all) ⟨hx, hb, hml, hown, hts⟩ hM ⟨va_cnB n hts (qm_good (qm_ws_in h5)) hw1 rfl rfl (hE.nest h1) (hts _ h4) hd ⟨by rw [hfr2]; exact hfr, by rw [hlo2]; exact hlo⟩, hy, hts _ h2⟩ ⟨hB, hPc⟩ rfl ?_ hl.1 rfl (qm_rest8 Γ hrest) hdc ⟨hk1, hk2⟩
  first | rw [qm_cl_len] | rw [List.length_map]
  simpa using hlen
/-- a call by a name x whose method, for that receiver, is the M of another class above -/
theorem qm_c_U {N M : qm_Mt} {pc ix n ci : Nat} {x : MethodName} (hyx : M.1 = ⟨M.1.cls, x.name, x.desc⟩) (hdc : decode N.2.1 pc = .ok (.invokevirtual ix, 3)) (h1 : Cond.methodLink N.1.cls ix x ∈ lw_all) (h6 : Cond.sameMethod x.cls M.1.cls x.name x.desc ∈ lw_all) (h2 : Cond.instanceMethod M.1 ∈ lw_all) (h3 : Cond.selects (qm_cn ci) x M.1 ∈ lw_all) (h4 : Cond.initialized M.1.cls ∈ lw_all) (h5 : Cond.code M.1 M.2.1 M.2.2.1 M.2.2.2.1 ∈ lw_all)
    (hd : M.1.cls ≠ "java/lang/invoke/MethodHandle" ∧ M.1.cls ≠ "java/lang/invoke/VarHandle" ∧ (parseMethodDescriptor x.desc).map (fun d => d.parameters.length) = some n) (hfr : M.2.2.2.2.1 + 1 ≤ N.2.2.2.2.1) (hlo : 8 + (M.2.2.1 + 11) + M.2.2.2.2.2 ≤ N.2.2.2.2.2) : qm_SndC 8 N M pc (n + 1) (pc + 3) (some ci) := by
  refine ⟨rfl, ?_⟩
  intro Γ X p l e R s m args below meth c cx lv h as rest hlen hrc hrest H locs ls hA hl kc ks mc ms Pc Qc free hM hB hPc hk1 hk2
  obtain ⟨hx, hb, hml, hown, -, hts, hE, -, -, hfr2, hlo2⟩ := cx
  obtain ⟨a, as', rfl, cell, g1, g2, g3⟩ := qm_rcv_cell hE hA hrc
  rw [qm_sp]
  refine va_runU (Ts := lw_all) (owner := M.1.cls) (x := x) ⟨hx, hb, hml, hown, hts⟩ hM (va_cwU n hts (qm_good (fun w hw => ?_)) (show qm_ws M = _ from rfl) rfl rfl hyx hd ⟨by rw [hfr2]; exact hfr, by rw [hlo2]; exact hlo⟩) ⟨hB, ⟨cell, g1, g2, g3⟩, hPc⟩ rfl ?_ hl.1 rfl (qm_rest8 Γ hrest) hdc ⟨hk1, hk2⟩
  · unfold va_wsU at hw
    rcases List.mem_append.mp hw with hw | hw
    · simp only [List.mem_cons, List.not_mem_nil, or_false] at hw
      rcases hw with rfl | rfl | rfl | rfl | rfl <;> assumption
    · exact qm_ws_in h5 w hw
  · first | rw [qm_cl_len] | rw [List.length_map]
    simpa using hlen
/-- a call of the class above's method -/
theorem qm_c_SU {N M : qm_Mt} {pc ix n ci : Nat} {q : vw_C} (hq : qm_cl[ci]? = some q) (hdc : decode N.2.1 pc = .ok (.invokespecial ix, 3)) (h1 : Cond.methodLink N.1.cls ix M.1 ∈ lw_all) (h6 : Cond.sameMethod M.1.cls M.1.cls M.1.name M.1.desc ∈ lw_all) (h7 : Cond.superclass N.1.cls M.1.cls ∈ lw_all) (h2 : Cond.instanceMethod M.1 ∈ lw_all) (h4 : Cond.initialized M.1.cls ∈ lw_all) (h5 : Cond.code M.1 M.2.1 M.2.2.1 M.2.2.2.1 ∈ lw_all)
    (hd : M.1.name ≠ "<init>" ∧ (parseMethodDescriptor M.1.desc).map (fun d => d.parameters.length) = some n) (hfr : M.2.2.2.2.1 + 1 ≤ N.2.2.2.2.1) (hlo : 8 + (M.2.2.1 + 11) + M.2.2.2.2.2 ≤ N.2.2.2.2.2) : qm_SndC 8 N M pc (n + 1) (pc + 3) (some ci) := by
  refine ⟨rfl, ?_⟩
  intro Γ X p l e R s m args below meth c cx lv h as rest hlen hrc hrest H locs ls hA hl kc ks mc ms Pc Qc free hM hB hPc hk1 hk2
  obtain ⟨hx, hb, hml, hown, -, hts, hE, -, -, hfr2, hlo2⟩ := cx
  obtain ⟨a, as', rfl, cell, g1, g2, g3⟩ := qm_rcv_cell hE hA hrc
  rw [qm_sp]
  have hat := (hE.classes.1 ci q hq).2
  rw [qm_cl_cn ci q hq] at hat
  refine va_runSU (Ts := lw_all) hat ⟨hx, hb, hml, hown, hts⟩ hM (va_cwSU n hts (qm_good (fun w hw => ?_)) (show qm_ws M = _ from rfl) rfl rfl hd ⟨by rw [hfr2]; exact hfr, by rw [hlo2]; exact hlo⟩) ⟨hB, ⟨cell, g1, g2, g3⟩, hPc⟩ rfl ?_ hl.1 rfl (qm_rest8 Γ hrest) hdc ⟨hk1, hk2⟩
  · unfold va_wsSU at hw
    rcases List.mem_append.mp hw with hw | hw
    · simp only [List.mem_cons, List.not_mem_nil, or_false] at hw
      rcases hw with rfl | rfl | rfl | rfl | rfl <;> assumption
    · exact qm_ws_in h5 w hw
  · first | rw [qm_cl_len] | rw [List.length_map]
    simpa using hlen
