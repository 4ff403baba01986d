theorem qm_tot_pre : ∀ {a b : List qm_Sh}, a <+: b → qm_tot a ≤ qm_tot b ∧ qm_slt a ≤ qm_slt b := by
  intro a b h
  obtain ⟨t, rfl⟩ := h
  rw [qm_tot_app, qm_slt_app]
  omega
theorem qm_lg_len (Γ : qm_Cn) : ∀ as : List qm_V, (lg_sl (qm_cvs Γ as)).length = qm_sum as
  | [] => rfl
  | v :: l => by
    show ((if (qm_cv Γ v).category = 2 then [Slot.val (qm_cv Γ v), .second] else [Slot.val (qm_cv Γ v)]) ++ lg_sl (qm_cvs Γ l)).length = qm_cat v + qm_sum l
    rw [List.length_append, qm_lg_len Γ l, qm_cv_cat]
    congr 1
    rcases v with x | x | x | x | o <;> rfl
/-- a frame of the method y, at fuel n -/
def qm_SW (P : Nat → qm_Cd) (M : Nat → qm_Mt) (Γ : qm_Cn) (X : Nat × (Nat → Int32)) (l : Launch) (n : Nat) : Prop :=
  ∀ (y pc : Nat) (lv : qm_Lv) (st : List qm_V) (h : qm_Hp) (v : Option qm_V) (h' : qm_Hp), qm_run P n (P y) pc lv st h = some (v, h') → h'.1 <+: Γ.2.2.2.2.2 →
  ∀ (p : Program) (e : Env) (R : Room) (s : State) (m : MethodId) (args : Array Value) (below : List Frame) (meth : Method) (c : Code), qm_Cx (M y).1 (M y).2.1 (M y).2.2.1 (M y).2.2.2.1 (M y).2.2.2.2.1 (M y).2.2.2.2.2 Γ X p R s m args meth c →
  ∀ (H : Heap) (locs : List Loc) (ls : Array Slot) (kc ks mc ms : Nat), qm_At Γ X h s H locs → lv_has ls (M y).2.2.1 (qm_cvl Γ lv) → s.heap.size + kc = Γ.2.2.2.1 + qm_tot h.1 → mc + qm_tot h.1 = kc + qm_tot h'.1 → ms + qm_slt h.1 = ks + qm_slt h'.1 → mc ≤ R.cells → ms ≤ R.slots →
  W p l e R s m args below meth c H locs kc ks (MQ below (qm_Qc Γ X v h') args s mc ms (qm_A Γ)) (F0 m pc ls (qm_cvs Γ st))
theorem qm_met {P : Nat → qm_Cd} {M : Nat → qm_Mt} {Γ : qm_Cn} {X : Nat × (Nat → Int32)} {l : Launch} {n : Nat} (hS : qm_SW P M Γ X l n) {y : Nat} (hpl : plainFor (M y).1 = true) {as : List qm_V} {h h' : qm_Hp} {v : Option qm_V} (hr : qm_run P n (P y) 0 (qm_args 0 as) [] h = some (v, h')) (hF : h'.1 <+: Γ.2.2.2.2.2) (hle : h.1 <+: h'.1) (hsum : qm_sum as ≤ (M y).2.2.1) :
    Met l (M y).1 (qm_ws (M y)) (qm_rm (M y) (qm_tot h'.1 - qm_tot h.1) (qm_slt h'.1 - qm_slt h.1)) (qm_Pc Γ X as h) (qm_Qc Γ X v h') (qm_tot h'.1 - qm_tot h.1) (qm_slt h'.1 - qm_slt h.1) (qm_A Γ) := by
  refine va_MetF (cc := (M y).2.1) (maxL := (M y).2.2.1) (ret := (M y).2.2.2.1) hpl rfl ?_
  intro p e s m args below meth c s₁ B hml hv
  obtain ⟨rfl, hAt, hEnv⟩ := hv
  have hts := atoms_spec (ws := qm_ws (M y)) B.pre
  have hcx : qm_Cx (M y).1 (M y).2.1 (M y).2.2.1 (M y).2.2.2.1 (M y).2.2.2.2.1 (M y).2.2.2.2.2 Γ X p (headSpec (qm_ws (M y)) (qm_rm (M y) (qm_tot h'.1 - qm_tot h.1) (qm_slt h'.1 - qm_slt h.1))).room s m (qm_cvs Γ as).toArray meth c :=
    ⟨B.exec, B.bytes, hml, findClass_of_methodNamed B.named, fun _ => (name_of_methodNamed B.named B.method).1, fun w hw => hts w (List.mem_cons_of_mem _ hw), hEnv, B.notSynchronized, B.returns, rfl, rfl⟩
  obtain ⟨h1, h2⟩ := qm_tot_pre hle
  rw [lg_entry_eq]
  have hl := lv_entry (qm_cvs Γ as) (n := (M y).2.2.1) (by rw [qm_lg_len]; exact hsum)
  rw [← qm_args_cv] at hl
  have hsz : s.heap.size = Γ.2.2.2.1 + qm_tot h.1 := hAt.2.2.2.1
  exact hS y 0 (qm_args 0 as) [] h v h' hr hF p e _ s m _ below meth c hcx s.heap [] _ 0 0 _ _ hAt hl (by omega) (by omega) (by omega) (Nat.le_refl _) (Nat.le_refl _)
set_option maxHeartbeats 4000000 in
theorem qm_sound {P : Nat → qm_Cd} {M : Nat → qm_Mt} (hOk : ∀ y pc op, P y pc = some op → qm_Ok M (M y) pc op) (hPl : ∀ y pc op, P y pc = some op → plainFor (M y).1 = true) (Γ : qm_Cn) (X : Nat × (Nat → Int32)) (l : Launch) : ∀ n, qm_SW P M Γ X l n := by
  intro n
  induction n with
  | zero => intro y pc lv st h v h' e; cases e
  | succ n ih =>
    intro y pc lv st h v h' e hF p e9 R s m args below meth c cx H locs ls kc ks mc ms hA hl hsz hmc hms hRc hRs
    rw [qm_run] at e
    cases hc : P y pc with
    | none => rw [hc] at e; cases e
    | some op =>
      rw [hc] at e
      have ho := hOk y pc op hc
      rcases op with f | ⟨y2, na, hr, pc', ci, mL⟩ | t
      · dsimp only at e
        cases hf : f lv st h with
        | none => rw [hf] at e; cases e
        | some q =>
          rw [hf] at e
          obtain ⟨pc2, lv2, st2, h2⟩ := q
          have hp1 : h.1 <+: h2.1 := ho.1 f rfl lv st h _ hf
          have hp2 : h2.1 <+: h'.1 := qm_run_pre hOk n y _ _ _ _ _ _ e
          obtain ⟨t1, t2⟩ := qm_tot_pre hp1
          obtain ⟨t3, t4⟩ := qm_tot_pre hp2
          refine ho.2.1 f rfl Γ X p l e9 R s m args below meth c cx lv st h pc2 lv2 st2 h2 hf H locs ls hA hl (hp2.trans hF) kc ks (kc + (qm_tot h2.1 - qm_tot h.1)) (ks + (qm_slt h2.1 - qm_slt h.1)) (by omega) (by omega) (by omega) (by omega) hsz _ (fun H' locs' ls' hA' hl' => ?_)
          exact ih y pc2 lv2 st2 h2 v h' e hF p e9 R s m args below meth c cx H' locs' ls' _ _ mc ms hA' hl' (by omega) (by omega) (by omega) hRc hRs
      · dsimp only at e
        cases hp : qm_pop na [] st with
        | none => rw [hp] at e; cases e
        | some q =>
          rw [hp] at e
          obtain ⟨as, rest⟩ := q
          dsimp only at e
          cases hb : (qm_rcv h ci as && (Nat.ble (qm_sum rest) (qm_wr y2) && Nat.ble (qm_sum as) mL)) with
          | false => rw [hb] at e; cases e
          | true =>
            rw [hb] at e
            dsimp only [cond_true] at e
            simp only [Bool.and_eq_true] at hb
            obtain ⟨hb1, hb2, hb3⟩ := hb
            have hb2 := Nat.le_of_ble_eq_true hb2
            have hb3 := Nat.le_of_ble_eq_true hb3
            cases hk : qm_run P n (P y2) 0 (qm_args 0 as) [] h with
            | none => rw [hk] at e; cases e
            | some q =>
              rw [hk] at e
              obtain ⟨w, h2⟩ := q
              have hp1 : h.1 <+: h2.1 := qm_run_pre hOk n y2 _ _ _ _ _ _ hk
              obtain ⟨⟨hpc, hcall⟩, hmL⟩ := ho.2.2.1 y2 na hr pc' ci mL rfl
              obtain ⟨bs, hb4, hb5, hb6⟩ := qm_pop_cv Γ na [] st as rest hp
              rw [List.append_nil] at hb5
              subst hb5
              have hst : qm_cvs Γ st = (qm_cvs Γ as).reverse ++ qm_cvs Γ rest := by
                rw [hb6]
                unfold qm_cvs
                rw [List.map_append, List.map_reverse]
              -- what follows the call
              have after : ∀ (st3 : List qm_V), qm_run P n (P y) pc' lv st3 h2 = some (v, h') → w.toList ++ rest = st3 → W p l e9 R s m args below meth c H locs kc ks (MQ below (qm_Qc Γ X v h') args s mc ms (qm_A Γ)) (F0 m pc ls (qm_cvs Γ st)) := by
                intro st3 e3 hst3
                have hp2 : h2.1 <+: h'.1 := qm_run_pre hOk n y _ _ _ _ _ _ e3
                obtain ⟨t1, t2⟩ := qm_tot_pre hp1
                obtain ⟨t3, t4⟩ := qm_tot_pre hp2
                have hpl : plainFor (M y2).1 = true := by
                  cases n with
                  | zero => cases hk
                  | succ n =>
                    rw [qm_run] at hk
                    cases hc2 : P y2 0 with
                    | none => rw [hc2] at hk; cases hk
                    | some op2 => exact hPl y2 0 op2 hc2
                have hM := qm_met ih hpl hk (hp2.trans hF) hp1 (by rw [← hmL]; exact hb3)
                rw [hst]
                refine qm_runW (hcall Γ X p l e9 R s m args below meth c cx lv h as rest hb4 hb1 hb2 H locs ls hA hl kc ks _ _ (qm_Pc Γ X as h) (qm_Qc Γ X w h2) (qm_A Γ) hM (qm_Pc_blind Γ X as h) (fun U hU hW => ⟨rfl, ?_, cx.2.2.2.2.2.2.1.go hW hU hA.frame⟩) (by omega) (by omega)) (fun v9 st₀ t H1 L g1 g2 g3 g4 => ?_)
                · obtain ⟨a1, a2, a3, a4, a5⟩ := hA
                  exact ⟨a1, a2, by rw [hU]; exact a3, by rw [hU]; exact a4, va_S.rf⟩
                · obtain ⟨q1, ⟨q2, q3, q4, q5⟩, q6, q7⟩ := g4
                  have q1 : v9 = w.map (qm_cv Γ) := by cases q1; rfl
                  rw [g2] at q4 q5 q6 q7
                  rw [g1] at q6 q7
                  have hA2 : qm_At Γ X h2 s H1 (locs ++ L) := by
                    obtain ⟨a1, a2, a3, a4, a5⟩ := hA
                    refine ⟨q2, q3, q4, q5, Nat.le_trans a5.1 q6, fun q r1 r2 => (q7 q (Nat.lt_of_lt_of_le r1 a5.1) r2).trans (a5.2.1 q r1 r2), fun q hq => ?_⟩
                    rcases List.mem_append.mp hq with hq | hq
                    · exact a5.2.2 q hq
                    · exact g3 q hq
                  have k9 := ih y pc' lv st3 h2 v h' e3 hF p e9 R s m args below meth c cx H1 (locs ++ L) ls (kc + (qm_tot h2.1 - qm_tot h.1)) (ks + (qm_slt h2.1 - qm_slt h.1)) mc ms hA2 hl (by omega) (by omega) (by omega) hRc hRs
                  have e5 : qm_cvs Γ st3 = v9.toList ++ qm_cvs Γ rest := by
                    rw [← hst3, q1]
                    cases w <;> rfl
                  rw [e5, hpc] at k9
                  exact k9
              cases w with
              | none =>
                cases hr with
                | false => exact after rest e rfl
                | true => cases e
              | some w =>
                cases hr with
                | false => cases e
                | true => exact after (w :: rest) e rfl
      · dsimp only at e
        have hR := ho.2.2.2 t rfl
        obtain ⟨hx, hbb, hml, hown, hnm, hts, hE, hlk, hrt, hfr, hlo⟩ := cx
        have fin : h = h' → ∀ (w : Option qm_V), v = w → mc = kc ∧ ms = ks ∧ (∀ t : State, t.heap = H → s.WarmedH t.vm → qm_Qc Γ X v h' args s (.returned (w.map (qm_cv Γ))) t) := by
          intro eh w ew
          subst eh ew
          refine ⟨by omega, by omega, fun t ht hW => ⟨rfl, ⟨hA.1, hA.2.1, by rw [ht]; exact hA.2.2.1, by rw [ht]; exact hA.2.2.2.1⟩, hA.frame.F ht⟩⟩
        split at e
        · cases hb : Nat.beq t 0 with
          | false => rw [hb] at e; cases e
          | true =>
            rw [hb] at e
            obtain rfl := Nat.eq_of_beq_eq_true hb
            cases e
            obtain ⟨rfl, rfl, hq⟩ := fin rfl none rfl
            exact W.vret hx hbb (hrt.trans hR.2) hq hA.frame.2.2 hR.1 hlk
        · rename_i w
          cases hb : qm_rok t w with
          | false => rw [hb] at e; cases e
          | true =>
            rw [hb] at e
            cases e
            obtain ⟨rfl, rfl, hq⟩ := fin rfl (some w) rfl
            unfold qm_rok at hb
            split at hb
            · exact W.iret hx hbb (hrt.trans hR.2) hq hA.frame.2.2 hR.1 hlk
            · exact W.lret hx hbb (hrt.trans hR.2) hq hA.frame.2.2 hR.1 hlk
            · exact W.fret hx hbb (hrt.trans hR.2) hq hA.frame.2.2 hR.1 hlk
            · exact W.dret hx hbb (hrt.trans hR.2) hq hA.frame.2.2 hR.1 hlk
            · rename_i o
              obtain ⟨hd, ft, h1, h2⟩ := hR
              exact W.aret hx hbb (hrt.trans h1) h2 (by cases o with | none => exact Or.inl rfl | some a => exact Or.inr ⟨_, rfl⟩) hq hA.frame.2.2 hd hlk
            · rename_i x
              have hx1 := of_decide_eq_true hb
              exact W.zret hx hbb (hrt.trans hR.2) (by rcases hx1 with rfl | rfl <;> rfl) hq hA.frame.2.2 hR.1 hlk
            · rename_i x
              have hx1 := of_decide_eq_true hb
              exact W.zret hx hbb (hrt.trans hR.2) (by rw [hx1]; rfl) hq hA.frame.2.2 hR.1 hlk
            · rename_i x
              have hx1 := of_decide_eq_true hb
              exact W.zret hx hbb (hrt.trans hR.2) (by have h3 := pk_nc x; rw [hx1] at h3; exact h3) hq hA.frame.2.2 hR.1 hlk
            · cases hb
        · cases e
