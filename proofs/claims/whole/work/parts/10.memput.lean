/-- the narrowed type of a field as the instruction has it: 0 int, 2 long, 3 double, 4 a reference, 6 boolean, 7 byte -/
def qm_pt (t : Nat) : Nat := match t with
  | 6 => 0
  | 7 => 0
  | t => t
/-- a field is written: final in a constructor, or not final -/
theorem qm_putgo {y : MethodName} {cc : ByteArray} {nL : Nat} {ret : Option FieldType} {fr lo pc : Nat} {Γ : qm_Cn} {X : Nat × (Nat → Int32)} {p : Program} {l : Launch} {e : Env} {R : Room} {s : State} {m : MethodId} {args : Array Value} {below : List Frame} {meth : Method} {c : Code} {H : Heap} {locs : List Loc} {kc ks : Nat} {Q : State → Prop} {ls : Array Slot} {rest : List Value}
    {ci k N index a : Nat} {C : String} {T : u_T} {ty0 : Nat → FieldType} {fs : List Value} {v : Value} (cx : qm_Cx y cc nL ret fr lo Γ X p R s m args meth c) (hd : decode cc pc = .ok (.putfield index, 3)) (hc : qm_cl[ci]? = some (C, T, N)) (hk : k < N) (hin : ∀ w ∈ u_ws C T N, w ∈ lw_all) (hw : Cond.fieldLink y.cls index (T k).1 (T k).2.1 (T k).2.2.1 ∈ lw_all)
    (hty : ∀ k, k < N → parseFieldDescriptor (T k).2.2.1 = some (ty0 k)) (hnm : ∀ a, a < N → ∀ b, b < N → a ≠ b → (T a).2.1 ≠ (T b).2.1) (hfin : (T k).2.2.2 = false ∨ ((T k).2.2.2 = true ∧ y.name = "<init>" ∧ (T k).1 = y.cls)) (hn : narrow (ty0 k) v = v) (hfit : fits (ty0 k) v = true) (hl : k < fs.length)
    (hat : va_at Γ.1 qm_cl (a, .inr (ci, fs)) H) (kk : ∀ (H1 : Heap) (j : Nat), va_at Γ.1 qm_cl (a, .inr (ci, fs.set k v)) H1 → H1.size = H.size → (∀ q : Nat, q ≠ a → H1[q]? = H[q]?) → W p l e R s m args below meth c H1 (locs ++ [⟨a, j⟩]) kc ks Q (F0 m (pc + 3) ls rest)) :
    W p l e R s m args below meth c H locs kc ks Q (F0 m pc ls (v :: .ref a :: rest)) := by
  obtain ⟨hx, hb, hml, hown, hnmm, hts, hE, hlk, hrt, hfr, hlo⟩ := cx
  have hK := hE.classes
  have hap := va_apart (own := y.cls) hts hin ty0 hty hnm hK hc
  obtain ⟨r0, h1, cell, q1, q2, q3, q4⟩ := hat
  obtain rfl : r0 = (C, T, N) := Option.some.inj (h1.symm.trans hc)
  obtain ⟨hS, hfc, kC, hkC, hkind⟩ := hK.1 ci _ hc
  obtain ⟨cf, kf, fi, f, hi, hsl⟩ := hS k hk
  have hlays := u_lays hts hin hk
  have hst := (u_facts hfc hkC hlays hi).1
  have done : ∀ H1 : Heap, H1[a]? = some (cell.setSlot f.slot v) → H1.size = H.size → (∀ q : Nat, q ≠ a → H1[q]? = H[q]?) → W p l e R s m args below meth c H1 (locs ++ [⟨a, f.slot⟩]) kc ks Q (F0 m (pc + 3) ls rest) := fun H1 e1 e2 e3 => by
    have e1 : H1[a]? = some (cell.setSlot (Γ.1.2 ci k) v) := by rw [e1, hsl]
    exact kk H1 _ ⟨_, hc, t_OB.to (V := updV (vp_V fs) k v) ⟨_, e1, q2, q3, t_set q4 hap hk v⟩ (fun j _ => vp_updV_set hl v j)⟩ e2 e3
  have hslot : f.slot < cell.slots.size := by rw [hsl]; exact k2_hasslot (q4 k hk)
  have hlay := hts _ (hin _ (u_in_lay hk))
  unfold u_lay at hlay
  rcases hfin with hfin | ⟨hfin, hni, hdc⟩
  · rw [if_neg (by rw [hfin]; decide)] at hlay
    exact W.putK hx hb (f := f) ⟨hown, hts _ hw, ⟨_, _, _, hi⟩, hst⟩ (by rw [q2]; exact u_store hfc hkC hkind hlay hi (hty k hk) hn hfit) q1 q3 hslot rfl rfl hd done
  · rw [if_pos hfin] at hlay
    have hcf : m.cls = cf := by
      obtain ⟨_, _, c', _, _, _, -, -, hf', -, -, -, hown2, -⟩ := Cond.laysFinal_spec hlay
      have e1 : c' = cf := by
        have := hi.symm.trans hf'
        simp at this
        exact this.1.symm
      rw [hdc] at hown2
      rw [← e1]
      exact Option.some.inj (hown.symm.trans hown2)
    exact W.putFinK hx hb hown (hts _ hw) hi hst hcf ((hnmm hni).trans hni) (by rw [q2]; exact u_fits hfc hkC hkind (Or.inr hlay) hi (hty k hk) hn hfit) q1 q3 hslot rfl rfl hd done
theorem qm_fv_off0 {Γ : qm_Cn} {h h' : qm_Hp} {r k : Nat} (eI : ∀ j, j ≠ k → h'.2.1 r 0 j = h.2.1 r 0 j) (eL : ∀ j, j ≠ k → h'.2.2.2.1 r 0 j = h.2.2.2.1 r 0 j) (eD : ∀ j, j ≠ k → h'.2.2.2.2.1 r 0 j = h.2.2.2.2.1 r 0 j) (eR : ∀ j, j ≠ k → h'.2.2.2.2.2.1 r 0 j = h.2.2.2.2.2.1 r 0 j) : ∀ j t', j ≠ k → qm_fv Γ h' r j t' = qm_fv Γ h r j t' := by
  intro j t' hj
  unfold qm_fv
  split
  · rw [eI j hj]
  · rw [eL j hj]
  · rw [eD j hj]
  · rw [eR j hj]
theorem qm_set_ne {α : Type} {f : qm_Ct α} {r s i : Nat} {v : α} : ∀ j, j ≠ i → qm_set f r s i v r s j = f r s j := fun j h => if_neg (fun z => h z.2.2)
theorem qm_set_eq {α : Type} (f : qm_Ct α) (r s i : Nat) (v : α) : qm_set f r s i v r s i = v := if_pos ⟨rfl, rfl, rfl⟩
theorem qm_s_putf {y : MethodName} {cc : ByteArray} {nL : Nat} {ret : Option FieldType} {fr lo pc : Nat} {ci k t N index : Nat} {C : String} {T : u_T} {ty0 : Nat → FieldType} (hd : decode cc pc = .ok (.putfield index, 3)) (hc : qm_cl[ci]? = some (C, T, N)) (hk : k < N) (hin : ∀ w ∈ u_ws C T N, w ∈ lw_all) (hw : Cond.fieldLink y.cls index (T k).1 (T k).2.1 (T k).2.2.1 ∈ lw_all)
    (hty : ∀ k, k < N → parseFieldDescriptor (T k).2.2.1 = some (ty0 k)) (hnm : ∀ a, a < N → ∀ b, b < N → a ≠ b → (T a).2.1 ≠ (T b).2.1) (hfin : (T k).2.2.2 = false ∨ ((T k).2.2.2 = true ∧ y.name = "<init>" ∧ (T k).1 = y.cls)) (htg : (qm_fg ci)[k]? = some (qm_pt t))
    (hft : (t = 0 ∧ ty0 k = .int) ∨ (t = 2 ∧ ty0 k = .long) ∨ (t = 3 ∧ ty0 k = .double) ∨ (t = 4 ∧ (ty0 k).isReference = true) ∨ (t = 6 ∧ ty0 k = .boolean) ∨ (t = 7 ∧ ty0 k = .byte)) : qm_Snd y cc nL ret fr lo pc (qm_o_putf ci k t (pc + 3)) := by
  intro f0 e0
  cases e0
  intro Γ X p l e R s m args below meth c cx lv st h pc' lv' st' h' hf H locs ls hA hl hF kc ks kc' ks' hkc hks hc1 hs1 hsz Q kk
  dsimp only at hf
  split at hf
  · rename_i v r1 s1 r
    split at hf
    · rename_i c0 hn
      cases hbb : (Nat.beq c0 ci && Nat.beq s1 0) with
      | false => rw [hbb] at hf; cases hf
      | true =>
        rw [hbb] at hf
        simp only [Bool.and_eq_true] at hbb
        obtain rfl := Nat.eq_of_beq_eq_true hbb.1
        obtain rfl := Nat.eq_of_beq_eq_true hbb.2
        have hg := qm_fl_get0 (Γ := Γ) (h := h) (s := 0) hn Nat.zero_lt_one
        have hklen : k < (qm_fg c0).length := (List.getElem?_eq_some_iff.mp htg).1
        have go : ∀ (h2 : qm_Hp), h2.1 = h.1 → h2.2.2.2.2.2.2 = h.2.2.2.2.2.2 → (∀ r' s' sh', s' < qm_sz sh' → ¬ (r' = r1 ∧ s' = 0) → qm_ce Γ h2 r' sh' s' = qm_ce Γ h r' sh' s') → qm_fv Γ h2 r1 k (qm_pt t) = qm_cv Γ v → (∀ j t', j ≠ k → qm_fv Γ h2 r1 j t' = qm_fv Γ h r1 j t') → narrow (ty0 k) (qm_cv Γ v) = qm_cv Γ v → fits (ty0 k) (qm_cv Γ v) = true →
            (∀ (H' : Heap) (locs' : List Loc) (ls' : Array Slot), qm_At Γ X h2 s H' locs' → lv_has ls' nL (qm_cvl Γ lv) → W p l e R s m args below meth c H' locs' kc ks Q (F0 m (pc + 3) ls' (qm_cvs Γ r))) → W p l e R s m args below meth c H locs kc ks Q (F0 m pc ls (qm_cv Γ v :: .ref (qm_ad Γ (0, r1, 0)) :: qm_cvs Γ r)) := by
          intro h2 e1 eX hoff hvk hfo hnar hfit k9
          refine qm_putgo (ci := c0) (fs := qm_fs Γ h r1 0 (qm_fg c0)) cx hd hc hk hin hw hty hnm hfin hnar hfit (by rw [qm_fs_len]; exact hklen) (hA.world _ _ hg) (fun H1 j hat hz ho => ?_)
          refine k9 H1 _ ls (hA.put (h' := h2) hn Nat.zero_lt_one e1 eX hoff ?_ hz ho j) hl
          show va_at Γ.1 qm_cl (qm_ad Γ (0, r1, 0), .inr (c0, qm_fs Γ h2 r1 0 (qm_fg c0))) H1
          rw [qm_fs_set htg hvk hfo]
          exact hat
        split at hf
        · rename_i x
          cases hf
          obtain rfl : kc' = kc := by dsimp only at hkc; omega
          obtain rfl : ks' = ks := by dsimp only at hks; omega
          have hT : ty0 k = .int := by rcases hft with ⟨-, h⟩ | ⟨h, -⟩ | ⟨h, -⟩ | ⟨h, -⟩ | ⟨h, -⟩ | ⟨h, -⟩ <;> first | exact h | cases h
          exact go (h.1, qm_set h.2.1 r1 0 k x, h.2.2) rfl rfl (qm_ce_off qm_set_off (fun _ _ _ _ => rfl) (fun _ _ _ _ => rfl) (fun _ _ _ _ => rfl) (fun _ _ _ _ => rfl)) (congrArg Value.int (qm_set_eq _ _ _ _ _)) (qm_fv_off0 qm_set_ne (fun _ _ => rfl) (fun _ _ => rfl) (fun _ _ => rfl)) (by rw [hT]; rfl) (by rw [hT]; rfl) kk
        · rename_i x
          cases hf
          obtain rfl : kc' = kc := by dsimp only at hkc; omega
          obtain rfl : ks' = ks := by dsimp only at hks; omega
          have hT : ty0 k = .long := by rcases hft with ⟨h, -⟩ | ⟨-, h⟩ | ⟨h, -⟩ | ⟨h, -⟩ | ⟨h, -⟩ | ⟨h, -⟩ <;> first | exact h | cases h
          exact go (h.1, h.2.1, h.2.2.1, qm_set h.2.2.2.1 r1 0 k x, h.2.2.2.2) rfl rfl (qm_ce_off (fun _ _ _ _ => rfl) (fun _ _ _ _ => rfl) qm_set_off (fun _ _ _ _ => rfl) (fun _ _ _ _ => rfl)) (congrArg Value.long (qm_set_eq _ _ _ _ _)) (qm_fv_off0 (fun _ _ => rfl) qm_set_ne (fun _ _ => rfl) (fun _ _ => rfl)) (by rw [hT]; rfl) (by rw [hT]; rfl) kk
        · rename_i x
          cases hf
          obtain rfl : kc' = kc := by dsimp only at hkc; omega
          obtain rfl : ks' = ks := by dsimp only at hks; omega
          have hT : ty0 k = .double := by rcases hft with ⟨h, -⟩ | ⟨h, -⟩ | ⟨-, h⟩ | ⟨h, -⟩ | ⟨h, -⟩ | ⟨h, -⟩ <;> first | exact h | cases h
          exact go (h.1, h.2.1, h.2.2.1, h.2.2.2.1, qm_set h.2.2.2.2.1 r1 0 k x, h.2.2.2.2.2) rfl rfl (qm_ce_off (fun _ _ _ _ => rfl) (fun _ _ _ _ => rfl) (fun _ _ _ _ => rfl) qm_set_off (fun _ _ _ _ => rfl)) (congrArg Value.double (qm_set_eq _ _ _ _ _)) (qm_fv_off0 (fun _ _ => rfl) (fun _ _ => rfl) qm_set_ne (fun _ _ => rfl)) (by rw [hT]; rfl) (by rw [hT]; rfl) kk
        · rename_i x
          cases hf
          obtain rfl : kc' = kc := by dsimp only at hkc; omega
          obtain rfl : ks' = ks := by dsimp only at hks; omega
          have hT : (ty0 k).isReference = true := by rcases hft with ⟨h, -⟩ | ⟨h, -⟩ | ⟨h, -⟩ | ⟨-, h⟩ | ⟨h, -⟩ | ⟨h, -⟩ <;> first | exact h | cases h
          have hnf : ∀ o : Option Nat, narrow (ty0 k) (va_rf o) = va_rf o ∧ fits (ty0 k) (va_rf o) = true := by
            intro o
            generalize ty0 k = ft at hT
            cases ft <;> first | (cases hT; done) | (cases o <;> exact ⟨rfl, rfl⟩)
          exact go (h.1, h.2.1, h.2.2.1, h.2.2.2.1, h.2.2.2.2.1, qm_set h.2.2.2.2.2.1 r1 0 k x, h.2.2.2.2.2.2) rfl rfl (qm_ce_off (fun _ _ _ _ => rfl) (fun _ _ _ _ => rfl) (fun _ _ _ _ => rfl) (fun _ _ _ _ => rfl) qm_set_off) (congrArg (fun o : Option qm_Rf => va_rf (Option.map (qm_ad Γ) o)) (qm_set_eq _ _ _ _ _)) (qm_fv_off0 (fun _ _ => rfl) (fun _ _ => rfl) (fun _ _ => rfl) qm_set_ne) (hnf _).1 (hnf _).2 kk
        · rename_i x
          cases hx0 : decide (x = 0 ∨ x = 1) with
          | false => rw [hx0] at hf; cases hf
          | true =>
            rw [hx0] at hf
            cases hf
            obtain rfl : kc' = kc := by dsimp only at hkc; omega
            obtain rfl : ks' = ks := by dsimp only at hks; omega
            have hT : ty0 k = .boolean := by rcases hft with ⟨h, -⟩ | ⟨h, -⟩ | ⟨h, -⟩ | ⟨h, -⟩ | ⟨-, h⟩ | ⟨h, -⟩ <;> first | exact h | cases h
            have hx1 := of_decide_eq_true hx0
            exact go (h.1, qm_set h.2.1 r1 0 k x, h.2.2) rfl rfl (qm_ce_off qm_set_off (fun _ _ _ _ => rfl) (fun _ _ _ _ => rfl) (fun _ _ _ _ => rfl) (fun _ _ _ _ => rfl)) (congrArg Value.int (qm_set_eq _ _ _ _ _)) (qm_fv_off0 qm_set_ne (fun _ _ => rfl) (fun _ _ => rfl) (fun _ _ => rfl)) (by rw [hT]; rcases hx1 with rfl | rfl <;> rfl) (by rw [hT]; rcases hx1 with rfl | rfl <;> rfl) kk
        · rename_i x
          cases hx0 : decide (x = 0) with
          | false => rw [hx0] at hf; cases hf
          | true =>
            rw [hx0] at hf
            cases hf
            obtain rfl : kc' = kc := by dsimp only at hkc; omega
            obtain rfl : ks' = ks := by dsimp only at hks; omega
            have hT : ty0 k = .byte := by rcases hft with ⟨h, -⟩ | ⟨h, -⟩ | ⟨h, -⟩ | ⟨h, -⟩ | ⟨h, -⟩ | ⟨-, h⟩ <;> first | exact h | cases h
            obtain rfl := of_decide_eq_true hx0
            exact go (h.1, qm_set h.2.1 r1 0 k 0, h.2.2) rfl rfl (qm_ce_off qm_set_off (fun _ _ _ _ => rfl) (fun _ _ _ _ => rfl) (fun _ _ _ _ => rfl) (fun _ _ _ _ => rfl)) (congrArg Value.int (qm_set_eq _ _ _ _ _)) (qm_fv_off0 qm_set_ne (fun _ _ => rfl) (fun _ _ => rfl) (fun _ _ => rfl)) (by rw [hT]; rfl) (by rw [hT]; rfl) kk
        · cases hf
    · cases hf
  · cases hf
