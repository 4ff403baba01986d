/-! FROM THE SMALL MACHINE'S RUN TO THE LAW -/
/-- the small machine's heap at the start -/
def qm_h0 (X : Nat × (Nat → Int32)) : qm_Hp := ([], fun _ _ _ => 0, fun _ _ _ => 0, fun _ _ _ => 0, fun _ _ _ => 0, fun _ _ _ => none, X)
theorem qm_nolocs {s u : State} {L : List Loc} {k n k2 n2 : Nat} (h : s.sameButNew u L k n) (hL : ∀ q ∈ L, s.heap.size ≤ q.base) (hk : k ≤ k2) (hn : n ≤ n2) : s.sameButNew u [] k2 n2 := by
  obtain ⟨h1, h2, h3, h4, h5, h6⟩ := h
  refine ⟨h1, h2, Nat.le_trans h3 (by omega), h4, Nat.le_trans h5 hn, fun a c hc => ?_⟩
  obtain ⟨c', g1, g2, g3, g4⟩ := h6 a c hc
  refine ⟨c', g1, g2, g3, fun i _ => g4 i (fun hm => ?_)⟩
  have h7 := hL _ hm
  have h8 := (Array.getElem?_eq_some_iff.mp hc).1
  exact absurd h7 (Nat.not_le.mpr h8)
theorem qm_walk {P : Nat → qm_Cd} {M : Nat → qm_Mt} {yL : Nat} (hOk : ∀ y pc op, P y pc = some op → qm_Ok M (M y) pc op) (hPl : ∀ y pc op, P y pc = some op → plainFor (M y).1 = true) (hyL : M yL = (yL_law, cL_law, 4, some .boolean, 14, 534))
    {p : Program} {e : Env} {s : State} {m : MethodId} {below : List Frame} {meth : Method} {c : Code} (l : Launch) {b L : Nat} {xs : Nat → Int32} (C0 : lw_At p s m meth c b L xs)
    (hrun : ∀ ys : Nat → Int32, (∀ j, j < L → ys j = xs j) → qm_G P (P yL) 0 [(0, qm_R (some (2, 0, 0)))] [] (qm_h0 (L, ys)) (fun v h => v = some (qm_I 1) ∧ qm_tot h.1 ≤ 600000 ∧ qm_slt h.1 ≤ 7302250)) :
    W p l e room_1 s m #[Value.ref b] below meth c s.heap [] 0 0 (lw_Z below #[Value.ref b] s) (entryFrame m ([Value.ref b] : List Value).toArray 4) := by
  obtain ⟨D, cA, sa, ys, hys, hEnv⟩ := qm_st_env C0
  obtain ⟨hx, hb, hr, hml, hown, hts, hX, hbl, hlocks, hgv⟩ := id C0
  obtain ⟨n, v, h', hrun, rfl, ht, hs⟩ := hrun ys hys
  have hE := hEnv h'.1
  have hcx : qm_Cx (M yL).1 (M yL).2.1 (M yL).2.2.1 (M yL).2.2.2.1 (M yL).2.2.2.2.1 (M yL).2.2.2.2.2 (D, cA, sa, s.heap.size, b, h'.1) (L, ys) p room_1 s m #[Value.ref b] meth c := by
    rw [hyL]
    exact ⟨hx, hb, hml, hown, (fun h9 => absurd h9 (by decide +kernel)), qm_all_ok hts, hE, hlocks, hr, rfl, rfl⟩
  have hAt : qm_At (D, cA, sa, s.heap.size, b, h'.1) (L, ys) (qm_h0 (L, ys)) s s.heap [] := ⟨rfl, List.nil_prefix, (fun k q h => by simp [qm_h0, qm_fl] at h), rfl, va_S.rf⟩
  have hl := lv_entry ([.ref b]) (n := 4) (Nat.le_of_ble_eq_true rfl)
  rw [lg_entry_eq]
  have hS := qm_sound hOk hPl (D, cA, sa, s.heap.size, b, h'.1) (L, ys) l n yL 0 [(0, qm_R (some (2, 0, 0)))] [] (qm_h0 (L, ys)) (some (qm_I 1)) h' hrun List.prefix_rfl p e room_1 s m #[Value.ref b] below meth c hcx s.heap [] _ 0 0 (qm_tot h'.1) (qm_slt h'.1) hAt (by rw [hyL]; exact hl) rfl (by show _ + 0 = 0 + _; omega) (by show _ + 0 = 0 + _; omega) ht hs
  intro T hT X
  obtain ⟨t, st, o, q1, q2, ⟨q3, -, -⟩, LL, ⟨q4, q5, q6⟩, q7⟩ := hS T hT X
  exact ⟨t, st, o, q1, q2, q3, lw_closed (Drawn.sameBut.refl s.drawn lw_cs) q4 q5 (qm_nolocs q6 q7 ht hs)⟩
