/-! THE MIDDLE AND THE SPREAD -/
theorem qm_Mid.go {d : UInt64} (h : qm_Mid d) : qm_go d := Or.inr ⟨Nat.le_trans (by decide) h.1, Nat.lt_of_le_of_lt h.2 (by decide)⟩
theorem qm_Spr.go {c : Nat} {d : UInt64} (h : qm_Spr c d) (hc : c ≤ 900) : qm_go d :=
  h.imp id (fun h => ⟨Nat.le_trans (Nat.le_mul_of_pos_left _ (by omega)) h.1, Nat.lt_of_le_of_lt h.2 (by decide)⟩)
theorem qm_Fl.now {k : Nat} {J : qm_J} {D : qm_Ct UInt64} (h : qm_Fl k J D) (ht : 0 ≤ J 61 0 12) : ∃ c : Nat, (c : Int) + J 61 0 12 ≤ k ∧ c ≤ k ∧ qm_Mid (D 61 0 2) ∧ qm_Spr c (D 61 0 3) := by
  obtain ⟨⟨c, h1, h2⟩, _⟩ := h
  exact ⟨c, h1, by omega, h2⟩
