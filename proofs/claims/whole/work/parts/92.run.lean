/-! THE LAW'S RUN -/
theorem qm_lawrun {n : Nat} {ys : Nat → Int32} (hL : n ≤ 3072) : qm_G qm_P (qm_P 222) 0 [(0, qm_R (some (2, 0, 0)))] [] (qm_h0 (n, ys)) (fun v h => v = some (qm_I 1) ∧ qm_tot h.1 ≤ 600000 ∧ qm_slt h.1 ≤ 7302250) := by
  refine qm_start (X := (n, ys)) (fun S J K L D R hI => ?_)
  refine qm_G.pk (lv1 := [(0, qm_R (some (2, 0, 0))), (1, qm_R (some (0, 0, 0))), (2, qm_R (some (0, 61, 0))), (3, qm_I (qm_i 0))]) rfl rfl rfl ?_
  exact qm_loop (X := (n, ys)) hL (fun S J K L D R a b => ⟨rfl, a, b⟩) n 0 0 S J K L D R (by show (n : Int) ≤ 0 + 6 * (n : Int); omega) (by decide) (by decide) (by decide) hI
