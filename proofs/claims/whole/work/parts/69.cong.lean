/-! VALUE goes by the chances of 0 to 6 alone -/
theorem qm_inn_congr {f f' : Int → Int → Int64} {b : Int} : ∀ (n : Nat) (a : Int) (st : qm_S3), (∀ a', a ≤ a' → a' < a + n → f b a' = f' b a') → qm_inn f b n a st = qm_inn f' b n a st := by
  intro n
  induction n with
  | zero => intro a st _; rfl
  | succ n ih =>
    intro a st h
    show qm_inn f b n (a + 1) (if st.1 < f b a then (f b a, b, a) else st) = qm_inn f' b n (a + 1) (if st.1 < f' b a then (f' b a, b, a) else st)
    rw [h a (Int.le_refl a) (by omega)]
    exact ih (a + 1) _ (fun a' h1 h2 => h a' (by omega) (by omega))
theorem qm_out_congr {f f' : Int → Int → Int64} {a0 : Int} {m : Nat} : ∀ (n : Nat) (b : Int) (st : qm_S3), (∀ b' a', b ≤ b' → b' < b + n → a0 ≤ a' → a' < a0 + m → f b' a' = f' b' a') → qm_out f a0 m n b st = qm_out f' a0 m n b st := by
  intro n
  induction n with
  | zero => intro b st _; rfl
  | succ n ih =>
    intro b st h
    show qm_out f a0 m n (b + 1) (qm_inn f b m a0 st) = qm_out f' a0 m n (b + 1) (qm_inn f' b m a0 st)
    rw [qm_inn_congr m a0 st (fun a' h1 h2 => h b a' (Int.le_refl b) (by omega) h1 h2)]
    exact ih (b + 1) _ (fun b' a' h1 h2 h3 h4 => h b' a' (by omega) (by omega) h3 h4)
theorem qm_VB_congr {P P' Q Q' : Int → Int} {lim fine : Int} (hP : ∀ z : Int, 0 ≤ z → z ≤ 6 → P z = P' z) (hQ : ∀ z : Int, 0 ≤ z → z ≤ 6 → Q z = Q' z) : ∀ (t : Nat) (s : Int), qm_VB P Q lim fine t s = qm_VB P' Q' lim fine t s := by
  intro t
  induction t with
  | zero => intro s; rfl
  | succ t ih =>
    intro s
    show qm_out _ _ _ _ _ _ = qm_out _ _ _ _ _ _
    rw [show (fun x => (qm_VB P Q lim fine t x).1) = (fun x => (qm_VB P' Q' lim fine t x).1) from funext (fun x => by rw [ih x])]
    refine qm_out_congr _ _ _ (fun b a h1 h2 h3 h4 => ?_)
    have h5 : 0 ≤ b ∧ b ≤ 6 := by
      split at h1 <;> split at h2 <;> omega
    have h6 : 0 ≤ a ∧ a ≤ 6 := by
      split at h3 <;> split at h4 <;> omega
    rw [hP b h5.1 h5.2, hQ a h6.1 h6.2]
