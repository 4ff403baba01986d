/-! WORTH: the loops -/
def qm_WB (Pb Pa : Int → Int) (lim fine : Int) (rb ra : Int → Int) : Nat → Int → Int64
  | 0, s => qm_v0 fine s
  | t + 1, s => qm_mn (Pb (if s = lim then 6 else rb s)) (Pa (if s = -lim then 6 else ra s)) (if s = lim then 6 else rb s) (if s = -lim then 6 else ra s) (qm_hd (qm_WB Pb Pa lim fine rb ra t) lim s) (qm_hd (qm_WB Pb Pa lim fine rb ra t) lim (s + 1)) (qm_hd (qm_WB Pb Pa lim fine rb ra t) lim (s - 1))
theorem qm_WB_s {Pb Pa rb ra : Int → Int} {lim fine s b a : Int} {m : Nat} (h1 : (if s = lim then 6 else rb s) = b) (h2 : (if s = -lim then 6 else ra s) = a) : qm_WB Pb Pa lim fine rb ra (m + 1) s = qm_mn (Pb b) (Pa a) b a (qm_hd (qm_WB Pb Pa lim fine rb ra m) lim s) (qm_hd (qm_WB Pb Pa lim fine rb ra m) lim (s + 1)) (qm_hd (qm_WB Pb Pa lim fine rb ra m) lim (s - 1)) := by
  subst h1 h2
  rfl
def qm_TW (Pb Pa : Int → Int) (lim fine : Int) (rb ra : Int → Int) (L : qm_Ct Int64) (T s : Int) : Prop := ∀ t x : Int, 0 ≤ t → (t < T ∨ t = T ∧ x < s) → -lim ≤ x → x ≤ lim → L 40 (Int.toNat t + 1) (Int.toNat (x + 8)) = qm_WB Pb Pa lim fine rb ra (Int.toNat t) x
theorem qm_TW.step {Pb Pa rb ra : Int → Int} {lim fine T s : Int} {L : qm_Ct Int64} (h : qm_TW Pb Pa lim fine rb ra L T s) (hT : 0 ≤ T) (hs : -lim ≤ s) (hl : lim ≤ 8) {v : Int64} (e : qm_WB Pb Pa lim fine rb ra (Int.toNat T) s = v) : qm_TW Pb Pa lim fine rb ra (qm_set L 40 (Int.toNat T + 1) (Int.toNat (s + 8)) v) T (s + 1) := by
  intro t z h0 h1 h2 h3
  by_cases hx : t = T ∧ z = s
  · obtain ⟨c1, c2⟩ := hx
    subst c1 c2
    rw [e]
    exact qm_st_eq
  · rw [qm_st_ne (by omega)]
    exact h t z h0 (by omega) h2 h3
def qm_TN (Pb Pa : Int → Int) (lim fine : Int) (rb ra : Int → Int) (L : qm_Ct Int64) (T s : Int) : Prop := ∀ t x : Int, 0 ≤ t → (t < T ∨ t = T ∧ x < s) → -lim ≤ x → x ≤ lim → L 66 0 (Int.toNat (17 * t + 8 + x)) = qm_WB Pb Pa lim fine rb ra (Int.toNat t) x
theorem qm_TN.step {Pb Pa rb ra : Int → Int} {lim fine T s : Int} {L : qm_Ct Int64} (h : qm_TN Pb Pa lim fine rb ra L T s) (hT : 0 ≤ T) (hs : -lim ≤ s) (hs2 : s ≤ lim) (hl : lim ≤ 8) {v : Int64} (e : qm_WB Pb Pa lim fine rb ra (Int.toNat T) s = v) : qm_TN Pb Pa lim fine rb ra (qm_set L 66 0 (Int.toNat (17 * T + 8 + s)) v) T (s + 1) := by
  intro t z h0 h1 h2 h3
  by_cases hx : t = T ∧ z = s
  · obtain ⟨c1, c2⟩ := hx
    subst c1 c2
    rw [e]
    exact qm_st_eq
  · rw [qm_st_ne (by omega)]
    exact h t z h0 (by omega) h2 h3
theorem qm_d_wea {S : List qm_Sh} {J K : qm_J} {D : qm_Ct UInt64} {R : qm_Ct (Option qm_Rf)} {X : Nat × (Nat → Int32)} {Q : Option qm_V → qm_Hp → Prop} {lim fine T : Int} {Pb Pa rb ra : Int → Int} (hS : qm_Sd S) (hR : qm_Rd R) (hB : qm_Bk J lim Pb Pa) (hr : ∀ (z : Int) (i : Nat), i = Int.toNat (z + 8) → -lim ≤ z → z ≤ lim → J 17 1 i = rb z) (hq : ∀ (z : Int) (i : Nat), i = Int.toNat (z + 8) → -lim ≤ z → z ≤ lim → J 17 2 i = ra z) (rr : ∀ z : Int, -lim ≤ z → z ≤ lim → (0 ≤ rb z ∧ rb z ≤ 6) ∧ (0 ≤ ra z ∧ ra z ≤ 6)) {t : Int} (rt : 1 ≤ t ∧ t ≤ 8) : ∀ (n : Nat) (s : Int) (L : qm_Ct Int64), s + n = lim + 1 → -lim ≤ s → qm_TW Pb Pa lim fine rb ra L t s → (∀ L' : qm_Ct Int64, (∀ r s i, r ≠ 40 → L' r s i = L r s i) → qm_TW Pb Pa lim fine rb ra L' t (lim + 1) → qm_G qm_P qm_P160 160 [(0, qm_R (some (0, 35, 0))), (1, qm_R (some (0, 17, 0))), (3, qm_I (qm_i T)), (4, qm_I (qm_i t))] [] (qm_H S J K L' D R X) Q) → qm_G qm_P qm_P160 45 [(0, qm_R (some (0, 35, 0))), (1, qm_R (some (0, 17, 0))), (3, qm_I (qm_i T)), (4, qm_I (qm_i t)), (5, qm_R (some (0, 40, Int.toNat (t - 1) + 1))), (6, qm_I (qm_i s))] [] (qm_H S J K L D R X) Q := by
  have rl := hB.2.1
  intro n
  induction n with
  | zero =>
    intro s L h1 h2 tw k
    refine qm_G.pk (lv1 := [(0, qm_R (some (0, 35, 0))), (1, qm_R (some (0, 17, 0))), (3, qm_I (qm_i T)), (4, qm_I (qm_i t)), (5, qm_R (some (0, 40, Int.toNat (t - 1) + 1))), (6, qm_I (qm_i s))]) rfl rfl rfl ?_
    refine qm_G.sp (lv1 := [(0, qm_R (some (0, 35, 0))), (1, qm_R (some (0, 17, 0))), (3, qm_I (qm_i T)), (4, qm_I (qm_i t)), (5, qm_R (some (0, 40, Int.toNat (t - 1) + 1))), (6, qm_I (qm_i s))]) rfl rfl (qm_x_iload rfl) ?_
    refine qm_G.s1 rfl (qm_x_aload rfl) ?_
    refine qm_G.s1 rfl (qm_x_getfI (v := lim) (hS 35 rfl) hB.1) ?_
    refine qm_G.s1 rfl (qm_x_icmp_gt_t ⟨by omega, by omega⟩ ⟨by omega, by omega⟩ (by omega)) ?_
    refine qm_G.pk (lv1 := [(0, qm_R (some (0, 35, 0))), (1, qm_R (some (0, 17, 0))), (3, qm_I (qm_i T)), (4, qm_I (qm_i t))]) rfl rfl rfl ?_
    exact k L (fun _ _ _ _ => rfl) (fun a b c d e f => tw a b c (by omega) e f)
  | succ n ih =>
    intro s L h1 h2 tw k
    have h3 : s ≤ lim := by omega
    refine qm_G.pk (lv1 := [(0, qm_R (some (0, 35, 0))), (1, qm_R (some (0, 17, 0))), (3, qm_I (qm_i T)), (4, qm_I (qm_i t)), (5, qm_R (some (0, 40, Int.toNat (t - 1) + 1))), (6, qm_I (qm_i s))]) rfl rfl rfl ?_
    refine qm_G.sp (lv1 := [(0, qm_R (some (0, 35, 0))), (1, qm_R (some (0, 17, 0))), (3, qm_I (qm_i T)), (4, qm_I (qm_i t)), (5, qm_R (some (0, 40, Int.toNat (t - 1) + 1))), (6, qm_I (qm_i s))]) rfl rfl (qm_x_iload rfl) ?_
    refine qm_G.s1 rfl (qm_x_aload rfl) ?_
    refine qm_G.s1 rfl (qm_x_getfI (v := lim) (hS 35 rfl) hB.1) ?_
    refine qm_G.s1 rfl (qm_x_icmp_gt_f ⟨by omega, by omega⟩ ⟨by omega, by omega⟩ (by omega)) ?_
    refine qm_G.s1 rfl (qm_x_iload rfl) ?_
    refine qm_G.s1 rfl (qm_x_aload rfl) ?_
    refine qm_G.s1 rfl (qm_x_getfI (v := lim) (hS 35 rfl) hB.1) ?_
    refine qm_y_icmp_ne rfl ⟨by omega, by omega⟩ ⟨by omega, by omega⟩ (fun c1 => ?_) (fun c1 => ?_)
    · refine qm_G.sp (lv1 := [(0, qm_R (some (0, 35, 0))), (1, qm_R (some (0, 17, 0))), (3, qm_I (qm_i T)), (4, qm_I (qm_i t)), (5, qm_R (some (0, 40, Int.toNat (t - 1) + 1))), (6, qm_I (qm_i s))]) rfl rfl (qm_x_aload rfl) ?_
      refine qm_G.s1 rfl (qm_x_pushI 0 rfl) ?_
      refine qm_G.s1 rfl (qm_x_aaldg (hS 17 rfl) rfl rfl (by decide) (by decide)) ?_
      refine qm_G.s1 rfl (qm_x_iload rfl) ?_
      refine qm_G.s1 rfl (qm_x_pushI 8 rfl) ?_
      refine qm_G.s1 rfl (qm_x_iadd) ?_
      have g2 := rr s (by omega) (by omega)
      refine qm_G.s1 rfl (qm_x_iald (v := (rb s)) (qm_arS hS rfl rfl) rfl (by omega) (by omega) (by decide) (hr s _ (by omega) (by omega) (by omega))) ?_
      refine qm_G.sp (lv1 := [(0, qm_R (some (0, 35, 0))), (1, qm_R (some (0, 17, 0))), (3, qm_I (qm_i T)), (4, qm_I (qm_i t)), (5, qm_R (some (0, 40, Int.toNat (t - 1) + 1))), (6, qm_I (qm_i s))]) rfl rfl (qm_x_istore (lv' := [(7, qm_I (qm_i (rb s))), (0, qm_R (some (0, 35, 0))), (1, qm_R (some (0, 17, 0))), (3, qm_I (qm_i T)), (4, qm_I (qm_i t)), (5, qm_R (some (0, 40, Int.toNat (t - 1) + 1))), (6, qm_I (qm_i s))]) rfl) ?_
      refine qm_G.s1 rfl (qm_x_iload rfl) ?_
      refine qm_G.s1 rfl (qm_x_aload rfl) ?_
      refine qm_G.s1 rfl (qm_x_getfI (v := lim) (hS 35 rfl) hB.1) ?_
      refine qm_G.s1 rfl (qm_x_ineg) ?_
      refine qm_y_icmp_ne rfl ⟨by omega, by omega⟩ ⟨by omega, by omega⟩ (fun c3 => ?_) (fun c3 => ?_)
      · refine qm_G.sp (lv1 := [(0, qm_R (some (0, 35, 0))), (1, qm_R (some (0, 17, 0))), (3, qm_I (qm_i T)), (4, qm_I (qm_i t)), (5, qm_R (some (0, 40, Int.toNat (t - 1) + 1))), (6, qm_I (qm_i s)), (7, qm_I (qm_i (rb s)))]) rfl rfl (qm_x_aload rfl) ?_
        refine qm_G.s1 rfl (qm_x_pushI 1 rfl) ?_
        refine qm_G.s1 rfl (qm_x_aaldg (hS 17 rfl) rfl rfl (by decide) (by decide)) ?_
        refine qm_G.s1 rfl (qm_x_iload rfl) ?_
        refine qm_G.s1 rfl (qm_x_pushI 8 rfl) ?_
        refine qm_G.s1 rfl (qm_x_iadd) ?_
        refine qm_G.s1 rfl (qm_x_iald (v := (ra s)) (qm_arS hS rfl rfl) rfl (by omega) (by omega) (by decide) (hq s _ (by omega) (by omega) (by omega))) ?_
        refine qm_G.sp (lv1 := [(0, qm_R (some (0, 35, 0))), (1, qm_R (some (0, 17, 0))), (3, qm_I (qm_i T)), (4, qm_I (qm_i t)), (5, qm_R (some (0, 40, Int.toNat (t - 1) + 1))), (6, qm_I (qm_i s)), (7, qm_I (qm_i (rb s)))]) rfl rfl (qm_x_istore (lv' := [(8, qm_I (qm_i (ra s))), (0, qm_R (some (0, 35, 0))), (1, qm_R (some (0, 17, 0))), (3, qm_I (qm_i T)), (4, qm_I (qm_i t)), (5, qm_R (some (0, 40, Int.toNat (t - 1) + 1))), (6, qm_I (qm_i s)), (7, qm_I (qm_i (rb s)))]) rfl) ?_
        refine qm_G.s1 rfl (qm_x_aload rfl) ?_
        refine qm_G.s1 rfl (qm_x_getfR (q := (some (0, 40, 0))) (hS 35 rfl) (hR 35 4 40 rfl rfl)) ?_
        refine qm_G.s1 rfl (qm_x_iload rfl) ?_
        refine qm_G.s1 rfl (qm_x_aaldg (hS 40 rfl) rfl rfl (by omega) (by omega)) ?_
        refine qm_G.s1 rfl (qm_x_iload rfl) ?_
        refine qm_G.s1 rfl (qm_x_pushI 8 rfl) ?_
        refine qm_G.s1 rfl (qm_x_iadd) ?_
        refine qm_G.s1 rfl (qm_x_aload rfl) ?_
        refine qm_G.s1 rfl (qm_x_iload rfl) ?_
        refine qm_G.s1 rfl (qm_x_iload rfl) ?_
        refine qm_G.s1 rfl (qm_x_aload rfl) ?_
        refine qm_G.s1 rfl (qm_x_aload rfl) ?_
        refine qm_G.s1 rfl (qm_x_iload rfl) ?_
        refine qm_G.cm rfl rfl (hS 35 rfl) rfl ?_
        refine qm_w_held hS hR hB (by omega) (by omega) (V := qm_WB Pb Pa lim fine rb ra (Int.toNat (t - 1))) (fun z i hi z1 z2 => by subst hi; exact tw (t - 1) z (by omega) (Or.inl (by omega)) z1 z2) ⟨_, rfl, ?_⟩
        refine qm_G.s1 rfl (qm_x_aload rfl) ?_
        refine qm_G.s1 rfl (qm_x_aload rfl) ?_
        refine qm_G.s1 rfl (qm_x_iload rfl) ?_
        refine qm_G.s1 rfl (qm_x_pushI 1 rfl) ?_
        refine qm_G.s1 rfl (qm_x_iadd) ?_
        refine qm_G.cm rfl rfl (hS 35 rfl) rfl ?_
        refine qm_w_held hS hR hB (by omega) (by omega) (V := qm_WB Pb Pa lim fine rb ra (Int.toNat (t - 1))) (fun z i hi z1 z2 => by subst hi; exact tw (t - 1) z (by omega) (Or.inl (by omega)) z1 z2) ⟨_, rfl, ?_⟩
        refine qm_G.s1 rfl (qm_x_aload rfl) ?_
        refine qm_G.s1 rfl (qm_x_aload rfl) ?_
        refine qm_G.s1 rfl (qm_x_iload rfl) ?_
        refine qm_G.s1 rfl (qm_x_pushI 1 rfl) ?_
        refine qm_G.s1 rfl (qm_x_isub) ?_
        refine qm_G.cm rfl rfl (hS 35 rfl) rfl ?_
        refine qm_w_held hS hR hB (by omega) (by omega) (V := qm_WB Pb Pa lim fine rb ra (Int.toNat (t - 1))) (fun z i hi z1 z2 => by subst hi; exact tw (t - 1) z (by omega) (Or.inl (by omega)) z1 z2) ⟨_, rfl, ?_⟩
        refine qm_G.cm rfl rfl (hS 35 rfl) rfl ?_
        refine qm_v_mean hS hR hB (by omega) (by omega) ⟨_, rfl, ?_⟩
        refine qm_G.s1 rfl (qm_x_last (qm_arS hS rfl rfl) rfl (by omega) (by omega) (by omega)) ?_
        refine qm_G.s1 rfl (qm_x_iinc (lv' := [(6, qm_I (qm_i (s + 1))), (8, qm_I (qm_i (ra s))), (0, qm_R (some (0, 35, 0))), (1, qm_R (some (0, 17, 0))), (3, qm_I (qm_i T)), (4, qm_I (qm_i t)), (5, qm_R (some (0, 40, Int.toNat (t - 1) + 1))), (7, qm_I (qm_i (rb s)))]) 1 rfl rfl rfl) ?_
        refine qm_G.s1 rfl (qm_x_goto) ?_
        refine qm_G.pk (lv1 := [(0, qm_R (some (0, 35, 0))), (1, qm_R (some (0, 17, 0))), (3, qm_I (qm_i T)), (4, qm_I (qm_i t)), (5, qm_R (some (0, 40, Int.toNat (t - 1) + 1))), (6, qm_I (qm_i (s + 1)))]) rfl rfl rfl ?_
        refine ih (s + 1) _ (by omega) (by omega) (tw.step (by omega) h2 rl.2 (by rw [show Int.toNat t = Int.toNat (t - 1) + 1 by omega]; exact qm_WB_s (if_neg (by omega)) (if_neg (by omega)))) (fun L' eL t2 => k L' (fun r q i h => by rw [eL r q i h, qm_st_ne (by omega)]) t2)
      · refine qm_G.s1 rfl (qm_x_pushI 6 rfl) ?_
        refine qm_G.s1 rfl (qm_x_goto) ?_
        refine qm_G.sp (lv1 := [(0, qm_R (some (0, 35, 0))), (1, qm_R (some (0, 17, 0))), (3, qm_I (qm_i T)), (4, qm_I (qm_i t)), (5, qm_R (some (0, 40, Int.toNat (t - 1) + 1))), (6, qm_I (qm_i s)), (7, qm_I (qm_i (rb s)))]) rfl rfl (qm_x_istore (lv' := [(8, qm_I (qm_i 6)), (0, qm_R (some (0, 35, 0))), (1, qm_R (some (0, 17, 0))), (3, qm_I (qm_i T)), (4, qm_I (qm_i t)), (5, qm_R (some (0, 40, Int.toNat (t - 1) + 1))), (6, qm_I (qm_i s)), (7, qm_I (qm_i (rb s)))]) rfl) ?_
        refine qm_G.s1 rfl (qm_x_aload rfl) ?_
        refine qm_G.s1 rfl (qm_x_getfR (q := (some (0, 40, 0))) (hS 35 rfl) (hR 35 4 40 rfl rfl)) ?_
        refine qm_G.s1 rfl (qm_x_iload rfl) ?_
        refine qm_G.s1 rfl (qm_x_aaldg (hS 40 rfl) rfl rfl (by omega) (by omega)) ?_
        refine qm_G.s1 rfl (qm_x_iload rfl) ?_
        refine qm_G.s1 rfl (qm_x_pushI 8 rfl) ?_
        refine qm_G.s1 rfl (qm_x_iadd) ?_
        refine qm_G.s1 rfl (qm_x_aload rfl) ?_
        refine qm_G.s1 rfl (qm_x_iload rfl) ?_
        refine qm_G.s1 rfl (qm_x_iload rfl) ?_
        refine qm_G.s1 rfl (qm_x_aload rfl) ?_
        refine qm_G.s1 rfl (qm_x_aload rfl) ?_
        refine qm_G.s1 rfl (qm_x_iload rfl) ?_
        refine qm_G.cm rfl rfl (hS 35 rfl) rfl ?_
        refine qm_w_held hS hR hB (by omega) (by omega) (V := qm_WB Pb Pa lim fine rb ra (Int.toNat (t - 1))) (fun z i hi z1 z2 => by subst hi; exact tw (t - 1) z (by omega) (Or.inl (by omega)) z1 z2) ⟨_, rfl, ?_⟩
        refine qm_G.s1 rfl (qm_x_aload rfl) ?_
        refine qm_G.s1 rfl (qm_x_aload rfl) ?_
        refine qm_G.s1 rfl (qm_x_iload rfl) ?_
        refine qm_G.s1 rfl (qm_x_pushI 1 rfl) ?_
        refine qm_G.s1 rfl (qm_x_iadd) ?_
        refine qm_G.cm rfl rfl (hS 35 rfl) rfl ?_
        refine qm_w_held hS hR hB (by omega) (by omega) (V := qm_WB Pb Pa lim fine rb ra (Int.toNat (t - 1))) (fun z i hi z1 z2 => by subst hi; exact tw (t - 1) z (by omega) (Or.inl (by omega)) z1 z2) ⟨_, rfl, ?_⟩
        refine qm_G.s1 rfl (qm_x_aload rfl) ?_
        refine qm_G.s1 rfl (qm_x_aload rfl) ?_
        refine qm_G.s1 rfl (qm_x_iload rfl) ?_
        refine qm_G.s1 rfl (qm_x_pushI 1 rfl) ?_
        refine qm_G.s1 rfl (qm_x_isub) ?_
        refine qm_G.cm rfl rfl (hS 35 rfl) rfl ?_
        refine qm_w_held hS hR hB (by omega) (by omega) (V := qm_WB Pb Pa lim fine rb ra (Int.toNat (t - 1))) (fun z i hi z1 z2 => by subst hi; exact tw (t - 1) z (by omega) (Or.inl (by omega)) z1 z2) ⟨_, rfl, ?_⟩
        refine qm_G.cm rfl rfl (hS 35 rfl) rfl ?_
        refine qm_v_mean hS hR hB (by omega) (by omega) ⟨_, rfl, ?_⟩
        refine qm_G.s1 rfl (qm_x_last (qm_arS hS rfl rfl) rfl (by omega) (by omega) (by omega)) ?_
        refine qm_G.s1 rfl (qm_x_iinc (lv' := [(6, qm_I (qm_i (s + 1))), (8, qm_I (qm_i 6)), (0, qm_R (some (0, 35, 0))), (1, qm_R (some (0, 17, 0))), (3, qm_I (qm_i T)), (4, qm_I (qm_i t)), (5, qm_R (some (0, 40, Int.toNat (t - 1) + 1))), (7, qm_I (qm_i (rb s)))]) 1 rfl rfl rfl) ?_
        refine qm_G.s1 rfl (qm_x_goto) ?_
        refine qm_G.pk (lv1 := [(0, qm_R (some (0, 35, 0))), (1, qm_R (some (0, 17, 0))), (3, qm_I (qm_i T)), (4, qm_I (qm_i t)), (5, qm_R (some (0, 40, Int.toNat (t - 1) + 1))), (6, qm_I (qm_i (s + 1)))]) rfl rfl rfl ?_
        refine ih (s + 1) _ (by omega) (by omega) (tw.step (by omega) h2 rl.2 (by rw [show Int.toNat t = Int.toNat (t - 1) + 1 by omega]; exact qm_WB_s (if_neg (by omega)) (if_pos (by omega)))) (fun L' eL t2 => k L' (fun r q i h => by rw [eL r q i h, qm_st_ne (by omega)]) t2)
    · refine qm_G.s1 rfl (qm_x_pushI 6 rfl) ?_
      refine qm_G.s1 rfl (qm_x_goto) ?_
      refine qm_G.sp (lv1 := [(0, qm_R (some (0, 35, 0))), (1, qm_R (some (0, 17, 0))), (3, qm_I (qm_i T)), (4, qm_I (qm_i t)), (5, qm_R (some (0, 40, Int.toNat (t - 1) + 1))), (6, qm_I (qm_i s))]) rfl rfl (qm_x_istore (lv' := [(7, qm_I (qm_i 6)), (0, qm_R (some (0, 35, 0))), (1, qm_R (some (0, 17, 0))), (3, qm_I (qm_i T)), (4, qm_I (qm_i t)), (5, qm_R (some (0, 40, Int.toNat (t - 1) + 1))), (6, qm_I (qm_i s))]) rfl) ?_
      refine qm_G.s1 rfl (qm_x_iload rfl) ?_
      refine qm_G.s1 rfl (qm_x_aload rfl) ?_
      refine qm_G.s1 rfl (qm_x_getfI (v := lim) (hS 35 rfl) hB.1) ?_
      refine qm_G.s1 rfl (qm_x_ineg) ?_
      refine qm_G.s1 rfl (qm_x_icmp_ne_t ⟨by omega, by omega⟩ ⟨by omega, by omega⟩ (by omega)) ?_
      refine qm_G.sp (lv1 := [(0, qm_R (some (0, 35, 0))), (1, qm_R (some (0, 17, 0))), (3, qm_I (qm_i T)), (4, qm_I (qm_i t)), (5, qm_R (some (0, 40, Int.toNat (t - 1) + 1))), (6, qm_I (qm_i s)), (7, qm_I (qm_i 6))]) rfl rfl (qm_x_aload rfl) ?_
      refine qm_G.s1 rfl (qm_x_pushI 1 rfl) ?_
      refine qm_G.s1 rfl (qm_x_aaldg (hS 17 rfl) rfl rfl (by decide) (by decide)) ?_
      refine qm_G.s1 rfl (qm_x_iload rfl) ?_
      refine qm_G.s1 rfl (qm_x_pushI 8 rfl) ?_
      refine qm_G.s1 rfl (qm_x_iadd) ?_
      have g4 := rr s (by omega) (by omega)
      refine qm_G.s1 rfl (qm_x_iald (v := (ra s)) (qm_arS hS rfl rfl) rfl (by omega) (by omega) (by decide) (hq s _ (by omega) (by omega) (by omega))) ?_
      refine qm_G.sp (lv1 := [(0, qm_R (some (0, 35, 0))), (1, qm_R (some (0, 17, 0))), (3, qm_I (qm_i T)), (4, qm_I (qm_i t)), (5, qm_R (some (0, 40, Int.toNat (t - 1) + 1))), (6, qm_I (qm_i s)), (7, qm_I (qm_i 6))]) rfl rfl (qm_x_istore (lv' := [(8, qm_I (qm_i (ra s))), (0, qm_R (some (0, 35, 0))), (1, qm_R (some (0, 17, 0))), (3, qm_I (qm_i T)), (4, qm_I (qm_i t)), (5, qm_R (some (0, 40, Int.toNat (t - 1) + 1))), (6, qm_I (qm_i s)), (7, qm_I (qm_i 6))]) rfl) ?_
      refine qm_G.s1 rfl (qm_x_aload rfl) ?_
      refine qm_G.s1 rfl (qm_x_getfR (q := (some (0, 40, 0))) (hS 35 rfl) (hR 35 4 40 rfl rfl)) ?_
      refine qm_G.s1 rfl (qm_x_iload rfl) ?_
      refine qm_G.s1 rfl (qm_x_aaldg (hS 40 rfl) rfl rfl (by omega) (by omega)) ?_
      refine qm_G.s1 rfl (qm_x_iload rfl) ?_
      refine qm_G.s1 rfl (qm_x_pushI 8 rfl) ?_
      refine qm_G.s1 rfl (qm_x_iadd) ?_
      refine qm_G.s1 rfl (qm_x_aload rfl) ?_
      refine qm_G.s1 rfl (qm_x_iload rfl) ?_
      refine qm_G.s1 rfl (qm_x_iload rfl) ?_
      refine qm_G.s1 rfl (qm_x_aload rfl) ?_
      refine qm_G.s1 rfl (qm_x_aload rfl) ?_
      refine qm_G.s1 rfl (qm_x_iload rfl) ?_
      refine qm_G.cm rfl rfl (hS 35 rfl) rfl ?_
      refine qm_w_held hS hR hB (by omega) (by omega) (V := qm_WB Pb Pa lim fine rb ra (Int.toNat (t - 1))) (fun z i hi z1 z2 => by subst hi; exact tw (t - 1) z (by omega) (Or.inl (by omega)) z1 z2) ⟨_, rfl, ?_⟩
      refine qm_G.s1 rfl (qm_x_aload rfl) ?_
      refine qm_G.s1 rfl (qm_x_aload rfl) ?_
      refine qm_G.s1 rfl (qm_x_iload rfl) ?_
      refine qm_G.s1 rfl (qm_x_pushI 1 rfl) ?_
      refine qm_G.s1 rfl (qm_x_iadd) ?_
      refine qm_G.cm rfl rfl (hS 35 rfl) rfl ?_
      refine qm_w_held hS hR hB (by omega) (by omega) (V := qm_WB Pb Pa lim fine rb ra (Int.toNat (t - 1))) (fun z i hi z1 z2 => by subst hi; exact tw (t - 1) z (by omega) (Or.inl (by omega)) z1 z2) ⟨_, rfl, ?_⟩
      refine qm_G.s1 rfl (qm_x_aload rfl) ?_
      refine qm_G.s1 rfl (qm_x_aload rfl) ?_
      refine qm_G.s1 rfl (qm_x_iload rfl) ?_
      refine qm_G.s1 rfl (qm_x_pushI 1 rfl) ?_
      refine qm_G.s1 rfl (qm_x_isub) ?_
      refine qm_G.cm rfl rfl (hS 35 rfl) rfl ?_
      refine qm_w_held hS hR hB (by omega) (by omega) (V := qm_WB Pb Pa lim fine rb ra (Int.toNat (t - 1))) (fun z i hi z1 z2 => by subst hi; exact tw (t - 1) z (by omega) (Or.inl (by omega)) z1 z2) ⟨_, rfl, ?_⟩
      refine qm_G.cm rfl rfl (hS 35 rfl) rfl ?_
      refine qm_v_mean hS hR hB (by omega) (by omega) ⟨_, rfl, ?_⟩
      refine qm_G.s1 rfl (qm_x_last (qm_arS hS rfl rfl) rfl (by omega) (by omega) (by omega)) ?_
      refine qm_G.s1 rfl (qm_x_iinc (lv' := [(6, qm_I (qm_i (s + 1))), (8, qm_I (qm_i (ra s))), (0, qm_R (some (0, 35, 0))), (1, qm_R (some (0, 17, 0))), (3, qm_I (qm_i T)), (4, qm_I (qm_i t)), (5, qm_R (some (0, 40, Int.toNat (t - 1) + 1))), (7, qm_I (qm_i 6))]) 1 rfl rfl rfl) ?_
      refine qm_G.s1 rfl (qm_x_goto) ?_
      refine qm_G.pk (lv1 := [(0, qm_R (some (0, 35, 0))), (1, qm_R (some (0, 17, 0))), (3, qm_I (qm_i T)), (4, qm_I (qm_i t)), (5, qm_R (some (0, 40, Int.toNat (t - 1) + 1))), (6, qm_I (qm_i (s + 1)))]) rfl rfl rfl ?_
      refine ih (s + 1) _ (by omega) (by omega) (tw.step (by omega) h2 rl.2 (by rw [show Int.toNat t = Int.toNat (t - 1) + 1 by omega]; exact qm_WB_s (if_pos (by omega)) (if_neg (by omega)))) (fun L' eL t2 => k L' (fun r q i h => by rw [eL r q i h, qm_st_ne (by omega)]) t2)
theorem qm_d_web {S : List qm_Sh} {J K : qm_J} {D : qm_Ct UInt64} {R : qm_Ct (Option qm_Rf)} {X : Nat × (Nat → Int32)} {Q : Option qm_V → qm_Hp → Prop} {lim fine T : Int} {Pb Pa rb ra : Int → Int} (hS : qm_Sd S) (hR : qm_Rd R) (hB : qm_Bk J lim Pb Pa) (hr : ∀ (z : Int) (i : Nat), i = Int.toNat (z + 8) → -lim ≤ z → z ≤ lim → J 17 1 i = rb z) (hq : ∀ (z : Int) (i : Nat), i = Int.toNat (z + 8) → -lim ≤ z → z ≤ lim → J 17 2 i = ra z) (rr : ∀ z : Int, -lim ≤ z → z ≤ lim → (0 ≤ rb z ∧ rb z ≤ 6) ∧ (0 ≤ ra z ∧ ra z ≤ 6)) (rT : 0 ≤ T ∧ T ≤ 8) : ∀ (n : Nat) (t : Int) (L : qm_Ct Int64), t + n = T + 1 → 1 ≤ t → qm_TW Pb Pa lim fine rb ra L t (-lim) → (∀ L' : qm_Ct Int64, (∀ r s i, r ≠ 40 → L' r s i = L r s i) → qm_TW Pb Pa lim fine rb ra L' (T + 1) (-lim) → Q none (qm_H S J K L' D R X)) → qm_G qm_P qm_P160 14 [(0, qm_R (some (0, 35, 0))), (1, qm_R (some (0, 17, 0))), (3, qm_I (qm_i T)), (4, qm_I (qm_i t))] [] (qm_H S J K L D R X) Q := by
  have rl := hB.2.1
  intro n
  induction n with
  | zero =>
    intro t L h1 h2 tw k
    refine qm_G.pk (lv1 := [(0, qm_R (some (0, 35, 0))), (1, qm_R (some (0, 17, 0))), (3, qm_I (qm_i T)), (4, qm_I (qm_i t))]) rfl rfl rfl ?_
    refine qm_G.sp (lv1 := [(0, qm_R (some (0, 35, 0))), (1, qm_R (some (0, 17, 0))), (3, qm_I (qm_i T)), (4, qm_I (qm_i t))]) rfl rfl (qm_x_iload rfl) ?_
    refine qm_G.s1 rfl (qm_x_iload rfl) ?_
    refine qm_G.s1 rfl (qm_x_icmp_gt_t ⟨by omega, by omega⟩ ⟨by omega, by omega⟩ (by omega)) ?_
    exact qm_G.retv rfl (k L (fun _ _ _ _ => rfl) (fun a b c d e f => tw a b c (by omega) e f))
  | succ n ih =>
    intro t L h1 h2 tw k
    have h3 : t ≤ T := by omega
    refine qm_G.pk (lv1 := [(0, qm_R (some (0, 35, 0))), (1, qm_R (some (0, 17, 0))), (3, qm_I (qm_i T)), (4, qm_I (qm_i t))]) rfl rfl rfl ?_
    refine qm_G.sp (lv1 := [(0, qm_R (some (0, 35, 0))), (1, qm_R (some (0, 17, 0))), (3, qm_I (qm_i T)), (4, qm_I (qm_i t))]) rfl rfl (qm_x_iload rfl) ?_
    refine qm_G.s1 rfl (qm_x_iload rfl) ?_
    refine qm_G.s1 rfl (qm_x_icmp_gt_f ⟨by omega, by omega⟩ ⟨by omega, by omega⟩ (by omega)) ?_
    refine qm_G.s1 rfl (qm_x_iload rfl) ?_
    refine qm_G.s1 rfl (qm_x_pushI 8 rfl) ?_
    refine qm_G.s1 rfl (qm_x_icmp_gt_f ⟨by omega, by omega⟩ ⟨by decide, by decide⟩ (by omega)) ?_
    refine qm_G.s1 rfl (qm_x_aload rfl) ?_
    refine qm_G.s1 rfl (qm_x_getfR (q := (some (0, 40, 0))) (hS 35 rfl) (hR 35 4 40 rfl rfl)) ?_
    refine qm_G.s1 rfl (qm_x_iload rfl) ?_
    refine qm_G.s1 rfl (qm_x_pushI 1 rfl) ?_
    refine qm_G.s1 rfl (qm_x_isub) ?_
    refine qm_G.s1 rfl (qm_x_aaldg (hS 40 rfl) rfl rfl (by omega) (by omega)) ?_
    refine qm_G.s1 rfl (qm_x_astore (lv' := [(5, qm_R (some (0, 40, Int.toNat (t - 1) + 1))), (0, qm_R (some (0, 35, 0))), (1, qm_R (some (0, 17, 0))), (3, qm_I (qm_i T)), (4, qm_I (qm_i t))]) rfl) ?_
    refine qm_G.s1 rfl (qm_x_aload rfl) ?_
    refine qm_G.s1 rfl (qm_x_getfI (v := lim) (hS 35 rfl) hB.1) ?_
    refine qm_G.s1 rfl (qm_x_ineg) ?_
    refine qm_G.s1 rfl (qm_x_istore (lv' := [(6, qm_I (qm_i (-lim))), (5, qm_R (some (0, 40, Int.toNat (t - 1) + 1))), (0, qm_R (some (0, 35, 0))), (1, qm_R (some (0, 17, 0))), (3, qm_I (qm_i T)), (4, qm_I (qm_i t))]) rfl) ?_
    refine qm_G.pk (lv1 := [(0, qm_R (some (0, 35, 0))), (1, qm_R (some (0, 17, 0))), (3, qm_I (qm_i T)), (4, qm_I (qm_i t)), (5, qm_R (some (0, 40, Int.toNat (t - 1) + 1))), (6, qm_I (qm_i (-lim)))]) rfl rfl rfl ?_
    refine qm_d_wea hS hR hB hr hq rr (by omega) (Int.toNat (2 * lim + 1)) (-lim) L (by omega) (by omega) tw (fun L1 eL t1 => ?_)
    refine qm_G.sp (lv1 := [(0, qm_R (some (0, 35, 0))), (1, qm_R (some (0, 17, 0))), (3, qm_I (qm_i T)), (4, qm_I (qm_i t))]) rfl rfl (qm_x_iinc (lv' := [(4, qm_I (qm_i (t + 1))), (0, qm_R (some (0, 35, 0))), (1, qm_R (some (0, 17, 0))), (3, qm_I (qm_i T))]) 1 rfl rfl rfl) ?_
    refine qm_G.s1 rfl (qm_x_goto) ?_
    refine qm_G.pk (lv1 := [(0, qm_R (some (0, 35, 0))), (1, qm_R (some (0, 17, 0))), (3, qm_I (qm_i T)), (4, qm_I (qm_i (t + 1)))]) rfl rfl rfl ?_
    exact ih (t + 1) L1 (by omega) (by omega) (fun a b c d e f => t1 a b c (by omega) e f) (fun L' eL2 t2 => k L' (fun r q i h => (eL2 r q i h).trans (eL r q i h)) t2)
theorem qm_d_weigh {S : List qm_Sh} {J K : qm_J} {L : qm_Ct Int64} {D : qm_Ct UInt64} {R : qm_Ct (Option qm_Rf)} {X : Nat × (Nat → Int32)} {Q : Option qm_V → qm_Hp → Prop} {lim fine T : Int} {Pb Pa rb ra : Int → Int} (hS : qm_Sd S) (hR : qm_Rd R) (hB : qm_Bk J lim Pb Pa) (hr : ∀ (z : Int) (i : Nat), i = Int.toNat (z + 8) → -lim ≤ z → z ≤ lim → J 17 1 i = rb z) (hq : ∀ (z : Int) (i : Nat), i = Int.toNat (z + 8) → -lim ≤ z → z ≤ lim → J 17 2 i = ra z) (rr : ∀ z : Int, -lim ≤ z → z ≤ lim → (0 ≤ rb z ∧ rb z ≤ 6) ∧ (0 ≤ ra z ∧ ra z ≤ 6)) (rf : 0 ≤ fine ∧ fine ≤ 99) (rT : 0 ≤ T ∧ T ≤ 8) (k : ∀ L' : qm_Ct Int64, (∀ r s i, r ≠ 40 → L' r s i = L r s i) → qm_TW Pb Pa lim fine rb ra L' (T + 1) (-lim) → Q none (qm_H S J K L' D R X)) : qm_C qm_P 160 [qm_R (some (0, 35, 0)), qm_R (some (0, 17, 0)), qm_I (qm_i fine), qm_I (qm_i T)] (qm_H S J K L D R X) Q := by
  have rl := hB.2.1
  refine qm_C.go (cd := qm_P160) (lv := [(0, qm_R (some (0, 35, 0))), (1, qm_R (some (0, 17, 0))), (2, qm_I (qm_i fine)), (3, qm_I (qm_i T))]) rfl rfl ?_
  refine qm_G.s1 rfl (qm_x_aload rfl) ?_
  refine qm_G.s1 rfl (qm_x_aload rfl) ?_
  refine qm_G.s1 rfl (qm_x_getfR (q := (some (0, 40, 0))) (hS 35 rfl) (hR 35 4 40 rfl rfl)) ?_
  refine qm_G.s1 rfl (qm_x_pushI 0 rfl) ?_
  refine qm_G.s1 rfl (qm_x_aaldg (hS 40 rfl) rfl rfl (by decide) (by decide)) ?_
  refine qm_G.s1 rfl (qm_x_iload rfl) ?_
  refine qm_G.cmv rfl rfl (hS 35 rfl) rfl ?_
  refine qm_d_fiw hS hR (lim := lim) (fine := fine) hB.1 rl rf (fun L1 eL1 tv1 => ⟨rfl, ?_⟩)
  refine qm_G.s1 rfl (qm_x_pushI 1 rfl) ?_
  refine qm_G.s1 rfl (qm_x_istore (lv' := [(4, qm_I (qm_i 1)), (0, qm_R (some (0, 35, 0))), (1, qm_R (some (0, 17, 0))), (2, qm_I (qm_i fine)), (3, qm_I (qm_i T))]) rfl) ?_
  refine qm_G.pk (lv1 := [(0, qm_R (some (0, 35, 0))), (1, qm_R (some (0, 17, 0))), (3, qm_I (qm_i T)), (4, qm_I (qm_i 1))]) rfl rfl rfl ?_
  exact qm_d_web (fine := fine) hS hR hB hr hq rr rT (Int.toNat T) 1 L1 (by omega) (by omega) (fun a b c d e f => by rw [show a = 0 by omega]; exact tv1 b e (by omega)) (fun L' eL t2 => k L' (fun r q i h => (eL r q i h).trans (eL1 r q i h)) t2)
theorem qm_m_woa {S : List qm_Sh} {J K : qm_J} {D : qm_Ct UInt64} {R : qm_Ct (Option qm_Rf)} {X : Nat × (Nat → Int32)} {Q : Option qm_V → qm_Hp → Prop} {lim fine T a b : Int} {Pb Pa rb ra : Int → Int} (hS : qm_Sd S) (hR : qm_Rd R) (hB : qm_Mb J lim fine Pb Pa) (hr : ∀ (z : Int) (i : Nat), i = Int.toNat (62 + 2 * (z + 8)) → -lim ≤ z → z ≤ lim → J 62 0 i = rb z) (hq : ∀ (z : Int) (i : Nat), i = Int.toNat (62 + 2 * (z + 8) + 1) → -lim ≤ z → z ≤ lim → J 62 0 i = ra z) (rr : ∀ z : Int, -lim ≤ z → z ≤ lim → (0 ≤ rb z ∧ rb z ≤ 6) ∧ (0 ≤ ra z ∧ ra z ≤ 6)) {t : Int} (rt : 0 ≤ t ∧ t ≤ 8) : ∀ (n : Nat) (s : Int) (L : qm_Ct Int64), s + n = lim + 1 → -lim ≤ s → (∀ (z : Int) (i : Nat), i = Int.toNat (8 + z) → -lim ≤ z → z ≤ lim → L 64 0 i = qm_v0 fine z) → qm_TN Pb Pa lim fine rb ra L t s → (∀ L' : qm_Ct Int64, (∀ r s i, r ≠ 66 → L' r s i = L r s i) → qm_TN Pb Pa lim fine rb ra L' t (lim + 1) → qm_G qm_P qm_P193 178 [(0, qm_R (some (0, 61, 0))), (1, qm_I (qm_i a)), (2, qm_I (qm_i T)), (3, qm_I (qm_i b)), (4, qm_I (qm_i lim)), (5, qm_I (qm_i t))] [] (qm_H S J K L' D R X) Q) → qm_G qm_P qm_P193 57 [(0, qm_R (some (0, 61, 0))), (1, qm_I (qm_i a)), (2, qm_I (qm_i T)), (3, qm_I (qm_i b)), (4, qm_I (qm_i lim)), (5, qm_I (qm_i t)), (6, qm_I (qm_i s))] [] (qm_H S J K L D R X) Q := by
  have rl := hB.2.1
  intro n
  induction n with
  | zero =>
    intro s L h1 h2 hv tn k
    have hl := hB.1
    refine qm_G.pk (lv1 := [(0, qm_R (some (0, 61, 0))), (1, qm_I (qm_i a)), (2, qm_I (qm_i T)), (3, qm_I (qm_i b)), (4, qm_I (qm_i lim)), (5, qm_I (qm_i t)), (6, qm_I (qm_i s))]) rfl rfl rfl ?_
    refine qm_G.sp (lv1 := [(0, qm_R (some (0, 61, 0))), (1, qm_I (qm_i a)), (2, qm_I (qm_i T)), (3, qm_I (qm_i b)), (4, qm_I (qm_i lim)), (5, qm_I (qm_i t)), (6, qm_I (qm_i s))]) rfl rfl (qm_x_iload rfl) ?_
    refine qm_G.s1 rfl (qm_x_iload rfl) ?_
    refine qm_G.s1 rfl (qm_x_icmp_gt_t ⟨by omega, by omega⟩ ⟨by omega, by omega⟩ (by omega)) ?_
    refine qm_G.pk (lv1 := [(0, qm_R (some (0, 61, 0))), (1, qm_I (qm_i a)), (2, qm_I (qm_i T)), (3, qm_I (qm_i b)), (4, qm_I (qm_i lim)), (5, qm_I (qm_i t))]) rfl rfl rfl ?_
    exact k L (fun _ _ _ _ => rfl) (fun a b c d e f => tn a b c (by omega) e f)
  | succ n ih =>
    intro s L h1 h2 hv tn k
    have h3 : s ≤ lim := by omega
    have hl := hB.1
    refine qm_G.pk (lv1 := [(0, qm_R (some (0, 61, 0))), (1, qm_I (qm_i a)), (2, qm_I (qm_i T)), (3, qm_I (qm_i b)), (4, qm_I (qm_i lim)), (5, qm_I (qm_i t)), (6, qm_I (qm_i s))]) rfl rfl rfl ?_
    refine qm_G.sp (lv1 := [(0, qm_R (some (0, 61, 0))), (1, qm_I (qm_i a)), (2, qm_I (qm_i T)), (3, qm_I (qm_i b)), (4, qm_I (qm_i lim)), (5, qm_I (qm_i t)), (6, qm_I (qm_i s))]) rfl rfl (qm_x_iload rfl) ?_
    refine qm_G.s1 rfl (qm_x_iload rfl) ?_
    refine qm_G.s1 rfl (qm_x_icmp_gt_f ⟨by omega, by omega⟩ ⟨by omega, by omega⟩ (by omega)) ?_
    refine qm_G.s1 rfl (qm_x_iload rfl) ?_
    refine qm_G.s1 rfl (qm_x_iload rfl) ?_
    refine qm_y_icmp_ne rfl ⟨by omega, by omega⟩ ⟨by omega, by omega⟩ (fun c1 => ?_) (fun c1 => ?_)
    · refine qm_G.sp (lv1 := [(0, qm_R (some (0, 61, 0))), (1, qm_I (qm_i a)), (2, qm_I (qm_i T)), (3, qm_I (qm_i b)), (4, qm_I (qm_i lim)), (5, qm_I (qm_i t)), (6, qm_I (qm_i s))]) rfl rfl (qm_x_aload rfl) ?_
      refine qm_G.s1 rfl (qm_x_getfR (q := (some (0, 62, 0))) (hS 61 rfl) (hR 61 0 62 rfl rfl)) ?_
      refine qm_G.s1 rfl (qm_x_pushI 62 rfl) ?_
      refine qm_G.s1 rfl (qm_x_pushI 2 rfl) ?_
      refine qm_G.s1 rfl (qm_x_iload rfl) ?_
      refine qm_G.s1 rfl (qm_x_pushI 8 rfl) ?_
      refine qm_G.s1 rfl (qm_x_iadd) ?_
      refine qm_G.s1 rfl (qm_x_imul) ?_
      refine qm_G.s1 rfl (qm_x_iadd) ?_
      have g2 := rr s (by omega) (by omega)
      refine qm_G.s1 rfl (qm_x_iald (v := (rb s)) (qm_arS hS rfl rfl) rfl (by omega) (by omega) (by decide) (hr s _ (by omega) (by omega) (by omega))) ?_
      refine qm_G.sp (lv1 := [(0, qm_R (some (0, 61, 0))), (1, qm_I (qm_i a)), (2, qm_I (qm_i T)), (3, qm_I (qm_i b)), (4, qm_I (qm_i lim)), (5, qm_I (qm_i t)), (6, qm_I (qm_i s))]) rfl rfl (qm_x_istore (lv' := [(7, qm_I (qm_i (rb s))), (0, qm_R (some (0, 61, 0))), (1, qm_I (qm_i a)), (2, qm_I (qm_i T)), (3, qm_I (qm_i b)), (4, qm_I (qm_i lim)), (5, qm_I (qm_i t)), (6, qm_I (qm_i s))]) rfl) ?_
      refine qm_G.s1 rfl (qm_x_iload rfl) ?_
      refine qm_G.s1 rfl (qm_x_iload rfl) ?_
      refine qm_G.s1 rfl (qm_x_ineg) ?_
      refine qm_y_icmp_ne rfl ⟨by omega, by omega⟩ ⟨by omega, by omega⟩ (fun c3 => ?_) (fun c3 => ?_)
      · refine qm_G.sp (lv1 := [(0, qm_R (some (0, 61, 0))), (1, qm_I (qm_i a)), (2, qm_I (qm_i T)), (3, qm_I (qm_i b)), (4, qm_I (qm_i lim)), (5, qm_I (qm_i t)), (6, qm_I (qm_i s)), (7, qm_I (qm_i (rb s)))]) rfl rfl (qm_x_aload rfl) ?_
        refine qm_G.s1 rfl (qm_x_getfR (q := (some (0, 62, 0))) (hS 61 rfl) (hR 61 0 62 rfl rfl)) ?_
        refine qm_G.s1 rfl (qm_x_pushI 62 rfl) ?_
        refine qm_G.s1 rfl (qm_x_pushI 2 rfl) ?_
        refine qm_G.s1 rfl (qm_x_iload rfl) ?_
        refine qm_G.s1 rfl (qm_x_pushI 8 rfl) ?_
        refine qm_G.s1 rfl (qm_x_iadd) ?_
        refine qm_G.s1 rfl (qm_x_imul) ?_
        refine qm_G.s1 rfl (qm_x_iadd) ?_
        refine qm_G.s1 rfl (qm_x_pushI 1 rfl) ?_
        refine qm_G.s1 rfl (qm_x_iadd) ?_
        refine qm_G.s1 rfl (qm_x_iald (v := (ra s)) (qm_arS hS rfl rfl) rfl (by omega) (by omega) (by decide) (hq s _ (by omega) (by omega) (by omega))) ?_
        refine qm_G.sp (lv1 := [(0, qm_R (some (0, 61, 0))), (1, qm_I (qm_i a)), (2, qm_I (qm_i T)), (3, qm_I (qm_i b)), (4, qm_I (qm_i lim)), (5, qm_I (qm_i t)), (6, qm_I (qm_i s)), (7, qm_I (qm_i (rb s)))]) rfl rfl (qm_x_istore (lv' := [(8, qm_I (qm_i (ra s))), (0, qm_R (some (0, 61, 0))), (1, qm_I (qm_i a)), (2, qm_I (qm_i T)), (3, qm_I (qm_i b)), (4, qm_I (qm_i lim)), (5, qm_I (qm_i t)), (6, qm_I (qm_i s)), (7, qm_I (qm_i (rb s)))]) rfl) ?_
        refine qm_G.s1 rfl (qm_x_aload rfl) ?_
        refine qm_G.s1 rfl (qm_x_getfR (q := (some (0, 66, 0))) (hS 61 rfl) (hR 61 9 66 rfl rfl)) ?_
        refine qm_G.s1 rfl (qm_x_iload rfl) ?_
        refine qm_G.s1 rfl (qm_x_iload rfl) ?_
        refine qm_G.cs rfl rfl rfl ?_
        refine qm_C.go (cd := qm_P24) (lv := [(0, qm_I (qm_i t)), (1, qm_I (qm_i s))]) rfl rfl ?_
        refine qm_G.s1 rfl (qm_x_pushI 17 rfl) ?_
        refine qm_G.s1 rfl (qm_x_iload rfl) ?_
        refine qm_G.s1 rfl (qm_x_imul) ?_
        refine qm_G.s1 rfl (qm_x_pushI 8 rfl) ?_
        refine qm_G.s1 rfl (qm_x_iadd) ?_
        refine qm_G.s1 rfl (qm_x_iload rfl) ?_
        refine qm_G.s1 rfl (qm_x_iadd) ?_
        refine qm_G.ret rfl rfl ⟨_, rfl, ?_⟩
        refine qm_G.s1 rfl (qm_x_iload rfl) ?_
        refine qm_y_if_ne rfl ⟨by omega, by omega⟩ (fun c4 => ?_) (fun c4 => ?_)
        · refine qm_G.sp (lv1 := [(0, qm_R (some (0, 61, 0))), (1, qm_I (qm_i a)), (2, qm_I (qm_i T)), (3, qm_I (qm_i b)), (4, qm_I (qm_i lim)), (5, qm_I (qm_i t)), (6, qm_I (qm_i s)), (7, qm_I (qm_i (rb s))), (8, qm_I (qm_i (ra s)))]) rfl rfl (qm_x_aload rfl) ?_
          refine qm_G.s1 rfl (qm_x_aload rfl) ?_
          refine qm_G.s1 rfl (qm_x_getfR (q := (some (0, 66, 0))) (hS 61 rfl) (hR 61 9 66 rfl rfl)) ?_
          refine qm_G.s1 rfl (qm_x_iload rfl) ?_
          refine qm_G.s1 rfl (qm_x_iload rfl) ?_
          refine qm_G.s1 rfl (qm_x_iload rfl) ?_
          refine qm_G.s1 rfl (qm_x_iload rfl) ?_
          refine qm_G.cm rfl rfl (hS 61 rfl) rfl ?_
          refine qm_m_brw hS hR hB (V := qm_WB Pb Pa lim fine rb ra (Int.toNat (t - 1))) (by omega) (by omega) (by omega) (by omega) (fun _ => by omega) (fun _ => by omega) (fun z i hi z1 z2 => by subst hi; exact tn (t - 1) z (by omega) (Or.inl (by omega)) z1 z2) ⟨_, rfl, ?_⟩
          refine qm_G.sp (lv1 := [(0, qm_R (some (0, 61, 0))), (1, qm_I (qm_i a)), (2, qm_I (qm_i T)), (3, qm_I (qm_i b)), (4, qm_I (qm_i lim)), (5, qm_I (qm_i t)), (6, qm_I (qm_i s))]) rfl rfl (qm_x_last (qm_arS hS rfl rfl) rfl (by omega) (by omega) (by decide)) ?_
          refine qm_G.s1 rfl (qm_x_iinc (lv' := [(6, qm_I (qm_i (s + 1))), (0, qm_R (some (0, 61, 0))), (1, qm_I (qm_i a)), (2, qm_I (qm_i T)), (3, qm_I (qm_i b)), (4, qm_I (qm_i lim)), (5, qm_I (qm_i t))]) 1 rfl rfl rfl) ?_
          refine qm_G.s1 rfl (qm_x_goto) ?_
          refine qm_G.pk (lv1 := [(0, qm_R (some (0, 61, 0))), (1, qm_I (qm_i a)), (2, qm_I (qm_i T)), (3, qm_I (qm_i b)), (4, qm_I (qm_i lim)), (5, qm_I (qm_i t)), (6, qm_I (qm_i (s + 1)))]) rfl rfl rfl ?_
          refine ih (s + 1) _ (by omega) (by omega) (fun z i a b c => by rw [qm_st_ne (by omega)]; exact hv z i a b c) (tn.step (by omega) h2 h3 rl.2 (by rw [show Int.toNat t = Int.toNat (t - 1) + 1 by omega]; exact qm_WB_s (if_neg (by omega)) (if_neg (by omega)))) (fun L' eL t2 => k L' (fun r q i h => by rw [eL r q i h, qm_st_ne (by omega)]) t2)
        · refine qm_G.s1 rfl (qm_x_aload rfl) ?_
          refine qm_G.s1 rfl (qm_x_getfR (q := (some (0, 64, 0))) (hS 61 rfl) (hR 61 7 64 rfl rfl)) ?_
          refine qm_G.s1 rfl (qm_x_pushI 0 rfl) ?_
          refine qm_G.s1 rfl (qm_x_iload rfl) ?_
          refine qm_G.cs rfl rfl rfl ?_
          refine qm_C.go (cd := qm_P24) (lv := [(0, qm_I (qm_i 0)), (1, qm_I (qm_i s))]) rfl rfl ?_
          refine qm_G.s1 rfl (qm_x_pushI 17 rfl) ?_
          refine qm_G.s1 rfl (qm_x_iload rfl) ?_
          refine qm_G.s1 rfl (qm_x_imul) ?_
          refine qm_G.s1 rfl (qm_x_pushI 8 rfl) ?_
          refine qm_G.s1 rfl (qm_x_iadd) ?_
          refine qm_G.s1 rfl (qm_x_iload rfl) ?_
          refine qm_G.s1 rfl (qm_x_iadd) ?_
          refine qm_G.ret rfl rfl ⟨_, rfl, ?_⟩
          refine qm_G.s1 rfl (qm_x_lald (a := (qm_v0 fine s)) (qm_arS hS rfl rfl) rfl (by omega) (by omega) (by decide) (hv s _ (by omega) (by omega) (by omega))) ?_
          refine qm_G.s1 rfl (qm_x_goto) ?_
          refine qm_G.sp (lv1 := [(0, qm_R (some (0, 61, 0))), (1, qm_I (qm_i a)), (2, qm_I (qm_i T)), (3, qm_I (qm_i b)), (4, qm_I (qm_i lim)), (5, qm_I (qm_i t)), (6, qm_I (qm_i s))]) rfl rfl (qm_x_last (qm_arS hS rfl rfl) rfl (by omega) (by omega) (by decide)) ?_
          refine qm_G.s1 rfl (qm_x_iinc (lv' := [(6, qm_I (qm_i (s + 1))), (0, qm_R (some (0, 61, 0))), (1, qm_I (qm_i a)), (2, qm_I (qm_i T)), (3, qm_I (qm_i b)), (4, qm_I (qm_i lim)), (5, qm_I (qm_i t))]) 1 rfl rfl rfl) ?_
          refine qm_G.s1 rfl (qm_x_goto) ?_
          refine qm_G.pk (lv1 := [(0, qm_R (some (0, 61, 0))), (1, qm_I (qm_i a)), (2, qm_I (qm_i T)), (3, qm_I (qm_i b)), (4, qm_I (qm_i lim)), (5, qm_I (qm_i t)), (6, qm_I (qm_i (s + 1)))]) rfl rfl rfl ?_
          refine ih (s + 1) _ (by omega) (by omega) (fun z i a b c => by rw [qm_st_ne (by omega)]; exact hv z i a b c) (tn.step (by omega) h2 h3 rl.2 (by rw [show Int.toNat t = 0 by omega]; rfl)) (fun L' eL t2 => k L' (fun r q i h => by rw [eL r q i h, qm_st_ne (by omega)]) t2)
      · refine qm_G.s1 rfl (qm_x_pushI 6 rfl) ?_
        refine qm_G.s1 rfl (qm_x_goto) ?_
        refine qm_G.sp (lv1 := [(0, qm_R (some (0, 61, 0))), (1, qm_I (qm_i a)), (2, qm_I (qm_i T)), (3, qm_I (qm_i b)), (4, qm_I (qm_i lim)), (5, qm_I (qm_i t)), (6, qm_I (qm_i s)), (7, qm_I (qm_i (rb s)))]) rfl rfl (qm_x_istore (lv' := [(8, qm_I (qm_i 6)), (0, qm_R (some (0, 61, 0))), (1, qm_I (qm_i a)), (2, qm_I (qm_i T)), (3, qm_I (qm_i b)), (4, qm_I (qm_i lim)), (5, qm_I (qm_i t)), (6, qm_I (qm_i s)), (7, qm_I (qm_i (rb s)))]) rfl) ?_
        refine qm_G.s1 rfl (qm_x_aload rfl) ?_
        refine qm_G.s1 rfl (qm_x_getfR (q := (some (0, 66, 0))) (hS 61 rfl) (hR 61 9 66 rfl rfl)) ?_
        refine qm_G.s1 rfl (qm_x_iload rfl) ?_
        refine qm_G.s1 rfl (qm_x_iload rfl) ?_
        refine qm_G.cs rfl rfl rfl ?_
        refine qm_C.go (cd := qm_P24) (lv := [(0, qm_I (qm_i t)), (1, qm_I (qm_i s))]) rfl rfl ?_
        refine qm_G.s1 rfl (qm_x_pushI 17 rfl) ?_
        refine qm_G.s1 rfl (qm_x_iload rfl) ?_
        refine qm_G.s1 rfl (qm_x_imul) ?_
        refine qm_G.s1 rfl (qm_x_pushI 8 rfl) ?_
        refine qm_G.s1 rfl (qm_x_iadd) ?_
        refine qm_G.s1 rfl (qm_x_iload rfl) ?_
        refine qm_G.s1 rfl (qm_x_iadd) ?_
        refine qm_G.ret rfl rfl ⟨_, rfl, ?_⟩
        refine qm_G.s1 rfl (qm_x_iload rfl) ?_
        refine qm_y_if_ne rfl ⟨by omega, by omega⟩ (fun c5 => ?_) (fun c5 => ?_)
        · refine qm_G.sp (lv1 := [(0, qm_R (some (0, 61, 0))), (1, qm_I (qm_i a)), (2, qm_I (qm_i T)), (3, qm_I (qm_i b)), (4, qm_I (qm_i lim)), (5, qm_I (qm_i t)), (6, qm_I (qm_i s)), (7, qm_I (qm_i (rb s))), (8, qm_I (qm_i 6))]) rfl rfl (qm_x_aload rfl) ?_
          refine qm_G.s1 rfl (qm_x_aload rfl) ?_
          refine qm_G.s1 rfl (qm_x_getfR (q := (some (0, 66, 0))) (hS 61 rfl) (hR 61 9 66 rfl rfl)) ?_
          refine qm_G.s1 rfl (qm_x_iload rfl) ?_
          refine qm_G.s1 rfl (qm_x_iload rfl) ?_
          refine qm_G.s1 rfl (qm_x_iload rfl) ?_
          refine qm_G.s1 rfl (qm_x_iload rfl) ?_
          refine qm_G.cm rfl rfl (hS 61 rfl) rfl ?_
          refine qm_m_brw hS hR hB (V := qm_WB Pb Pa lim fine rb ra (Int.toNat (t - 1))) (by omega) (by omega) (by omega) (by omega) (fun _ => by omega) (fun h => absurd h (by rw [hB.2.2.2.2.2.2.2.2.2]; decide)) (fun z i hi z1 z2 => by subst hi; exact tn (t - 1) z (by omega) (Or.inl (by omega)) z1 z2) ⟨_, rfl, ?_⟩
          refine qm_G.sp (lv1 := [(0, qm_R (some (0, 61, 0))), (1, qm_I (qm_i a)), (2, qm_I (qm_i T)), (3, qm_I (qm_i b)), (4, qm_I (qm_i lim)), (5, qm_I (qm_i t)), (6, qm_I (qm_i s))]) rfl rfl (qm_x_last (qm_arS hS rfl rfl) rfl (by omega) (by omega) (by decide)) ?_
          refine qm_G.s1 rfl (qm_x_iinc (lv' := [(6, qm_I (qm_i (s + 1))), (0, qm_R (some (0, 61, 0))), (1, qm_I (qm_i a)), (2, qm_I (qm_i T)), (3, qm_I (qm_i b)), (4, qm_I (qm_i lim)), (5, qm_I (qm_i t))]) 1 rfl rfl rfl) ?_
          refine qm_G.s1 rfl (qm_x_goto) ?_
          refine qm_G.pk (lv1 := [(0, qm_R (some (0, 61, 0))), (1, qm_I (qm_i a)), (2, qm_I (qm_i T)), (3, qm_I (qm_i b)), (4, qm_I (qm_i lim)), (5, qm_I (qm_i t)), (6, qm_I (qm_i (s + 1)))]) rfl rfl rfl ?_
          refine ih (s + 1) _ (by omega) (by omega) (fun z i a b c => by rw [qm_st_ne (by omega)]; exact hv z i a b c) (tn.step (by omega) h2 h3 rl.2 (by rw [show Int.toNat t = Int.toNat (t - 1) + 1 by omega]; exact qm_WB_s (if_neg (by omega)) (if_pos (by omega)))) (fun L' eL t2 => k L' (fun r q i h => by rw [eL r q i h, qm_st_ne (by omega)]) t2)
        · refine qm_G.s1 rfl (qm_x_aload rfl) ?_
          refine qm_G.s1 rfl (qm_x_getfR (q := (some (0, 64, 0))) (hS 61 rfl) (hR 61 7 64 rfl rfl)) ?_
          refine qm_G.s1 rfl (qm_x_pushI 0 rfl) ?_
          refine qm_G.s1 rfl (qm_x_iload rfl) ?_
          refine qm_G.cs rfl rfl rfl ?_
          refine qm_C.go (cd := qm_P24) (lv := [(0, qm_I (qm_i 0)), (1, qm_I (qm_i s))]) rfl rfl ?_
          refine qm_G.s1 rfl (qm_x_pushI 17 rfl) ?_
          refine qm_G.s1 rfl (qm_x_iload rfl) ?_
          refine qm_G.s1 rfl (qm_x_imul) ?_
          refine qm_G.s1 rfl (qm_x_pushI 8 rfl) ?_
          refine qm_G.s1 rfl (qm_x_iadd) ?_
          refine qm_G.s1 rfl (qm_x_iload rfl) ?_
          refine qm_G.s1 rfl (qm_x_iadd) ?_
          refine qm_G.ret rfl rfl ⟨_, rfl, ?_⟩
          refine qm_G.s1 rfl (qm_x_lald (a := (qm_v0 fine s)) (qm_arS hS rfl rfl) rfl (by omega) (by omega) (by decide) (hv s _ (by omega) (by omega) (by omega))) ?_
          refine qm_G.s1 rfl (qm_x_goto) ?_
          refine qm_G.sp (lv1 := [(0, qm_R (some (0, 61, 0))), (1, qm_I (qm_i a)), (2, qm_I (qm_i T)), (3, qm_I (qm_i b)), (4, qm_I (qm_i lim)), (5, qm_I (qm_i t)), (6, qm_I (qm_i s))]) rfl rfl (qm_x_last (qm_arS hS rfl rfl) rfl (by omega) (by omega) (by decide)) ?_
          refine qm_G.s1 rfl (qm_x_iinc (lv' := [(6, qm_I (qm_i (s + 1))), (0, qm_R (some (0, 61, 0))), (1, qm_I (qm_i a)), (2, qm_I (qm_i T)), (3, qm_I (qm_i b)), (4, qm_I (qm_i lim)), (5, qm_I (qm_i t))]) 1 rfl rfl rfl) ?_
          refine qm_G.s1 rfl (qm_x_goto) ?_
          refine qm_G.pk (lv1 := [(0, qm_R (some (0, 61, 0))), (1, qm_I (qm_i a)), (2, qm_I (qm_i T)), (3, qm_I (qm_i b)), (4, qm_I (qm_i lim)), (5, qm_I (qm_i t)), (6, qm_I (qm_i (s + 1)))]) rfl rfl rfl ?_
          refine ih (s + 1) _ (by omega) (by omega) (fun z i a b c => by rw [qm_st_ne (by omega)]; exact hv z i a b c) (tn.step (by omega) h2 h3 rl.2 (by rw [show Int.toNat t = 0 by omega]; rfl)) (fun L' eL t2 => k L' (fun r q i h => by rw [eL r q i h, qm_st_ne (by omega)]) t2)
    · refine qm_G.s1 rfl (qm_x_pushI 6 rfl) ?_
      refine qm_G.s1 rfl (qm_x_goto) ?_
      refine qm_G.sp (lv1 := [(0, qm_R (some (0, 61, 0))), (1, qm_I (qm_i a)), (2, qm_I (qm_i T)), (3, qm_I (qm_i b)), (4, qm_I (qm_i lim)), (5, qm_I (qm_i t)), (6, qm_I (qm_i s))]) rfl rfl (qm_x_istore (lv' := [(7, qm_I (qm_i 6)), (0, qm_R (some (0, 61, 0))), (1, qm_I (qm_i a)), (2, qm_I (qm_i T)), (3, qm_I (qm_i b)), (4, qm_I (qm_i lim)), (5, qm_I (qm_i t)), (6, qm_I (qm_i s))]) rfl) ?_
      refine qm_G.s1 rfl (qm_x_iload rfl) ?_
      refine qm_G.s1 rfl (qm_x_iload rfl) ?_
      refine qm_G.s1 rfl (qm_x_ineg) ?_
      refine qm_G.s1 rfl (qm_x_icmp_ne_t ⟨by omega, by omega⟩ ⟨by omega, by omega⟩ (by omega)) ?_
      refine qm_G.sp (lv1 := [(0, qm_R (some (0, 61, 0))), (1, qm_I (qm_i a)), (2, qm_I (qm_i T)), (3, qm_I (qm_i b)), (4, qm_I (qm_i lim)), (5, qm_I (qm_i t)), (6, qm_I (qm_i s)), (7, qm_I (qm_i 6))]) rfl rfl (qm_x_aload rfl) ?_
      refine qm_G.s1 rfl (qm_x_getfR (q := (some (0, 62, 0))) (hS 61 rfl) (hR 61 0 62 rfl rfl)) ?_
      refine qm_G.s1 rfl (qm_x_pushI 62 rfl) ?_
      refine qm_G.s1 rfl (qm_x_pushI 2 rfl) ?_
      refine qm_G.s1 rfl (qm_x_iload rfl) ?_
      refine qm_G.s1 rfl (qm_x_pushI 8 rfl) ?_
      refine qm_G.s1 rfl (qm_x_iadd) ?_
      refine qm_G.s1 rfl (qm_x_imul) ?_
      refine qm_G.s1 rfl (qm_x_iadd) ?_
      refine qm_G.s1 rfl (qm_x_pushI 1 rfl) ?_
      refine qm_G.s1 rfl (qm_x_iadd) ?_
      have g6 := rr s (by omega) (by omega)
      refine qm_G.s1 rfl (qm_x_iald (v := (ra s)) (qm_arS hS rfl rfl) rfl (by omega) (by omega) (by decide) (hq s _ (by omega) (by omega) (by omega))) ?_
      refine qm_G.sp (lv1 := [(0, qm_R (some (0, 61, 0))), (1, qm_I (qm_i a)), (2, qm_I (qm_i T)), (3, qm_I (qm_i b)), (4, qm_I (qm_i lim)), (5, qm_I (qm_i t)), (6, qm_I (qm_i s)), (7, qm_I (qm_i 6))]) rfl rfl (qm_x_istore (lv' := [(8, qm_I (qm_i (ra s))), (0, qm_R (some (0, 61, 0))), (1, qm_I (qm_i a)), (2, qm_I (qm_i T)), (3, qm_I (qm_i b)), (4, qm_I (qm_i lim)), (5, qm_I (qm_i t)), (6, qm_I (qm_i s)), (7, qm_I (qm_i 6))]) rfl) ?_
      refine qm_G.s1 rfl (qm_x_aload rfl) ?_
      refine qm_G.s1 rfl (qm_x_getfR (q := (some (0, 66, 0))) (hS 61 rfl) (hR 61 9 66 rfl rfl)) ?_
      refine qm_G.s1 rfl (qm_x_iload rfl) ?_
      refine qm_G.s1 rfl (qm_x_iload rfl) ?_
      refine qm_G.cs rfl rfl rfl ?_
      refine qm_C.go (cd := qm_P24) (lv := [(0, qm_I (qm_i t)), (1, qm_I (qm_i s))]) rfl rfl ?_
      refine qm_G.s1 rfl (qm_x_pushI 17 rfl) ?_
      refine qm_G.s1 rfl (qm_x_iload rfl) ?_
      refine qm_G.s1 rfl (qm_x_imul) ?_
      refine qm_G.s1 rfl (qm_x_pushI 8 rfl) ?_
      refine qm_G.s1 rfl (qm_x_iadd) ?_
      refine qm_G.s1 rfl (qm_x_iload rfl) ?_
      refine qm_G.s1 rfl (qm_x_iadd) ?_
      refine qm_G.ret rfl rfl ⟨_, rfl, ?_⟩
      refine qm_G.s1 rfl (qm_x_iload rfl) ?_
      refine qm_y_if_ne rfl ⟨by omega, by omega⟩ (fun c7 => ?_) (fun c7 => ?_)
      · refine qm_G.sp (lv1 := [(0, qm_R (some (0, 61, 0))), (1, qm_I (qm_i a)), (2, qm_I (qm_i T)), (3, qm_I (qm_i b)), (4, qm_I (qm_i lim)), (5, qm_I (qm_i t)), (6, qm_I (qm_i s)), (7, qm_I (qm_i 6)), (8, qm_I (qm_i (ra s)))]) rfl rfl (qm_x_aload rfl) ?_
        refine qm_G.s1 rfl (qm_x_aload rfl) ?_
        refine qm_G.s1 rfl (qm_x_getfR (q := (some (0, 66, 0))) (hS 61 rfl) (hR 61 9 66 rfl rfl)) ?_
        refine qm_G.s1 rfl (qm_x_iload rfl) ?_
        refine qm_G.s1 rfl (qm_x_iload rfl) ?_
        refine qm_G.s1 rfl (qm_x_iload rfl) ?_
        refine qm_G.s1 rfl (qm_x_iload rfl) ?_
        refine qm_G.cm rfl rfl (hS 61 rfl) rfl ?_
        refine qm_m_brw hS hR hB (V := qm_WB Pb Pa lim fine rb ra (Int.toNat (t - 1))) (by omega) (by omega) (by omega) (by omega) (fun h => absurd h (by rw [hB.2.2.2.2.2.2.2.2.1]; decide)) (fun _ => by omega) (fun z i hi z1 z2 => by subst hi; exact tn (t - 1) z (by omega) (Or.inl (by omega)) z1 z2) ⟨_, rfl, ?_⟩
        refine qm_G.sp (lv1 := [(0, qm_R (some (0, 61, 0))), (1, qm_I (qm_i a)), (2, qm_I (qm_i T)), (3, qm_I (qm_i b)), (4, qm_I (qm_i lim)), (5, qm_I (qm_i t)), (6, qm_I (qm_i s))]) rfl rfl (qm_x_last (qm_arS hS rfl rfl) rfl (by omega) (by omega) (by decide)) ?_
        refine qm_G.s1 rfl (qm_x_iinc (lv' := [(6, qm_I (qm_i (s + 1))), (0, qm_R (some (0, 61, 0))), (1, qm_I (qm_i a)), (2, qm_I (qm_i T)), (3, qm_I (qm_i b)), (4, qm_I (qm_i lim)), (5, qm_I (qm_i t))]) 1 rfl rfl rfl) ?_
        refine qm_G.s1 rfl (qm_x_goto) ?_
        refine qm_G.pk (lv1 := [(0, qm_R (some (0, 61, 0))), (1, qm_I (qm_i a)), (2, qm_I (qm_i T)), (3, qm_I (qm_i b)), (4, qm_I (qm_i lim)), (5, qm_I (qm_i t)), (6, qm_I (qm_i (s + 1)))]) rfl rfl rfl ?_
        refine ih (s + 1) _ (by omega) (by omega) (fun z i a b c => by rw [qm_st_ne (by omega)]; exact hv z i a b c) (tn.step (by omega) h2 h3 rl.2 (by rw [show Int.toNat t = Int.toNat (t - 1) + 1 by omega]; exact qm_WB_s (if_pos (by omega)) (if_neg (by omega)))) (fun L' eL t2 => k L' (fun r q i h => by rw [eL r q i h, qm_st_ne (by omega)]) t2)
      · refine qm_G.s1 rfl (qm_x_aload rfl) ?_
        refine qm_G.s1 rfl (qm_x_getfR (q := (some (0, 64, 0))) (hS 61 rfl) (hR 61 7 64 rfl rfl)) ?_
        refine qm_G.s1 rfl (qm_x_pushI 0 rfl) ?_
        refine qm_G.s1 rfl (qm_x_iload rfl) ?_
        refine qm_G.cs rfl rfl rfl ?_
        refine qm_C.go (cd := qm_P24) (lv := [(0, qm_I (qm_i 0)), (1, qm_I (qm_i s))]) rfl rfl ?_
        refine qm_G.s1 rfl (qm_x_pushI 17 rfl) ?_
        refine qm_G.s1 rfl (qm_x_iload rfl) ?_
        refine qm_G.s1 rfl (qm_x_imul) ?_
        refine qm_G.s1 rfl (qm_x_pushI 8 rfl) ?_
        refine qm_G.s1 rfl (qm_x_iadd) ?_
        refine qm_G.s1 rfl (qm_x_iload rfl) ?_
        refine qm_G.s1 rfl (qm_x_iadd) ?_
        refine qm_G.ret rfl rfl ⟨_, rfl, ?_⟩
        refine qm_G.s1 rfl (qm_x_lald (a := (qm_v0 fine s)) (qm_arS hS rfl rfl) rfl (by omega) (by omega) (by decide) (hv s _ (by omega) (by omega) (by omega))) ?_
        refine qm_G.s1 rfl (qm_x_goto) ?_
        refine qm_G.sp (lv1 := [(0, qm_R (some (0, 61, 0))), (1, qm_I (qm_i a)), (2, qm_I (qm_i T)), (3, qm_I (qm_i b)), (4, qm_I (qm_i lim)), (5, qm_I (qm_i t)), (6, qm_I (qm_i s))]) rfl rfl (qm_x_last (qm_arS hS rfl rfl) rfl (by omega) (by omega) (by decide)) ?_
        refine qm_G.s1 rfl (qm_x_iinc (lv' := [(6, qm_I (qm_i (s + 1))), (0, qm_R (some (0, 61, 0))), (1, qm_I (qm_i a)), (2, qm_I (qm_i T)), (3, qm_I (qm_i b)), (4, qm_I (qm_i lim)), (5, qm_I (qm_i t))]) 1 rfl rfl rfl) ?_
        refine qm_G.s1 rfl (qm_x_goto) ?_
        refine qm_G.pk (lv1 := [(0, qm_R (some (0, 61, 0))), (1, qm_I (qm_i a)), (2, qm_I (qm_i T)), (3, qm_I (qm_i b)), (4, qm_I (qm_i lim)), (5, qm_I (qm_i t)), (6, qm_I (qm_i (s + 1)))]) rfl rfl rfl ?_
        refine ih (s + 1) _ (by omega) (by omega) (fun z i a b c => by rw [qm_st_ne (by omega)]; exact hv z i a b c) (tn.step (by omega) h2 h3 rl.2 (by rw [show Int.toNat t = 0 by omega]; rfl)) (fun L' eL t2 => k L' (fun r q i h => by rw [eL r q i h, qm_st_ne (by omega)]) t2)
theorem qm_m_wob {S : List qm_Sh} {J K : qm_J} {D : qm_Ct UInt64} {R : qm_Ct (Option qm_Rf)} {X : Nat × (Nat → Int32)} {Q : Option qm_V → qm_Hp → Prop} {lim fine T a b : Int} {Pb Pa rb ra : Int → Int} (hS : qm_Sd S) (hR : qm_Rd R) (hB : qm_Mb J lim fine Pb Pa) (hr : ∀ (z : Int) (i : Nat), i = Int.toNat (62 + 2 * (z + 8)) → -lim ≤ z → z ≤ lim → J 62 0 i = rb z) (hq : ∀ (z : Int) (i : Nat), i = Int.toNat (62 + 2 * (z + 8) + 1) → -lim ≤ z → z ≤ lim → J 62 0 i = ra z) (rr : ∀ z : Int, -lim ≤ z → z ≤ lim → (0 ≤ rb z ∧ rb z ≤ 6) ∧ (0 ≤ ra z ∧ ra z ≤ 6)) (rT : 0 ≤ T ∧ T ≤ 8) : ∀ (n : Nat) (t : Int) (L : qm_Ct Int64), t + n = T + 1 → 0 ≤ t → (∀ (z : Int) (i : Nat), i = Int.toNat (8 + z) → -lim ≤ z → z ≤ lim → L 64 0 i = qm_v0 fine z) → qm_TN Pb Pa lim fine rb ra L t (-lim) → (∀ L' : qm_Ct Int64, (∀ r s i, r ≠ 66 → L' r s i = L r s i) → qm_TN Pb Pa lim fine rb ra L' (T + 1) (-lim) → qm_G qm_P qm_P193 184 [(0, qm_R (some (0, 61, 0))), (1, qm_I (qm_i a)), (2, qm_I (qm_i T)), (3, qm_I (qm_i b))] [] (qm_H S J K L' D R X) Q) → qm_G qm_P qm_P193 46 [(0, qm_R (some (0, 61, 0))), (1, qm_I (qm_i a)), (2, qm_I (qm_i T)), (3, qm_I (qm_i b)), (4, qm_I (qm_i lim)), (5, qm_I (qm_i t))] [] (qm_H S J K L D R X) Q := by
  have rl := hB.2.1
  intro n
  induction n with
  | zero =>
    intro t L h1 h2 hv tn k
    refine qm_G.pk (lv1 := [(0, qm_R (some (0, 61, 0))), (1, qm_I (qm_i a)), (2, qm_I (qm_i T)), (3, qm_I (qm_i b)), (4, qm_I (qm_i lim)), (5, qm_I (qm_i t))]) rfl rfl rfl ?_
    refine qm_G.sp (lv1 := [(0, qm_R (some (0, 61, 0))), (1, qm_I (qm_i a)), (2, qm_I (qm_i T)), (3, qm_I (qm_i b)), (4, qm_I (qm_i lim)), (5, qm_I (qm_i t))]) rfl rfl (qm_x_iload rfl) ?_
    refine qm_G.s1 rfl (qm_x_iload rfl) ?_
    refine qm_G.s1 rfl (qm_x_icmp_gt_t ⟨by omega, by omega⟩ ⟨by omega, by omega⟩ (by omega)) ?_
    refine qm_G.pk (lv1 := [(0, qm_R (some (0, 61, 0))), (1, qm_I (qm_i a)), (2, qm_I (qm_i T)), (3, qm_I (qm_i b))]) rfl rfl rfl ?_
    exact k L (fun _ _ _ _ => rfl) (fun a b c d e f => tn a b c (by omega) e f)
  | succ n ih =>
    intro t L h1 h2 hv tn k
    have h3 : t ≤ T := by omega
    refine qm_G.pk (lv1 := [(0, qm_R (some (0, 61, 0))), (1, qm_I (qm_i a)), (2, qm_I (qm_i T)), (3, qm_I (qm_i b)), (4, qm_I (qm_i lim)), (5, qm_I (qm_i t))]) rfl rfl rfl ?_
    refine qm_G.sp (lv1 := [(0, qm_R (some (0, 61, 0))), (1, qm_I (qm_i a)), (2, qm_I (qm_i T)), (3, qm_I (qm_i b)), (4, qm_I (qm_i lim)), (5, qm_I (qm_i t))]) rfl rfl (qm_x_iload rfl) ?_
    refine qm_G.s1 rfl (qm_x_iload rfl) ?_
    refine qm_G.s1 rfl (qm_x_icmp_gt_f ⟨by omega, by omega⟩ ⟨by omega, by omega⟩ (by omega)) ?_
    refine qm_G.s1 rfl (qm_x_iload rfl) ?_
    refine qm_G.s1 rfl (qm_x_ineg) ?_
    refine qm_G.s1 rfl (qm_x_istore (lv' := [(6, qm_I (qm_i (-lim))), (0, qm_R (some (0, 61, 0))), (1, qm_I (qm_i a)), (2, qm_I (qm_i T)), (3, qm_I (qm_i b)), (4, qm_I (qm_i lim)), (5, qm_I (qm_i t))]) rfl) ?_
    refine qm_G.pk (lv1 := [(0, qm_R (some (0, 61, 0))), (1, qm_I (qm_i a)), (2, qm_I (qm_i T)), (3, qm_I (qm_i b)), (4, qm_I (qm_i lim)), (5, qm_I (qm_i t)), (6, qm_I (qm_i (-lim)))]) rfl rfl rfl ?_
    refine qm_m_woa hS hR hB hr hq rr (by omega) (Int.toNat (2 * lim + 1)) (-lim) L (by omega) (by omega) hv tn (fun L1 eL t1 => ?_)
    refine qm_G.sp (lv1 := [(0, qm_R (some (0, 61, 0))), (1, qm_I (qm_i a)), (2, qm_I (qm_i T)), (3, qm_I (qm_i b)), (4, qm_I (qm_i lim)), (5, qm_I (qm_i t))]) rfl rfl (qm_x_iinc (lv' := [(5, qm_I (qm_i (t + 1))), (0, qm_R (some (0, 61, 0))), (1, qm_I (qm_i a)), (2, qm_I (qm_i T)), (3, qm_I (qm_i b)), (4, qm_I (qm_i lim))]) 1 rfl rfl rfl) ?_
    refine qm_G.s1 rfl (qm_x_goto) ?_
    refine qm_G.pk (lv1 := [(0, qm_R (some (0, 61, 0))), (1, qm_I (qm_i a)), (2, qm_I (qm_i T)), (3, qm_I (qm_i b)), (4, qm_I (qm_i lim)), (5, qm_I (qm_i (t + 1)))]) rfl rfl rfl ?_
    exact ih (t + 1) L1 (by omega) (by omega) (fun z i a b c => by rw [eL 64 0 i (by decide)]; exact hv z i a b c) (fun a b c d e f => t1 a b c (by omega) e f) (fun L' eL2 t2 => k L' (fun r q i h => (eL2 r q i h).trans (eL r q i h)) t2)
