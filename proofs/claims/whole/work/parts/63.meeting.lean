/-! MEETING: the loops -/
def qm_TE (Pb Pa : Int → Int) (W : Nat → Int → qm_S3) (lim : Int) (D : qm_Ct UInt64) (T s : Int) : Prop := ∀ t x : Int, 0 ≤ t → (t < T ∨ t = T ∧ x < s) → -lim ≤ x → x ≤ lim → D 41 (Int.toNat t + 1) (Int.toNat (x + 8)) = qm_MB Pb Pa W lim (Int.toNat t) x
theorem qm_TE.step {Pb Pa : Int → Int} {W : Nat → Int → qm_S3} {lim T s : Int} {D : qm_Ct UInt64} (h : qm_TE Pb Pa W lim D T s) (hT : 0 ≤ T) (hs : -lim ≤ s) (hl : lim ≤ 8) {v : UInt64} (e : qm_MB Pb Pa W lim (Int.toNat T) s = v) : qm_TE Pb Pa W lim (qm_set D 41 (Int.toNat T + 1) (Int.toNat (s + 8)) v) T (s + 1) := by
  intro t z h0 h1 h2 h3
  by_cases hx : t = T ∧ z = s
  · obtain ⟨c1, c2⟩ := hx
    subst c1 c2
    rw [e]
    exact qm_st_eq
  · rw [qm_st_ne (by omega)]
    exact h t z h0 (by omega) h2 h3
def qm_TF (Pb Pa : Int → Int) (W : Nat → Int → qm_S3) (lim : Int) (D : qm_Ct UInt64) (T s : Int) : Prop := ∀ t x : Int, 0 ≤ t → (t < T ∨ t = T ∧ x < s) → -lim ≤ x → x ≤ lim → D 67 0 (Int.toNat (17 * t + 8 + x)) = qm_MB Pb Pa W lim (Int.toNat t) x
theorem qm_TF.step {Pb Pa : Int → Int} {W : Nat → Int → qm_S3} {lim T s : Int} {D : qm_Ct UInt64} (h : qm_TF Pb Pa W lim D T s) (hT : 0 ≤ T) (hs : -lim ≤ s) (hs2 : s ≤ lim) (hl : lim ≤ 8) {v : UInt64} (e : qm_MB Pb Pa W lim (Int.toNat T) s = v) : qm_TF Pb Pa W lim (qm_set D 67 0 (Int.toNat (17 * T + 8 + s)) v) T (s + 1) := by
  intro t z h0 h1 h2 h3
  by_cases hx : t = T ∧ z = s
  · obtain ⟨c1, c2⟩ := hx
    subst c1 c2
    rw [e]
    exact qm_st_eq
  · rw [qm_st_ne (by omega)]
    exact h t z h0 (by omega) h2 h3
theorem qm_d_ctm {S : List qm_Sh} {J K : qm_J} {L : qm_Ct Int64} {D : qm_Ct UInt64} {R : qm_Ct (Option qm_Rf)} {X : Nat × (Nat → Int32)} {Q : Option qm_V → qm_Hp → Prop} {lim s t : Int} {Pb Pa : Int → Int} {W : Nat → Int → qm_S3} (hS : qm_Sd S) (hR : qm_Rd R) (hB : qm_Bk J lim Pb Pa) (rW : ∀ t s, (0 ≤ (W t s).2.1 ∧ (W t s).2.1 ≤ 6) ∧ (0 ≤ (W t s).2.2 ∧ (W t s).2.2 ≤ 6)) (rs : -lim ≤ s ∧ s ≤ lim) (rt : 0 ≤ t ∧ t ≤ 8) (h38 : 1 ≤ t → J 38 (Int.toNat t + 1) (Int.toNat (s + 8)) = (W (Int.toNat t) s).2.1 ∧ J 39 (Int.toNat t + 1) (Int.toNat (s + 8)) = (W (Int.toNat t) s).2.2) (te : qm_TE Pb Pa W lim D t (-lim)) (k : Q (some (qm_D (qm_MB Pb Pa W lim (Int.toNat t) s))) (qm_H S J K L D R X)) : qm_C qm_P 32 [qm_R (some (0, 35, 0)), qm_I (qm_i s), qm_I (qm_i t)] (qm_H S J K L D R X) Q := by
  obtain ⟨hl, rl, hPb, hPa, rPb, rPa⟩ := hB
  refine qm_C.go (cd := qm_P32) (lv := [(0, qm_R (some (0, 35, 0))), (1, qm_I (qm_i s)), (2, qm_I (qm_i t))]) rfl rfl ?_
  refine qm_G.s1 rfl (qm_x_iload rfl) ?_
  refine qm_G.s1 rfl (qm_x_aload rfl) ?_
  refine qm_G.s1 rfl (qm_x_getfI (v := lim) (hS 35 rfl) hl) ?_
  refine qm_y_icmp_ge rfl ⟨by omega, by omega⟩ ⟨by omega, by omega⟩ (fun c1 => ?_) (fun c1 => ?_)
  · refine qm_G.sp (lv1 := []) rfl rfl (qm_x_push) ?_
    exact qm_G.ret rfl rfl (by rw [qm_MB_e (by omega)] at k; exact k)
  · refine qm_G.s1 rfl (qm_x_iload rfl) ?_
    refine qm_G.s1 rfl (qm_x_aload rfl) ?_
    refine qm_G.s1 rfl (qm_x_getfI (v := lim) (hS 35 rfl) hl) ?_
    refine qm_G.s1 rfl (qm_x_ineg) ?_
    refine qm_y_icmp_gt rfl ⟨by omega, by omega⟩ ⟨by omega, by omega⟩ (fun c2 => ?_) (fun c2 => ?_)
    · refine qm_G.sp (lv1 := [(0, qm_R (some (0, 35, 0))), (1, qm_I (qm_i s)), (2, qm_I (qm_i t))]) rfl rfl (qm_x_iload rfl) ?_
      refine qm_G.s1 rfl (qm_x_pushI 1 rfl) ?_
      refine qm_y_icmp_ge rfl ⟨by omega, by omega⟩ ⟨by decide, by decide⟩ (fun c3 => ?_) (fun c3 => ?_)
      · refine qm_G.sp (lv1 := [(0, qm_R (some (0, 35, 0))), (1, qm_I (qm_i s)), (2, qm_I (qm_i t))]) rfl rfl (qm_x_iload rfl) ?_
        refine qm_G.s1 rfl (qm_x_pushI 8 rfl) ?_
        refine qm_G.s1 rfl (qm_x_iadd) ?_
        refine qm_G.s1 rfl (qm_x_istore (lv' := [(3, qm_I (qm_i (s + 8))), (0, qm_R (some (0, 35, 0))), (1, qm_I (qm_i s)), (2, qm_I (qm_i t))]) rfl) ?_
        refine qm_G.s1 rfl (qm_x_aload rfl) ?_
        refine qm_G.s1 rfl (qm_x_getfR (q := (some (0, 36, 0))) (hS 35 rfl) (hR 35 0 36 rfl rfl)) ?_
        refine qm_G.s1 rfl (qm_x_pushI 0 rfl) ?_
        refine qm_G.s1 rfl (qm_x_aaldg (hS 36 rfl) rfl rfl (by decide) (by decide)) ?_
        refine qm_G.s1 rfl (qm_x_aload rfl) ?_
        refine qm_G.s1 rfl (qm_x_getfR (q := (some (0, 38, 0))) (hS 35 rfl) (hR 35 2 38 rfl rfl)) ?_
        refine qm_G.s1 rfl (qm_x_iload rfl) ?_
        refine qm_G.s1 rfl (qm_x_aaldg (hS 38 rfl) rfl rfl (by omega) (by omega)) ?_
        refine qm_G.s1 rfl (qm_x_iload rfl) ?_
        have w9 := rW (Int.toNat t) s
        refine qm_G.s1 rfl (qm_x_iald (v := ((W (Int.toNat t) s).2.1)) (qm_arS hS rfl rfl) rfl (by omega) (by omega) (by omega) (h38 (by omega)).1) ?_
        have g4 := rPb ((W (Int.toNat t) s).2.1) (by omega) (by omega)
        refine qm_G.s1 rfl (qm_x_iald (v := (Pb ((W (Int.toNat t) s).2.1))) (qm_arS hS rfl rfl) rfl (by omega) (by omega) (by decide) (hPb ((W (Int.toNat t) s).2.1) _ (by omega) (by omega) (by omega))) ?_
        refine qm_G.s1 rfl qm_x_i2d ?_
        refine qm_G.s1 rfl qm_x_push ?_
        have pu := qm_pc_pd (c := Pb ((W (Int.toNat t) s).2.1)) (by omega)
        refine qm_G.s1 rfl (qm_x_ddiv (pu.1.fi (by decide))) ?_
        obtain ⟨u, eu⟩ : ∃ q : UInt64, q = FP.ddiv (FP.i2d (qm_i (Pb ((W (Int.toNat t) s).2.1)))) 4652007308841189376 := ⟨_, rfl⟩
        rw [← eu]
        change qm_pd _ _ (FP.ddiv (FP.i2d (qm_i (Pb ((W (Int.toNat t) s).2.1)))) 4652007308841189376) ∧ qm_pd _ _ (FP.dsub qm_1d (FP.ddiv (FP.i2d (qm_i (Pb ((W (Int.toNat t) s).2.1)))) 4652007308841189376)) at pu
        rw [← eu] at pu
        refine qm_G.s1 rfl (qm_x_dstore (lv' := [(4, qm_D u), (3, qm_I (qm_i (s + 8))), (0, qm_R (some (0, 35, 0))), (1, qm_I (qm_i s)), (2, qm_I (qm_i t))]) rfl) ?_
        refine qm_G.s1 rfl (qm_x_aload rfl) ?_
        refine qm_G.s1 rfl (qm_x_getfR (q := (some (0, 36, 0))) (hS 35 rfl) (hR 35 0 36 rfl rfl)) ?_
        refine qm_G.s1 rfl (qm_x_pushI 1 rfl) ?_
        refine qm_G.s1 rfl (qm_x_aaldg (hS 36 rfl) rfl rfl (by decide) (by decide)) ?_
        refine qm_G.s1 rfl (qm_x_aload rfl) ?_
        refine qm_G.s1 rfl (qm_x_getfR (q := (some (0, 39, 0))) (hS 35 rfl) (hR 35 3 39 rfl rfl)) ?_
        refine qm_G.s1 rfl (qm_x_iload rfl) ?_
        refine qm_G.s1 rfl (qm_x_aaldg (hS 39 rfl) rfl rfl (by omega) (by omega)) ?_
        refine qm_G.s1 rfl (qm_x_iload rfl) ?_
        refine qm_G.s1 rfl (qm_x_iald (v := ((W (Int.toNat t) s).2.2)) (qm_arS hS rfl rfl) rfl (by omega) (by omega) (by omega) (h38 (by omega)).2) ?_
        have g5 := rPa ((W (Int.toNat t) s).2.2) (by omega) (by omega)
        refine qm_G.s1 rfl (qm_x_iald (v := (Pa ((W (Int.toNat t) s).2.2))) (qm_arS hS rfl rfl) rfl (by omega) (by omega) (by decide) (hPa ((W (Int.toNat t) s).2.2) _ (by omega) (by omega) (by omega))) ?_
        refine qm_G.s1 rfl qm_x_i2d ?_
        refine qm_G.s1 rfl qm_x_push ?_
        have pv := qm_pc_pd (c := Pa ((W (Int.toNat t) s).2.2)) (by omega)
        refine qm_G.s1 rfl (qm_x_ddiv (pv.1.fi (by decide))) ?_
        obtain ⟨v, ev⟩ : ∃ q : UInt64, q = FP.ddiv (FP.i2d (qm_i (Pa ((W (Int.toNat t) s).2.2)))) 4652007308841189376 := ⟨_, rfl⟩
        rw [← ev]
        change qm_pd _ _ (FP.ddiv (FP.i2d (qm_i (Pa ((W (Int.toNat t) s).2.2)))) 4652007308841189376) ∧ qm_pd _ _ (FP.dsub qm_1d (FP.ddiv (FP.i2d (qm_i (Pa ((W (Int.toNat t) s).2.2)))) 4652007308841189376)) at pv
        rw [← ev] at pv
        refine qm_G.s1 rfl (qm_x_dstore (lv' := [(6, qm_D v), (4, qm_D u), (3, qm_I (qm_i (s + 8))), (0, qm_R (some (0, 35, 0))), (1, qm_I (qm_i s)), (2, qm_I (qm_i t))]) rfl) ?_
        refine qm_G.s1 rfl (qm_x_aload rfl) ?_
        refine qm_G.s1 rfl (qm_x_getfR (q := (some (0, 41, 0))) (hS 35 rfl) (hR 35 5 41 rfl rfl)) ?_
        refine qm_G.s1 rfl (qm_x_iload rfl) ?_
        refine qm_G.s1 rfl (qm_x_pushI 1 rfl) ?_
        refine qm_G.s1 rfl (qm_x_isub) ?_
        refine qm_G.s1 rfl (qm_x_aaldg (hS 41 rfl) rfl rfl (by omega) (by omega)) ?_
        refine qm_G.s1 rfl (qm_x_iload rfl) ?_
        refine qm_G.s1 rfl (qm_x_dald (a := (qm_MB Pb Pa W lim (Int.toNat (t - 1)) s)) (qm_arS hS rfl rfl) rfl (by omega) (by omega) (by omega) (Eq.trans (congrArg (D 41 (Int.toNat (t - 1) + 1)) (by omega)) (te (t - 1) s (by omega) (Or.inl (by omega)) (by omega) (by omega)))) ?_
        refine qm_G.s1 rfl (qm_x_dstore (lv' := [(8, qm_D (qm_MB Pb Pa W lim (Int.toNat (t - 1)) s)), (6, qm_D v), (4, qm_D u), (3, qm_I (qm_i (s + 8))), (0, qm_R (some (0, 35, 0))), (1, qm_I (qm_i s)), (2, qm_I (qm_i t))]) rfl) ?_
        refine qm_G.s1 rfl (qm_x_aload rfl) ?_
        refine qm_G.s1 rfl (qm_x_getfR (q := (some (0, 41, 0))) (hS 35 rfl) (hR 35 5 41 rfl rfl)) ?_
        refine qm_G.s1 rfl (qm_x_iload rfl) ?_
        refine qm_G.s1 rfl (qm_x_pushI 1 rfl) ?_
        refine qm_G.s1 rfl (qm_x_isub) ?_
        refine qm_G.s1 rfl (qm_x_aaldg (hS 41 rfl) rfl rfl (by omega) (by omega)) ?_
        refine qm_G.s1 rfl (qm_x_iload rfl) ?_
        refine qm_G.s1 rfl (qm_x_pushI 1 rfl) ?_
        refine qm_G.s1 rfl (qm_x_iadd) ?_
        refine qm_G.s1 rfl (qm_x_dald (a := (qm_MB Pb Pa W lim (Int.toNat (t - 1)) (s + 1))) (qm_arS hS rfl rfl) rfl (by omega) (by omega) (by omega) (Eq.trans (congrArg (D 41 (Int.toNat (t - 1) + 1)) (by omega)) (te (t - 1) (s + 1) (by omega) (Or.inl (by omega)) (by omega) (by omega)))) ?_
        refine qm_G.s1 rfl (qm_x_dstore (lv' := [(10, qm_D (qm_MB Pb Pa W lim (Int.toNat (t - 1)) (s + 1))), (8, qm_D (qm_MB Pb Pa W lim (Int.toNat (t - 1)) s)), (6, qm_D v), (4, qm_D u), (3, qm_I (qm_i (s + 8))), (0, qm_R (some (0, 35, 0))), (1, qm_I (qm_i s)), (2, qm_I (qm_i t))]) rfl) ?_
        refine qm_G.s1 rfl (qm_x_aload rfl) ?_
        refine qm_G.s1 rfl (qm_x_getfR (q := (some (0, 41, 0))) (hS 35 rfl) (hR 35 5 41 rfl rfl)) ?_
        refine qm_G.s1 rfl (qm_x_iload rfl) ?_
        refine qm_G.s1 rfl (qm_x_pushI 1 rfl) ?_
        refine qm_G.s1 rfl (qm_x_isub) ?_
        refine qm_G.s1 rfl (qm_x_aaldg (hS 41 rfl) rfl rfl (by omega) (by omega)) ?_
        refine qm_G.s1 rfl (qm_x_iload rfl) ?_
        refine qm_G.s1 rfl (qm_x_pushI 1 rfl) ?_
        refine qm_G.s1 rfl (qm_x_isub) ?_
        refine qm_G.s1 rfl (qm_x_dald (a := (qm_MB Pb Pa W lim (Int.toNat (t - 1)) (s - 1))) (qm_arS hS rfl rfl) rfl (by omega) (by omega) (by omega) (Eq.trans (congrArg (D 41 (Int.toNat (t - 1) + 1)) (by omega)) (te (t - 1) (s - 1) (by omega) (Or.inl (by omega)) (by omega) (by omega)))) ?_
        refine qm_G.s1 rfl (qm_x_dstore (lv' := [(12, qm_D (qm_MB Pb Pa W lim (Int.toNat (t - 1)) (s - 1))), (10, qm_D (qm_MB Pb Pa W lim (Int.toNat (t - 1)) (s + 1))), (8, qm_D (qm_MB Pb Pa W lim (Int.toNat (t - 1)) s)), (6, qm_D v), (4, qm_D u), (3, qm_I (qm_i (s + 8))), (0, qm_R (some (0, 35, 0))), (1, qm_I (qm_i s)), (2, qm_I (qm_i t))]) rfl) ?_
        have mp := qm_MB_pd (lim := lim) rW rPb rPa (Int.toNat (t - 1)) (by omega)
        have f9 := qm_mt pu.1 pu.2 pv.1 pv.2 (mp s) (mp (s + 1)) (mp (s - 1)) (by omega) (by omega) (by omega)
        refine qm_G.s1 rfl (qm_x_dload rfl) ?_
        refine qm_G.s1 rfl (qm_x_dload rfl) ?_
        refine qm_G.s1 rfl (qm_x_dmul f9.2.1.1) ?_
        refine qm_G.s1 rfl (qm_x_dload rfl) ?_
        refine qm_G.s1 rfl (qm_x_dmul f9.2.2.1.1) ?_
        refine qm_G.s1 rfl (qm_x_dload rfl) ?_
        refine qm_G.s1 rfl (qm_x_push) ?_
        refine qm_G.s1 rfl (qm_x_dload rfl) ?_
        refine qm_G.s1 rfl (qm_x_dsub f9.1.2) ?_
        refine qm_G.s1 rfl (qm_x_dmul f9.2.1.2.1) ?_
        refine qm_G.s1 rfl (qm_x_dload rfl) ?_
        refine qm_G.s1 rfl (qm_x_dmul f9.2.2.1.2.1) ?_
        refine qm_G.s1 rfl (qm_x_dadd f9.2.2.2.1.1) ?_
        refine qm_G.s1 rfl (qm_x_push) ?_
        refine qm_G.s1 rfl (qm_x_dload rfl) ?_
        refine qm_G.s1 rfl (qm_x_dsub f9.1.1) ?_
        refine qm_G.s1 rfl (qm_x_dload rfl) ?_
        refine qm_G.s1 rfl (qm_x_dmul f9.2.1.2.2.1) ?_
        refine qm_G.s1 rfl (qm_x_dload rfl) ?_
        refine qm_G.s1 rfl (qm_x_dmul f9.2.2.1.2.2.1) ?_
        refine qm_G.s1 rfl (qm_x_dadd f9.2.2.2.1.2.1) ?_
        refine qm_G.s1 rfl (qm_x_push) ?_
        refine qm_G.s1 rfl (qm_x_dload rfl) ?_
        refine qm_G.s1 rfl (qm_x_dsub f9.1.1) ?_
        refine qm_G.s1 rfl (qm_x_push) ?_
        refine qm_G.s1 rfl (qm_x_dload rfl) ?_
        refine qm_G.s1 rfl (qm_x_dsub f9.1.2) ?_
        refine qm_G.s1 rfl (qm_x_dmul f9.2.1.2.2.2) ?_
        refine qm_G.s1 rfl (qm_x_dload rfl) ?_
        refine qm_G.s1 rfl (qm_x_dmul f9.2.2.1.2.2.2) ?_
        refine qm_G.s1 rfl (qm_x_dadd f9.2.2.2.1.2.2) ?_
        have k9 : qm_MB Pb Pa W lim (Int.toNat t) s = qm_mx u v (qm_MB Pb Pa W lim (Int.toNat (t - 1)) s) (qm_MB Pb Pa W lim (Int.toNat (t - 1)) (s + 1)) (qm_MB Pb Pa W lim (Int.toNat (t - 1)) (s - 1)) := by
          have h9 := qm_MB_s (Pb := Pb) (Pa := Pa) (W := W) (lim := lim) (s := s) (t := Int.toNat (t - 1)) (by omega)
          rw [show Int.toNat (t - 1) + 1 = Int.toNat t by omega] at h9
          rw [h9, eu, ev]
        rw [k9] at k
        exact qm_G.ret rfl rfl k
      · refine qm_G.s1 rfl (qm_x_push) ?_
        exact qm_G.ret rfl rfl (by rw [show Int.toNat t = 0 by omega, qm_MB_0 (by omega)] at k; exact k)
    · refine qm_G.sp (lv1 := []) rfl rfl (qm_x_push) ?_
      exact qm_G.ret rfl rfl (by rw [qm_MB_e (by omega)] at k; exact k)
theorem qm_d_mea {S : List qm_Sh} {J K : qm_J} {L : qm_Ct Int64} {R : qm_Ct (Option qm_Rf)} {X : Nat × (Nat → Int32)} {Q : Option qm_V → qm_Hp → Prop} {lim T : Int} {Pb Pa : Int → Int} {W : Nat → Int → qm_S3} (hS : qm_Sd S) (hR : qm_Rd R) (hB : qm_Bk J lim Pb Pa) (rW : ∀ t s, (0 ≤ (W t s).2.1 ∧ (W t s).2.1 ≤ 6) ∧ (0 ≤ (W t s).2.2 ∧ (W t s).2.2 ≤ 6)) (h38 : ∀ t x : Int, 1 ≤ t → t ≤ T → -lim ≤ x → x ≤ lim → J 38 (Int.toNat t + 1) (Int.toNat (x + 8)) = (W (Int.toNat t) x).2.1 ∧ J 39 (Int.toNat t + 1) (Int.toNat (x + 8)) = (W (Int.toNat t) x).2.2) (rT : 0 ≤ T ∧ T ≤ 8) {t : Int} (rt : 0 ≤ t ∧ t ≤ T) : ∀ (n : Nat) (s : Int) (D : qm_Ct UInt64), s + n = lim + 1 → -lim ≤ s → qm_TE Pb Pa W lim D t s → (∀ D' : qm_Ct UInt64, (∀ r s i, r ≠ 41 → D' r s i = D r s i) → qm_TE Pb Pa W lim D' t (lim + 1) → qm_G qm_P qm_P106 50 [(0, qm_R (some (0, 35, 0))), (1, qm_I (qm_i T)), (2, qm_I (qm_i t))] [] (qm_H S J K L D' R X) Q) → qm_G qm_P qm_P106 19 [(0, qm_R (some (0, 35, 0))), (1, qm_I (qm_i T)), (2, qm_I (qm_i t)), (3, qm_I (qm_i s))] [] (qm_H S J K L D R X) Q := by
  have rl := hB.2.1
  intro n
  induction n with
  | zero =>
    intro s D h1 h2 te k
    refine qm_G.pk (lv1 := [(0, qm_R (some (0, 35, 0))), (1, qm_I (qm_i T)), (2, qm_I (qm_i t)), (3, qm_I (qm_i s))]) rfl rfl rfl ?_
    refine qm_G.sp (lv1 := [(0, qm_R (some (0, 35, 0))), (1, qm_I (qm_i T)), (2, qm_I (qm_i t)), (3, qm_I (qm_i s))]) rfl rfl (qm_x_iload rfl) ?_
    refine qm_G.s1 rfl (qm_x_aload rfl) ?_
    refine qm_G.s1 rfl (qm_x_getfI (v := lim) (hS 35 rfl) hB.1) ?_
    refine qm_G.s1 rfl (qm_x_icmp_gt_t ⟨by omega, by omega⟩ ⟨by omega, by omega⟩ (by omega)) ?_
    refine qm_G.pk (lv1 := [(0, qm_R (some (0, 35, 0))), (1, qm_I (qm_i T)), (2, qm_I (qm_i t))]) rfl rfl rfl ?_
    exact k D (fun _ _ _ _ => rfl) (fun a b c d e f => te a b c (by omega) e f)
  | succ n ih =>
    intro s D h1 h2 te k
    have h3 : s ≤ lim := by omega
    refine qm_G.pk (lv1 := [(0, qm_R (some (0, 35, 0))), (1, qm_I (qm_i T)), (2, qm_I (qm_i t)), (3, qm_I (qm_i s))]) rfl rfl rfl ?_
    refine qm_G.sp (lv1 := [(0, qm_R (some (0, 35, 0))), (1, qm_I (qm_i T)), (2, qm_I (qm_i t)), (3, qm_I (qm_i s))]) rfl rfl (qm_x_iload rfl) ?_
    refine qm_G.s1 rfl (qm_x_aload rfl) ?_
    refine qm_G.s1 rfl (qm_x_getfI (v := lim) (hS 35 rfl) hB.1) ?_
    refine qm_G.s1 rfl (qm_x_icmp_gt_f ⟨by omega, by omega⟩ ⟨by omega, by omega⟩ (by omega)) ?_
    refine qm_G.s1 rfl (qm_x_aload rfl) ?_
    refine qm_G.s1 rfl (qm_x_getfR (q := (some (0, 41, 0))) (hS 35 rfl) (hR 35 5 41 rfl rfl)) ?_
    refine qm_G.s1 rfl (qm_x_iload rfl) ?_
    refine qm_G.s1 rfl (qm_x_aaldg (hS 41 rfl) rfl rfl (by omega) (by omega)) ?_
    refine qm_G.s1 rfl (qm_x_iload rfl) ?_
    refine qm_G.s1 rfl (qm_x_pushI 8 rfl) ?_
    refine qm_G.s1 rfl (qm_x_iadd) ?_
    refine qm_G.s1 rfl (qm_x_aload rfl) ?_
    refine qm_G.s1 rfl (qm_x_iload rfl) ?_
    refine qm_G.s1 rfl (qm_x_iload rfl) ?_
    refine qm_G.cm rfl rfl (hS 35 rfl) rfl ?_
    refine qm_d_ctm (W := W) hS hR hB rW (by omega) (by omega) (fun h9 => h38 t s h9 (by omega) (by omega) (by omega)) (fun a b c d e f => te a b c (by omega) e f) ⟨_, rfl, ?_⟩
    refine qm_G.s1 rfl (qm_x_dast (qm_arS hS rfl rfl) rfl (by omega) (by omega) (by omega)) ?_
    refine qm_G.s1 rfl (qm_x_iinc (lv' := [(3, qm_I (qm_i (s + 1))), (0, qm_R (some (0, 35, 0))), (1, qm_I (qm_i T)), (2, qm_I (qm_i t))]) 1 rfl rfl rfl) ?_
    refine qm_G.s1 rfl (qm_x_goto) ?_
    refine qm_G.pk (lv1 := [(0, qm_R (some (0, 35, 0))), (1, qm_I (qm_i T)), (2, qm_I (qm_i t)), (3, qm_I (qm_i (s + 1)))]) rfl rfl rfl ?_
    refine ih (s + 1) _ (by omega) (by omega) (te.step (by omega) h2 rl.2 rfl) (fun D' eD t2 => k D' (fun r q i h => by rw [eD r q i h, qm_st_ne (by omega)]) t2)
theorem qm_d_meb {S : List qm_Sh} {J K : qm_J} {L : qm_Ct Int64} {R : qm_Ct (Option qm_Rf)} {X : Nat × (Nat → Int32)} {Q : Option qm_V → qm_Hp → Prop} {lim T : Int} {Pb Pa : Int → Int} {W : Nat → Int → qm_S3} (hS : qm_Sd S) (hR : qm_Rd R) (hB : qm_Bk J lim Pb Pa) (rW : ∀ t s, (0 ≤ (W t s).2.1 ∧ (W t s).2.1 ≤ 6) ∧ (0 ≤ (W t s).2.2 ∧ (W t s).2.2 ≤ 6)) (h38 : ∀ t x : Int, 1 ≤ t → t ≤ T → -lim ≤ x → x ≤ lim → J 38 (Int.toNat t + 1) (Int.toNat (x + 8)) = (W (Int.toNat t) x).2.1 ∧ J 39 (Int.toNat t + 1) (Int.toNat (x + 8)) = (W (Int.toNat t) x).2.2) (rT : 0 ≤ T ∧ T ≤ 8) : ∀ (n : Nat) (t : Int) (D : qm_Ct UInt64), t + n = T + 1 → 0 ≤ t → qm_TE Pb Pa W lim D t (-lim) → (∀ D' : qm_Ct UInt64, (∀ r s i, r ≠ 41 → D' r s i = D r s i) → qm_TE Pb Pa W lim D' (T + 1) (-lim) → Q none (qm_H S J K L D' R X)) → qm_G qm_P qm_P106 2 [(0, qm_R (some (0, 35, 0))), (1, qm_I (qm_i T)), (2, qm_I (qm_i t))] [] (qm_H S J K L D R X) Q := by
  have rl := hB.2.1
  intro n
  induction n with
  | zero =>
    intro t D h1 h2 te k
    refine qm_G.pk (lv1 := [(0, qm_R (some (0, 35, 0))), (1, qm_I (qm_i T)), (2, qm_I (qm_i t))]) rfl rfl rfl ?_
    refine qm_G.sp (lv1 := [(0, qm_R (some (0, 35, 0))), (1, qm_I (qm_i T)), (2, qm_I (qm_i t))]) rfl rfl (qm_x_iload rfl) ?_
    refine qm_G.s1 rfl (qm_x_iload rfl) ?_
    refine qm_G.s1 rfl (qm_x_icmp_gt_t ⟨by omega, by omega⟩ ⟨by omega, by omega⟩ (by omega)) ?_
    exact qm_G.retv rfl (k D (fun _ _ _ _ => rfl) (fun a b c d e f => te a b c (by omega) e f))
  | succ n ih =>
    intro t D h1 h2 te k
    have h3 : t ≤ T := by omega
    refine qm_G.pk (lv1 := [(0, qm_R (some (0, 35, 0))), (1, qm_I (qm_i T)), (2, qm_I (qm_i t))]) rfl rfl rfl ?_
    refine qm_G.sp (lv1 := [(0, qm_R (some (0, 35, 0))), (1, qm_I (qm_i T)), (2, qm_I (qm_i t))]) rfl rfl (qm_x_iload rfl) ?_
    refine qm_G.s1 rfl (qm_x_iload rfl) ?_
    refine qm_G.s1 rfl (qm_x_icmp_gt_f ⟨by omega, by omega⟩ ⟨by omega, by omega⟩ (by omega)) ?_
    refine qm_G.s1 rfl (qm_x_iload rfl) ?_
    refine qm_G.s1 rfl (qm_x_pushI 8 rfl) ?_
    refine qm_G.s1 rfl (qm_x_icmp_gt_f ⟨by omega, by omega⟩ ⟨by decide, by decide⟩ (by omega)) ?_
    refine qm_G.s1 rfl (qm_x_aload rfl) ?_
    refine qm_G.s1 rfl (qm_x_getfI (v := lim) (hS 35 rfl) hB.1) ?_
    refine qm_G.s1 rfl (qm_x_ineg) ?_
    refine qm_G.s1 rfl (qm_x_istore (lv' := [(3, qm_I (qm_i (-lim))), (0, qm_R (some (0, 35, 0))), (1, qm_I (qm_i T)), (2, qm_I (qm_i t))]) rfl) ?_
    refine qm_G.pk (lv1 := [(0, qm_R (some (0, 35, 0))), (1, qm_I (qm_i T)), (2, qm_I (qm_i t)), (3, qm_I (qm_i (-lim)))]) rfl rfl rfl ?_
    refine qm_d_mea hS hR hB rW h38 rT (by omega) (Int.toNat (2 * lim + 1)) (-lim) D (by omega) (by omega) te (fun D1 eD t1 => ?_)
    refine qm_G.sp (lv1 := [(0, qm_R (some (0, 35, 0))), (1, qm_I (qm_i T)), (2, qm_I (qm_i t))]) rfl rfl (qm_x_iinc (lv' := [(2, qm_I (qm_i (t + 1))), (0, qm_R (some (0, 35, 0))), (1, qm_I (qm_i T))]) 1 rfl rfl rfl) ?_
    refine qm_G.s1 rfl (qm_x_goto) ?_
    refine qm_G.pk (lv1 := [(0, qm_R (some (0, 35, 0))), (1, qm_I (qm_i T)), (2, qm_I (qm_i (t + 1)))]) rfl rfl rfl ?_
    exact ih (t + 1) D1 (by omega) (by omega) (fun a b c d e f => t1 a b c (by omega) e f) (fun D' eD2 t2 => k D' (fun r q i h => (eD2 r q i h).trans (eD r q i h)) t2)
theorem qm_d_meet {S : List qm_Sh} {J K : qm_J} {L : qm_Ct Int64} {D : qm_Ct UInt64} {R : qm_Ct (Option qm_Rf)} {X : Nat × (Nat → Int32)} {Q : Option qm_V → qm_Hp → Prop} {lim T : Int} {Pb Pa : Int → Int} {W : Nat → Int → qm_S3} (hS : qm_Sd S) (hR : qm_Rd R) (hB : qm_Bk J lim Pb Pa) (rW : ∀ t s, (0 ≤ (W t s).2.1 ∧ (W t s).2.1 ≤ 6) ∧ (0 ≤ (W t s).2.2 ∧ (W t s).2.2 ≤ 6)) (h38 : ∀ t x : Int, 1 ≤ t → t ≤ T → -lim ≤ x → x ≤ lim → J 38 (Int.toNat t + 1) (Int.toNat (x + 8)) = (W (Int.toNat t) x).2.1 ∧ J 39 (Int.toNat t + 1) (Int.toNat (x + 8)) = (W (Int.toNat t) x).2.2) (rT : 0 ≤ T ∧ T ≤ 8) (k : ∀ D' : qm_Ct UInt64, (∀ r s i, r ≠ 41 → D' r s i = D r s i) → qm_TE Pb Pa W lim D' (T + 1) (-lim) → Q none (qm_H S J K L D' R X)) : qm_C qm_P 106 [qm_R (some (0, 35, 0)), qm_I (qm_i T)] (qm_H S J K L D R X) Q := by
  refine qm_C.go (cd := qm_P106) (lv := [(0, qm_R (some (0, 35, 0))), (1, qm_I (qm_i T))]) rfl rfl ?_
  refine qm_G.s1 rfl (qm_x_pushI 0 rfl) ?_
  refine qm_G.s1 rfl (qm_x_istore (lv' := [(2, qm_I (qm_i 0)), (0, qm_R (some (0, 35, 0))), (1, qm_I (qm_i T))]) rfl) ?_
  refine qm_G.pk (lv1 := [(0, qm_R (some (0, 35, 0))), (1, qm_I (qm_i T)), (2, qm_I (qm_i 0))]) rfl rfl rfl ?_
  exact qm_d_meb hS hR hB rW h38 rT (Int.toNat (T + 1)) 0 D (by omega) (by decide) (fun a b c d e f => absurd e (by omega)) k
theorem qm_m_mea {S : List qm_Sh} {J K : qm_J} {L : qm_Ct Int64} {R : qm_Ct (Option qm_Rf)} {X : Nat × (Nat → Int32)} {Q : Option qm_V → qm_Hp → Prop} {lim fine T a : Int} {Pb Pa : Int → Int} {W : Nat → Int → qm_S3} (hS : qm_Sd S) (hR : qm_Rd R) (hB : qm_Mb J lim fine Pb Pa) (rW : ∀ t s, (0 ≤ (W t s).2.1 ∧ (W t s).2.1 ≤ 6) ∧ (0 ≤ (W t s).2.2 ∧ (W t s).2.2 ≤ 6)) (h65 : ∀ t x : Int, 1 ≤ t → t ≤ 8 → -lim ≤ x → x ≤ lim → J 65 0 (Int.toNat (17 * t + 8 + x)) = 10 * (W (Int.toNat t) x).2.1 + (W (Int.toNat t) x).2.2) (rT : 0 ≤ T ∧ T ≤ 8) {t : Int} (rt : 0 ≤ t ∧ t ≤ T) : ∀ (n : Nat) (s : Int) (D : qm_Ct UInt64), s + n = lim + 1 → -lim ≤ s → qm_TF Pb Pa W lim D t s → (∀ D' : qm_Ct UInt64, (∀ r s i, r ≠ 67 → D' r s i = D r s i) → qm_TF Pb Pa W lim D' t (lim + 1) → qm_G qm_P qm_P191 255 [(0, qm_R (some (0, 61, 0))), (1, qm_I (qm_i a)), (2, qm_I (qm_i T)), (3, qm_I (qm_i lim)), (4, qm_I (qm_i t))] [] (qm_H S J K L D' R X) Q) → qm_G qm_P qm_P191 46 [(0, qm_R (some (0, 61, 0))), (1, qm_I (qm_i a)), (2, qm_I (qm_i T)), (3, qm_I (qm_i lim)), (4, qm_I (qm_i t)), (5, qm_I (qm_i s))] [] (qm_H S J K L D R X) Q := by
  obtain ⟨hl, rl, hf, rf, hPb, hPa, rPb, rPa, p6, q6⟩ := hB
  intro n
  induction n with
  | zero =>
    intro s D h1 h2 tf k
    refine qm_G.pk (lv1 := [(0, qm_R (some (0, 61, 0))), (1, qm_I (qm_i a)), (2, qm_I (qm_i T)), (3, qm_I (qm_i lim)), (4, qm_I (qm_i t)), (5, qm_I (qm_i s))]) rfl rfl rfl ?_
    refine qm_G.sp (lv1 := [(0, qm_R (some (0, 61, 0))), (1, qm_I (qm_i a)), (2, qm_I (qm_i T)), (3, qm_I (qm_i lim)), (4, qm_I (qm_i t)), (5, qm_I (qm_i s))]) rfl rfl (qm_x_iload rfl) ?_
    refine qm_G.s1 rfl (qm_x_iload rfl) ?_
    refine qm_G.s1 rfl (qm_x_icmp_gt_t ⟨by omega, by omega⟩ ⟨by omega, by omega⟩ (by omega)) ?_
    refine qm_G.pk (lv1 := [(0, qm_R (some (0, 61, 0))), (1, qm_I (qm_i a)), (2, qm_I (qm_i T)), (3, qm_I (qm_i lim)), (4, qm_I (qm_i t))]) rfl rfl rfl ?_
    exact k D (fun _ _ _ _ => rfl) (fun a b c d e f => tf a b c (by omega) e f)
  | succ n ih =>
    intro s D h1 h2 tf k
    have h3 : s ≤ lim := by omega
    have w9 := rW (Int.toNat t) s
    refine qm_G.pk (lv1 := [(0, qm_R (some (0, 61, 0))), (1, qm_I (qm_i a)), (2, qm_I (qm_i T)), (3, qm_I (qm_i lim)), (4, qm_I (qm_i t)), (5, qm_I (qm_i s))]) rfl rfl rfl ?_
    refine qm_G.sp (lv1 := [(0, qm_R (some (0, 61, 0))), (1, qm_I (qm_i a)), (2, qm_I (qm_i T)), (3, qm_I (qm_i lim)), (4, qm_I (qm_i t)), (5, qm_I (qm_i s))]) rfl rfl (qm_x_iload rfl) ?_
    refine qm_G.s1 rfl (qm_x_iload rfl) ?_
    refine qm_G.s1 rfl (qm_x_icmp_gt_f ⟨by omega, by omega⟩ ⟨by omega, by omega⟩ (by omega)) ?_
    refine qm_G.s1 rfl (qm_x_iload rfl) ?_
    refine qm_G.s1 rfl (qm_x_iload rfl) ?_
    refine qm_G.cs rfl rfl rfl ?_
    refine qm_C.go (cd := qm_P24) (lv := [(0, qm_I (qm_i t)), (1, qm_I (qm_i s))]) rfl rfl ?_
    refine qm_G.s1 rfl (qm_x_pushI 17 rfl) ?_
    refine qm_G.s1 rfl (qm_x_iload rfl) ?_
    refine qm_G.s1 rfl (qm_x_imul) ?_
    refine qm_G.s1 rfl (qm_x_pushI 8 rfl) ?_
    refine qm_G.s1 rfl (qm_x_iadd) ?_
    refine qm_G.s1 rfl (qm_x_iload rfl) ?_
    refine qm_G.s1 rfl (qm_x_iadd) ?_
    refine qm_G.ret rfl rfl ⟨_, rfl, ?_⟩
    refine qm_G.s1 rfl (qm_x_istore (lv' := [(6, qm_I (qm_i (((17 * t) + 8) + s))), (0, qm_R (some (0, 61, 0))), (1, qm_I (qm_i a)), (2, qm_I (qm_i T)), (3, qm_I (qm_i lim)), (4, qm_I (qm_i t)), (5, qm_I (qm_i s))]) rfl) ?_
    refine qm_G.s1 rfl (qm_x_aload rfl) ?_
    refine qm_G.s1 rfl (qm_x_getfR (q := (some (0, 67, 0))) (hS 61 rfl) (hR 61 10 67 rfl rfl)) ?_
    refine qm_G.s1 rfl (qm_x_iload rfl) ?_
    refine qm_G.s1 rfl (qm_x_iload rfl) ?_
    refine qm_G.s1 rfl (qm_x_iload rfl) ?_
    refine qm_y_icmp_eq rfl ⟨by omega, by omega⟩ ⟨by omega, by omega⟩ (fun c1 => ?_) (fun c1 => ?_)
    · refine qm_G.sp (lv1 := [(0, qm_R (some (0, 61, 0))), (1, qm_I (qm_i a)), (2, qm_I (qm_i T)), (3, qm_I (qm_i lim)), (4, qm_I (qm_i t)), (5, qm_I (qm_i s)), (6, qm_I (qm_i (((17 * t) + 8) + s)))]) rfl rfl (qm_x_push) ?_
      refine qm_G.s1 rfl (qm_x_goto) ?_
      refine qm_G.sp (lv1 := [(0, qm_R (some (0, 61, 0))), (1, qm_I (qm_i a)), (2, qm_I (qm_i T)), (3, qm_I (qm_i lim)), (4, qm_I (qm_i t)), (5, qm_I (qm_i s)), (6, qm_I (qm_i (((17 * t) + 8) + s)))]) rfl rfl (qm_x_dast (qm_arS hS rfl rfl) rfl (by omega) (by omega) (by decide)) ?_
      refine qm_G.s1 rfl (qm_x_iload rfl) ?_
      refine qm_y_if_eq rfl ⟨by omega, by omega⟩ (fun c2 => ?_) (fun c2 => ?_)
      · refine qm_G.sp (lv1 := [(0, qm_R (some (0, 61, 0))), (1, qm_I (qm_i a)), (2, qm_I (qm_i T)), (3, qm_I (qm_i lim)), (4, qm_I (qm_i t)), (5, qm_I (qm_i s))]) rfl rfl (qm_x_iinc (lv' := [(5, qm_I (qm_i (s + 1))), (0, qm_R (some (0, 61, 0))), (1, qm_I (qm_i a)), (2, qm_I (qm_i T)), (3, qm_I (qm_i lim)), (4, qm_I (qm_i t))]) 1 rfl rfl rfl) ?_
        refine qm_G.s1 rfl (qm_x_goto) ?_
        refine qm_G.pk (lv1 := [(0, qm_R (some (0, 61, 0))), (1, qm_I (qm_i a)), (2, qm_I (qm_i T)), (3, qm_I (qm_i lim)), (4, qm_I (qm_i t)), (5, qm_I (qm_i (s + 1)))]) rfl rfl rfl ?_
        refine ih (s + 1) _ (by omega) (by omega) (tf.step (by omega) h2 h3 rl.2 (qm_MB_e (by omega))) (fun D' eD t2 => k D' (fun r q i h => by rw [eD r q i h, qm_st_ne (by omega)]) t2)
      · refine qm_G.s1 rfl (qm_x_aload rfl) ?_
        refine qm_G.s1 rfl (qm_x_getfR (q := (some (0, 67, 0))) (hS 61 rfl) (hR 61 10 67 rfl rfl)) ?_
        refine qm_G.s1 rfl (qm_x_iload rfl) ?_
        refine qm_G.s1 rfl (qm_x_dald (a := 4607182418800017408) (qm_arS hS rfl rfl) rfl (by omega) (by omega) (by decide) (by unfold qm_set; rw [if_pos ⟨rfl, rfl, by omega⟩] <;> rfl)) ?_
        refine qm_G.s1 rfl (qm_x_push) ?_
        refine qm_y_dcmp (x := 4607182418800017408) (y := 4602678819172646912) rfl (by decide) (by decide) (by omega) (by omega) (fun c3 => absurd c3 (by omega)) (fun c3 => absurd c3 (by omega)) (fun c3 => ?_)
        refine qm_G.s1 rfl (qm_x_if_le_f ⟨by decide, by decide⟩ (by decide)) ?_
        refine qm_G.s1 rfl (qm_x_goto) ?_
        refine qm_G.sp (lv1 := [(0, qm_R (some (0, 61, 0))), (1, qm_I (qm_i a)), (2, qm_I (qm_i T)), (3, qm_I (qm_i lim)), (4, qm_I (qm_i t)), (5, qm_I (qm_i s))]) rfl rfl (qm_x_iinc (lv' := [(5, qm_I (qm_i (s + 1))), (0, qm_R (some (0, 61, 0))), (1, qm_I (qm_i a)), (2, qm_I (qm_i T)), (3, qm_I (qm_i lim)), (4, qm_I (qm_i t))]) 1 rfl rfl rfl) ?_
        refine qm_G.s1 rfl (qm_x_goto) ?_
        refine qm_G.pk (lv1 := [(0, qm_R (some (0, 61, 0))), (1, qm_I (qm_i a)), (2, qm_I (qm_i T)), (3, qm_I (qm_i lim)), (4, qm_I (qm_i t)), (5, qm_I (qm_i (s + 1)))]) rfl rfl rfl ?_
        refine ih (s + 1) _ (by omega) (by omega) (tf.step (by omega) h2 h3 rl.2 (qm_MB_e (by omega))) (fun D' eD t2 => k D' (fun r q i h => by rw [eD r q i h, qm_st_ne (by omega)]) t2)
    · refine qm_G.s1 rfl (qm_x_iload rfl) ?_
      refine qm_G.s1 rfl (qm_x_iload rfl) ?_
      refine qm_G.s1 rfl (qm_x_ineg) ?_
      refine qm_y_icmp_ne rfl ⟨by omega, by omega⟩ ⟨by omega, by omega⟩ (fun c4 => ?_) (fun c4 => ?_)
      · refine qm_G.sp (lv1 := [(0, qm_R (some (0, 61, 0))), (1, qm_I (qm_i a)), (2, qm_I (qm_i T)), (3, qm_I (qm_i lim)), (4, qm_I (qm_i t)), (5, qm_I (qm_i s)), (6, qm_I (qm_i (((17 * t) + 8) + s)))]) rfl rfl (qm_x_push) ?_
        refine qm_G.sp (lv1 := [(0, qm_R (some (0, 61, 0))), (1, qm_I (qm_i a)), (2, qm_I (qm_i T)), (3, qm_I (qm_i lim)), (4, qm_I (qm_i t)), (5, qm_I (qm_i s)), (6, qm_I (qm_i (((17 * t) + 8) + s)))]) rfl rfl (qm_x_dast (qm_arS hS rfl rfl) rfl (by omega) (by omega) (by decide)) ?_
        refine qm_G.s1 rfl (qm_x_iload rfl) ?_
        refine qm_y_if_eq rfl ⟨by omega, by omega⟩ (fun c5 => ?_) (fun c5 => ?_)
        · refine qm_G.sp (lv1 := [(0, qm_R (some (0, 61, 0))), (1, qm_I (qm_i a)), (2, qm_I (qm_i T)), (3, qm_I (qm_i lim)), (4, qm_I (qm_i t)), (5, qm_I (qm_i s))]) rfl rfl (qm_x_iinc (lv' := [(5, qm_I (qm_i (s + 1))), (0, qm_R (some (0, 61, 0))), (1, qm_I (qm_i a)), (2, qm_I (qm_i T)), (3, qm_I (qm_i lim)), (4, qm_I (qm_i t))]) 1 rfl rfl rfl) ?_
          refine qm_G.s1 rfl (qm_x_goto) ?_
          refine qm_G.pk (lv1 := [(0, qm_R (some (0, 61, 0))), (1, qm_I (qm_i a)), (2, qm_I (qm_i T)), (3, qm_I (qm_i lim)), (4, qm_I (qm_i t)), (5, qm_I (qm_i (s + 1)))]) rfl rfl rfl ?_
          refine ih (s + 1) _ (by omega) (by omega) (tf.step (by omega) h2 h3 rl.2 (by rw [show Int.toNat t = 0 by omega]; exact qm_MB_0 (by omega))) (fun D' eD t2 => k D' (fun r q i h => by rw [eD r q i h, qm_st_ne (by omega)]) t2)
        · refine qm_G.s1 rfl (qm_x_aload rfl) ?_
          refine qm_G.s1 rfl (qm_x_getfR (q := (some (0, 67, 0))) (hS 61 rfl) (hR 61 10 67 rfl rfl)) ?_
          refine qm_G.s1 rfl (qm_x_iload rfl) ?_
          refine qm_G.s1 rfl (qm_x_dald (a := 0) (qm_arS hS rfl rfl) rfl (by omega) (by omega) (by decide) (by unfold qm_set; rw [if_pos ⟨rfl, rfl, by omega⟩] <;> rfl)) ?_
          refine qm_G.s1 rfl (qm_x_push) ?_
          refine qm_y_dcmp (x := 0) (y := 4602678819172646912) rfl (by decide) (by decide) (by omega) (by omega) (fun c6 => ?_) (fun c6 => absurd c6 (by omega)) (fun c6 => absurd c6 (by omega))
          refine qm_G.s1 rfl (qm_x_if_le_t ⟨by decide, by decide⟩ (by decide)) ?_
          refine qm_G.sp (lv1 := [(0, qm_R (some (0, 61, 0))), (1, qm_I (qm_i a)), (2, qm_I (qm_i T)), (3, qm_I (qm_i lim)), (4, qm_I (qm_i t)), (5, qm_I (qm_i s)), (6, qm_I (qm_i (((17 * t) + 8) + s)))]) rfl rfl (qm_x_aload rfl) ?_
          refine qm_G.s1 rfl (qm_x_getfR (q := (some (0, 68, 0))) (hS 61 rfl) (hR 61 11 68 rfl rfl)) ?_
          refine qm_G.s1 rfl (qm_x_aload rfl) ?_
          refine qm_G.s1 rfl (qm_x_getfR (q := (some (0, 65, 0))) (hS 61 rfl) (hR 61 8 65 rfl rfl)) ?_
          refine qm_G.s1 rfl (qm_x_iload rfl) ?_
          refine qm_G.s1 rfl (qm_x_iald (v := (10 * (W (Int.toNat t) s).2.1 + (W (Int.toNat t) s).2.2)) (qm_arS hS rfl rfl) rfl (by omega) (by omega) (by decide) (h65 t s (by omega) (by omega) (by omega) (by omega))) ?_
          refine qm_G.s1 rfl (qm_x_pushI 10 rfl) ?_
          refine qm_G.s1 rfl (qm_x_idivp ⟨by omega, by omega⟩ (by omega) ⟨by decide, by decide⟩ (by decide)) ?_
          have g7 := rPb ((W (Int.toNat t) s).2.1) w9.1.1 w9.1.2
          refine qm_G.s1 rfl (qm_x_iald (v := (Pb ((W (Int.toNat t) s).2.1))) (qm_arS hS rfl rfl) rfl (by omega) (by omega) (by decide) (hPb ((W (Int.toNat t) s).2.1) _ (by omega) w9.1.1 w9.1.2)) ?_
          refine qm_G.s1 rfl qm_x_i2d ?_
          refine qm_G.s1 rfl qm_x_push ?_
          have pu := qm_pc_pd (c := Pb ((W (Int.toNat t) s).2.1)) (by omega)
          refine qm_G.s1 rfl (qm_x_ddiv (pu.1.fi (by decide))) ?_
          obtain ⟨u, eu⟩ : ∃ q : UInt64, q = FP.ddiv (FP.i2d (qm_i (Pb ((W (Int.toNat t) s).2.1)))) 4652007308841189376 := ⟨_, rfl⟩
          rw [← eu]
          change qm_pd _ _ (FP.ddiv (FP.i2d (qm_i (Pb ((W (Int.toNat t) s).2.1)))) 4652007308841189376) ∧ qm_pd _ _ (FP.dsub qm_1d (FP.ddiv (FP.i2d (qm_i (Pb ((W (Int.toNat t) s).2.1)))) 4652007308841189376)) at pu
          rw [← eu] at pu
          refine qm_G.s1 rfl (qm_x_dstore (lv' := [(7, qm_D u), (0, qm_R (some (0, 61, 0))), (1, qm_I (qm_i a)), (2, qm_I (qm_i T)), (3, qm_I (qm_i lim)), (4, qm_I (qm_i t)), (5, qm_I (qm_i s)), (6, qm_I (qm_i (((17 * t) + 8) + s)))]) rfl) ?_
          refine qm_G.s1 rfl (qm_x_aload rfl) ?_
          refine qm_G.s1 rfl (qm_x_getfR (q := (some (0, 68, 0))) (hS 61 rfl) (hR 61 11 68 rfl rfl)) ?_
          refine qm_G.s1 rfl (qm_x_pushI 7 rfl) ?_
          refine qm_G.s1 rfl (qm_x_aload rfl) ?_
          refine qm_G.s1 rfl (qm_x_getfR (q := (some (0, 65, 0))) (hS 61 rfl) (hR 61 8 65 rfl rfl)) ?_
          refine qm_G.s1 rfl (qm_x_iload rfl) ?_
          refine qm_G.s1 rfl (qm_x_iald (v := (10 * (W (Int.toNat t) s).2.1 + (W (Int.toNat t) s).2.2)) (qm_arS hS rfl rfl) rfl (by omega) (by omega) (by decide) (h65 t s (by omega) (by omega) (by omega) (by omega))) ?_
          refine qm_G.s1 rfl (qm_x_pushI 10 rfl) ?_
          refine qm_G.s1 rfl (qm_x_iremp ⟨by omega, by omega⟩ (by omega) ⟨by decide, by decide⟩ (by decide)) ?_
          refine qm_G.s1 rfl (qm_x_iadd) ?_
          have g8 := rPa ((W (Int.toNat t) s).2.2) w9.2.1 w9.2.2
          refine qm_G.s1 rfl (qm_x_iald (v := (Pa ((W (Int.toNat t) s).2.2))) (qm_arS hS rfl rfl) rfl (by omega) (by omega) (by decide) (hPa ((W (Int.toNat t) s).2.2) _ (by omega) w9.2.1 w9.2.2)) ?_
          refine qm_G.s1 rfl qm_x_i2d ?_
          refine qm_G.s1 rfl qm_x_push ?_
          have pv := qm_pc_pd (c := Pa ((W (Int.toNat t) s).2.2)) (by omega)
          refine qm_G.s1 rfl (qm_x_ddiv (pv.1.fi (by decide))) ?_
          obtain ⟨v, ev⟩ : ∃ q : UInt64, q = FP.ddiv (FP.i2d (qm_i (Pa ((W (Int.toNat t) s).2.2)))) 4652007308841189376 := ⟨_, rfl⟩
          rw [← ev]
          change qm_pd _ _ (FP.ddiv (FP.i2d (qm_i (Pa ((W (Int.toNat t) s).2.2)))) 4652007308841189376) ∧ qm_pd _ _ (FP.dsub qm_1d (FP.ddiv (FP.i2d (qm_i (Pa ((W (Int.toNat t) s).2.2)))) 4652007308841189376)) at pv
          rw [← ev] at pv
          refine qm_G.s1 rfl (qm_x_dstore (lv' := [(9, qm_D v), (7, qm_D u), (0, qm_R (some (0, 61, 0))), (1, qm_I (qm_i a)), (2, qm_I (qm_i T)), (3, qm_I (qm_i lim)), (4, qm_I (qm_i t)), (5, qm_I (qm_i s)), (6, qm_I (qm_i (((17 * t) + 8) + s)))]) rfl) ?_
          refine qm_G.s1 rfl (qm_x_aload rfl) ?_
          refine qm_G.s1 rfl (qm_x_getfR (q := (some (0, 67, 0))) (hS 61 rfl) (hR 61 10 67 rfl rfl)) ?_
          refine qm_G.s1 rfl (qm_x_iload rfl) ?_
          refine qm_G.s1 rfl (qm_x_pushI 1 rfl) ?_
          refine qm_G.s1 rfl (qm_x_isub) ?_
          refine qm_G.s1 rfl (qm_x_iload rfl) ?_
          refine qm_G.cs rfl rfl rfl ?_
          refine qm_C.go (cd := qm_P24) (lv := [(0, qm_I (qm_i (t - 1))), (1, qm_I (qm_i s))]) rfl rfl ?_
          refine qm_G.s1 rfl (qm_x_pushI 17 rfl) ?_
          refine qm_G.s1 rfl (qm_x_iload rfl) ?_
          refine qm_G.s1 rfl (qm_x_imul) ?_
          refine qm_G.s1 rfl (qm_x_pushI 8 rfl) ?_
          refine qm_G.s1 rfl (qm_x_iadd) ?_
          refine qm_G.s1 rfl (qm_x_iload rfl) ?_
          refine qm_G.s1 rfl (qm_x_iadd) ?_
          refine qm_G.ret rfl rfl ⟨_, rfl, ?_⟩
          refine qm_G.s1 rfl (qm_x_dald (a := (qm_MB Pb Pa W lim (Int.toNat (t - 1)) s)) (qm_arS hS rfl rfl) rfl (by omega) (by omega) (by decide) (Eq.trans (by unfold qm_set; rw [if_neg (by omega)] <;> exact congrArg (D 67 0) (by omega)) (Eq.trans (congrArg (D 67 0) (by omega)) (tf (t - 1) s (by omega) (Or.inl (by omega)) (by omega) (by omega))))) ?_
          refine qm_G.s1 rfl (qm_x_dstore (lv' := [(11, qm_D (qm_MB Pb Pa W lim (Int.toNat (t - 1)) s)), (9, qm_D v), (7, qm_D u), (0, qm_R (some (0, 61, 0))), (1, qm_I (qm_i a)), (2, qm_I (qm_i T)), (3, qm_I (qm_i lim)), (4, qm_I (qm_i t)), (5, qm_I (qm_i s)), (6, qm_I (qm_i (((17 * t) + 8) + s)))]) rfl) ?_
          have mp := qm_MB_pd (lim := lim) rW rPb rPa (Int.toNat (t - 1)) (by omega)
          have f9 := qm_mt pu.1 pu.2 pv.1 pv.2 (mp s) (mp (s + 1)) (mp (s - 1)) (by omega) (by omega) (by omega)
          refine qm_G.s1 rfl (qm_x_aload rfl) ?_
          refine qm_G.s1 rfl (qm_x_getfR (q := (some (0, 67, 0))) (hS 61 rfl) (hR 61 10 67 rfl rfl)) ?_
          refine qm_G.s1 rfl (qm_x_iload rfl) ?_
          refine qm_G.s1 rfl (qm_x_dload rfl) ?_
          refine qm_G.s1 rfl (qm_x_dload rfl) ?_
          refine qm_G.s1 rfl (qm_x_dmul f9.2.1.1) ?_
          refine qm_G.s1 rfl (qm_x_dload rfl) ?_
          refine qm_G.s1 rfl (qm_x_dmul f9.2.2.1.1) ?_
          refine qm_G.s1 rfl (qm_x_dload rfl) ?_
          refine qm_G.s1 rfl (qm_x_push) ?_
          refine qm_G.s1 rfl (qm_x_dload rfl) ?_
          refine qm_G.s1 rfl (qm_x_dsub f9.1.2) ?_
          refine qm_G.s1 rfl (qm_x_dmul f9.2.1.2.1) ?_
          refine qm_G.s1 rfl (qm_x_aload rfl) ?_
          refine qm_G.s1 rfl (qm_x_getfR (q := (some (0, 67, 0))) (hS 61 rfl) (hR 61 10 67 rfl rfl)) ?_
          refine qm_G.s1 rfl (qm_x_iload rfl) ?_
          refine qm_G.s1 rfl (qm_x_pushI 1 rfl) ?_
          refine qm_G.s1 rfl (qm_x_isub) ?_
          refine qm_G.s1 rfl (qm_x_iload rfl) ?_
          refine qm_G.s1 rfl (qm_x_pushI 1 rfl) ?_
          refine qm_G.s1 rfl (qm_x_iadd) ?_
          refine qm_G.cs rfl rfl rfl ?_
          refine qm_C.go (cd := qm_P24) (lv := [(0, qm_I (qm_i (t - 1))), (1, qm_I (qm_i (s + 1)))]) rfl rfl ?_
          refine qm_G.s1 rfl (qm_x_pushI 17 rfl) ?_
          refine qm_G.s1 rfl (qm_x_iload rfl) ?_
          refine qm_G.s1 rfl (qm_x_imul) ?_
          refine qm_G.s1 rfl (qm_x_pushI 8 rfl) ?_
          refine qm_G.s1 rfl (qm_x_iadd) ?_
          refine qm_G.s1 rfl (qm_x_iload rfl) ?_
          refine qm_G.s1 rfl (qm_x_iadd) ?_
          refine qm_G.ret rfl rfl ⟨_, rfl, ?_⟩
          refine qm_G.s1 rfl (qm_x_dald (a := (qm_MB Pb Pa W lim (Int.toNat (t - 1)) (s + 1))) (qm_arS hS rfl rfl) rfl (by omega) (by omega) (by decide) (Eq.trans (by unfold qm_set; rw [if_neg (by omega)] <;> exact congrArg (D 67 0) (by omega)) (Eq.trans (congrArg (D 67 0) (by omega)) (tf (t - 1) (s + 1) (by omega) (Or.inl (by omega)) (by omega) (by omega))))) ?_
          refine qm_G.s1 rfl (qm_x_dmul f9.2.2.1.2.1) ?_
          refine qm_G.s1 rfl (qm_x_dadd f9.2.2.2.1.1) ?_
          refine qm_G.s1 rfl (qm_x_push) ?_
          refine qm_G.s1 rfl (qm_x_dload rfl) ?_
          refine qm_G.s1 rfl (qm_x_dsub f9.1.1) ?_
          refine qm_G.s1 rfl (qm_x_dload rfl) ?_
          refine qm_G.s1 rfl (qm_x_dmul f9.2.1.2.2.1) ?_
          refine qm_G.s1 rfl (qm_x_aload rfl) ?_
          refine qm_G.s1 rfl (qm_x_getfR (q := (some (0, 67, 0))) (hS 61 rfl) (hR 61 10 67 rfl rfl)) ?_
          refine qm_G.s1 rfl (qm_x_iload rfl) ?_
          refine qm_G.s1 rfl (qm_x_pushI 1 rfl) ?_
          refine qm_G.s1 rfl (qm_x_isub) ?_
          refine qm_G.s1 rfl (qm_x_iload rfl) ?_
          refine qm_G.s1 rfl (qm_x_pushI 1 rfl) ?_
          refine qm_G.s1 rfl (qm_x_isub) ?_
          refine qm_G.cs rfl rfl rfl ?_
          refine qm_C.go (cd := qm_P24) (lv := [(0, qm_I (qm_i (t - 1))), (1, qm_I (qm_i (s - 1)))]) rfl rfl ?_
          refine qm_G.s1 rfl (qm_x_pushI 17 rfl) ?_
          refine qm_G.s1 rfl (qm_x_iload rfl) ?_
          refine qm_G.s1 rfl (qm_x_imul) ?_
          refine qm_G.s1 rfl (qm_x_pushI 8 rfl) ?_
          refine qm_G.s1 rfl (qm_x_iadd) ?_
          refine qm_G.s1 rfl (qm_x_iload rfl) ?_
          refine qm_G.s1 rfl (qm_x_iadd) ?_
          refine qm_G.ret rfl rfl ⟨_, rfl, ?_⟩
          refine qm_G.s1 rfl (qm_x_dald (a := (qm_MB Pb Pa W lim (Int.toNat (t - 1)) (s - 1))) (qm_arS hS rfl rfl) rfl (by omega) (by omega) (by decide) (Eq.trans (by unfold qm_set; rw [if_neg (by omega)] <;> exact congrArg (D 67 0) (by omega)) (Eq.trans (congrArg (D 67 0) (by omega)) (tf (t - 1) (s - 1) (by omega) (Or.inl (by omega)) (by omega) (by omega))))) ?_
          refine qm_G.s1 rfl (qm_x_dmul f9.2.2.1.2.2.1) ?_
          refine qm_G.s1 rfl (qm_x_dadd f9.2.2.2.1.2.1) ?_
          refine qm_G.s1 rfl (qm_x_push) ?_
          refine qm_G.s1 rfl (qm_x_dload rfl) ?_
          refine qm_G.s1 rfl (qm_x_dsub f9.1.1) ?_
          refine qm_G.s1 rfl (qm_x_push) ?_
          refine qm_G.s1 rfl (qm_x_dload rfl) ?_
          refine qm_G.s1 rfl (qm_x_dsub f9.1.2) ?_
          refine qm_G.s1 rfl (qm_x_dmul f9.2.1.2.2.2) ?_
          refine qm_G.s1 rfl (qm_x_dload rfl) ?_
          refine qm_G.s1 rfl (qm_x_dmul f9.2.2.1.2.2.2) ?_
          refine qm_G.s1 rfl (qm_x_dadd f9.2.2.2.1.2.2) ?_
          refine qm_G.s1 rfl (qm_x_dast (qm_arS hS rfl rfl) rfl (by omega) (by omega) (by decide)) ?_
          refine qm_G.sp (lv1 := [(0, qm_R (some (0, 61, 0))), (1, qm_I (qm_i a)), (2, qm_I (qm_i T)), (3, qm_I (qm_i lim)), (4, qm_I (qm_i t)), (5, qm_I (qm_i s))]) rfl rfl (qm_x_iinc (lv' := [(5, qm_I (qm_i (s + 1))), (0, qm_R (some (0, 61, 0))), (1, qm_I (qm_i a)), (2, qm_I (qm_i T)), (3, qm_I (qm_i lim)), (4, qm_I (qm_i t))]) 1 rfl rfl rfl) ?_
          refine qm_G.s1 rfl (qm_x_goto) ?_
          refine qm_G.pk (lv1 := [(0, qm_R (some (0, 61, 0))), (1, qm_I (qm_i a)), (2, qm_I (qm_i T)), (3, qm_I (qm_i lim)), (4, qm_I (qm_i t)), (5, qm_I (qm_i (s + 1)))]) rfl rfl rfl ?_
          rw [qm_set_set]
          have k9 : qm_MB Pb Pa W lim (Int.toNat t) s = qm_mx u v (qm_MB Pb Pa W lim (Int.toNat (t - 1)) s) (qm_MB Pb Pa W lim (Int.toNat (t - 1)) (s + 1)) (qm_MB Pb Pa W lim (Int.toNat (t - 1)) (s - 1)) := by
            have h9 := qm_MB_s (Pb := Pb) (Pa := Pa) (W := W) (lim := lim) (s := s) (t := Int.toNat (t - 1)) (by omega)
            rw [show Int.toNat (t - 1) + 1 = Int.toNat t by omega] at h9
            rw [h9, eu, ev]
          refine ih (s + 1) _ (by omega) (by omega) (tf.step (by omega) h2 h3 rl.2 k9) (fun D' eD t2 => k D' (fun r q i h => by rw [eD r q i h, qm_st_ne (by omega)]) t2)
      · refine qm_G.sp (lv1 := [(0, qm_R (some (0, 61, 0))), (1, qm_I (qm_i a)), (2, qm_I (qm_i T)), (3, qm_I (qm_i lim)), (4, qm_I (qm_i t)), (5, qm_I (qm_i s)), (6, qm_I (qm_i (((17 * t) + 8) + s)))]) rfl rfl (qm_x_push) ?_
        refine qm_G.s1 rfl (qm_x_goto) ?_
        refine qm_G.sp (lv1 := [(0, qm_R (some (0, 61, 0))), (1, qm_I (qm_i a)), (2, qm_I (qm_i T)), (3, qm_I (qm_i lim)), (4, qm_I (qm_i t)), (5, qm_I (qm_i s)), (6, qm_I (qm_i (((17 * t) + 8) + s)))]) rfl rfl (qm_x_dast (qm_arS hS rfl rfl) rfl (by omega) (by omega) (by decide)) ?_
        refine qm_G.s1 rfl (qm_x_iload rfl) ?_
        refine qm_y_if_eq rfl ⟨by omega, by omega⟩ (fun c9 => ?_) (fun c9 => ?_)
        · refine qm_G.sp (lv1 := [(0, qm_R (some (0, 61, 0))), (1, qm_I (qm_i a)), (2, qm_I (qm_i T)), (3, qm_I (qm_i lim)), (4, qm_I (qm_i t)), (5, qm_I (qm_i s))]) rfl rfl (qm_x_iinc (lv' := [(5, qm_I (qm_i (s + 1))), (0, qm_R (some (0, 61, 0))), (1, qm_I (qm_i a)), (2, qm_I (qm_i T)), (3, qm_I (qm_i lim)), (4, qm_I (qm_i t))]) 1 rfl rfl rfl) ?_
          refine qm_G.s1 rfl (qm_x_goto) ?_
          refine qm_G.pk (lv1 := [(0, qm_R (some (0, 61, 0))), (1, qm_I (qm_i a)), (2, qm_I (qm_i T)), (3, qm_I (qm_i lim)), (4, qm_I (qm_i t)), (5, qm_I (qm_i (s + 1)))]) rfl rfl rfl ?_
          refine ih (s + 1) _ (by omega) (by omega) (tf.step (by omega) h2 h3 rl.2 (qm_MB_e (by omega))) (fun D' eD t2 => k D' (fun r q i h => by rw [eD r q i h, qm_st_ne (by omega)]) t2)
        · refine qm_G.s1 rfl (qm_x_aload rfl) ?_
          refine qm_G.s1 rfl (qm_x_getfR (q := (some (0, 67, 0))) (hS 61 rfl) (hR 61 10 67 rfl rfl)) ?_
          refine qm_G.s1 rfl (qm_x_iload rfl) ?_
          refine qm_G.s1 rfl (qm_x_dald (a := 4607182418800017408) (qm_arS hS rfl rfl) rfl (by omega) (by omega) (by decide) (by unfold qm_set; rw [if_pos ⟨rfl, rfl, by omega⟩] <;> rfl)) ?_
          refine qm_G.s1 rfl (qm_x_push) ?_
          refine qm_y_dcmp (x := 4607182418800017408) (y := 4602678819172646912) rfl (by decide) (by decide) (by omega) (by omega) (fun c10 => absurd c10 (by omega)) (fun c10 => absurd c10 (by omega)) (fun c10 => ?_)
          refine qm_G.s1 rfl (qm_x_if_le_f ⟨by decide, by decide⟩ (by decide)) ?_
          refine qm_G.s1 rfl (qm_x_goto) ?_
          refine qm_G.sp (lv1 := [(0, qm_R (some (0, 61, 0))), (1, qm_I (qm_i a)), (2, qm_I (qm_i T)), (3, qm_I (qm_i lim)), (4, qm_I (qm_i t)), (5, qm_I (qm_i s))]) rfl rfl (qm_x_iinc (lv' := [(5, qm_I (qm_i (s + 1))), (0, qm_R (some (0, 61, 0))), (1, qm_I (qm_i a)), (2, qm_I (qm_i T)), (3, qm_I (qm_i lim)), (4, qm_I (qm_i t))]) 1 rfl rfl rfl) ?_
          refine qm_G.s1 rfl (qm_x_goto) ?_
          refine qm_G.pk (lv1 := [(0, qm_R (some (0, 61, 0))), (1, qm_I (qm_i a)), (2, qm_I (qm_i T)), (3, qm_I (qm_i lim)), (4, qm_I (qm_i t)), (5, qm_I (qm_i (s + 1)))]) rfl rfl rfl ?_
          refine ih (s + 1) _ (by omega) (by omega) (tf.step (by omega) h2 h3 rl.2 (qm_MB_e (by omega))) (fun D' eD t2 => k D' (fun r q i h => by rw [eD r q i h, qm_st_ne (by omega)]) t2)
theorem qm_m_meb {S : List qm_Sh} {J K : qm_J} {L : qm_Ct Int64} {R : qm_Ct (Option qm_Rf)} {X : Nat × (Nat → Int32)} {Q : Option qm_V → qm_Hp → Prop} {lim fine T a : Int} {Pb Pa : Int → Int} {W : Nat → Int → qm_S3} (hS : qm_Sd S) (hR : qm_Rd R) (hB : qm_Mb J lim fine Pb Pa) (rW : ∀ t s, (0 ≤ (W t s).2.1 ∧ (W t s).2.1 ≤ 6) ∧ (0 ≤ (W t s).2.2 ∧ (W t s).2.2 ≤ 6)) (h65 : ∀ t x : Int, 1 ≤ t → t ≤ 8 → -lim ≤ x → x ≤ lim → J 65 0 (Int.toNat (17 * t + 8 + x)) = 10 * (W (Int.toNat t) x).2.1 + (W (Int.toNat t) x).2.2) (rT : 0 ≤ T ∧ T ≤ 8) : ∀ (n : Nat) (t : Int) (D : qm_Ct UInt64), t + n = T + 1 → 0 ≤ t → qm_TF Pb Pa W lim D t (-lim) → (∀ D' : qm_Ct UInt64, (∀ r s i, r ≠ 67 → D' r s i = D r s i) → qm_TF Pb Pa W lim D' (T + 1) (-lim) → qm_G qm_P qm_P191 261 [(0, qm_R (some (0, 61, 0))), (1, qm_I (qm_i a)), (2, qm_I (qm_i T))] [] (qm_H S J K L D' R X) Q) → qm_G qm_P qm_P191 36 [(0, qm_R (some (0, 61, 0))), (1, qm_I (qm_i a)), (2, qm_I (qm_i T)), (3, qm_I (qm_i lim)), (4, qm_I (qm_i t))] [] (qm_H S J K L D R X) Q := by
  have rl := hB.2.1
  intro n
  induction n with
  | zero =>
    intro t D h1 h2 tf k
    refine qm_G.pk (lv1 := [(0, qm_R (some (0, 61, 0))), (1, qm_I (qm_i a)), (2, qm_I (qm_i T)), (3, qm_I (qm_i lim)), (4, qm_I (qm_i t))]) rfl rfl rfl ?_
    refine qm_G.sp (lv1 := [(0, qm_R (some (0, 61, 0))), (1, qm_I (qm_i a)), (2, qm_I (qm_i T)), (3, qm_I (qm_i lim)), (4, qm_I (qm_i t))]) rfl rfl (qm_x_iload rfl) ?_
    refine qm_G.s1 rfl (qm_x_iload rfl) ?_
    refine qm_G.s1 rfl (qm_x_icmp_gt_t ⟨by omega, by omega⟩ ⟨by omega, by omega⟩ (by omega)) ?_
    refine qm_G.pk (lv1 := [(0, qm_R (some (0, 61, 0))), (1, qm_I (qm_i a)), (2, qm_I (qm_i T))]) rfl rfl rfl ?_
    exact k D (fun _ _ _ _ => rfl) (fun a b c d e f => tf a b c (by omega) e f)
  | succ n ih =>
    intro t D h1 h2 tf k
    have h3 : t ≤ T := by omega
    refine qm_G.pk (lv1 := [(0, qm_R (some (0, 61, 0))), (1, qm_I (qm_i a)), (2, qm_I (qm_i T)), (3, qm_I (qm_i lim)), (4, qm_I (qm_i t))]) rfl rfl rfl ?_
    refine qm_G.sp (lv1 := [(0, qm_R (some (0, 61, 0))), (1, qm_I (qm_i a)), (2, qm_I (qm_i T)), (3, qm_I (qm_i lim)), (4, qm_I (qm_i t))]) rfl rfl (qm_x_iload rfl) ?_
    refine qm_G.s1 rfl (qm_x_iload rfl) ?_
    refine qm_G.s1 rfl (qm_x_icmp_gt_f ⟨by omega, by omega⟩ ⟨by omega, by omega⟩ (by omega)) ?_
    refine qm_G.s1 rfl (qm_x_iload rfl) ?_
    refine qm_G.s1 rfl (qm_x_ineg) ?_
    refine qm_G.s1 rfl (qm_x_istore (lv' := [(5, qm_I (qm_i (-lim))), (0, qm_R (some (0, 61, 0))), (1, qm_I (qm_i a)), (2, qm_I (qm_i T)), (3, qm_I (qm_i lim)), (4, qm_I (qm_i t))]) rfl) ?_
    refine qm_G.pk (lv1 := [(0, qm_R (some (0, 61, 0))), (1, qm_I (qm_i a)), (2, qm_I (qm_i T)), (3, qm_I (qm_i lim)), (4, qm_I (qm_i t)), (5, qm_I (qm_i (-lim)))]) rfl rfl rfl ?_
    refine qm_m_mea hS hR hB rW h65 rT (by omega) (Int.toNat (2 * lim + 1)) (-lim) D (by omega) (by omega) tf (fun D1 eD t1 => ?_)
    refine qm_G.sp (lv1 := [(0, qm_R (some (0, 61, 0))), (1, qm_I (qm_i a)), (2, qm_I (qm_i T)), (3, qm_I (qm_i lim)), (4, qm_I (qm_i t))]) rfl rfl (qm_x_iinc (lv' := [(4, qm_I (qm_i (t + 1))), (0, qm_R (some (0, 61, 0))), (1, qm_I (qm_i a)), (2, qm_I (qm_i T)), (3, qm_I (qm_i lim))]) 1 rfl rfl rfl) ?_
    refine qm_G.s1 rfl (qm_x_goto) ?_
    refine qm_G.pk (lv1 := [(0, qm_R (some (0, 61, 0))), (1, qm_I (qm_i a)), (2, qm_I (qm_i T)), (3, qm_I (qm_i lim)), (4, qm_I (qm_i (t + 1)))]) rfl rfl rfl ?_
    exact ih (t + 1) D1 (by omega) (by omega) (fun a b c d e f => t1 a b c (by omega) e f) (fun D' eD2 t2 => k D' (fun r q i h => (eD2 r q i h).trans (eD r q i h)) t2)
