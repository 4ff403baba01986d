/-! THE SLIP: what is appended -/
theorem qm_d_apc {S0 S : List qm_Sh} {J0 J K0 K : qm_J} {L0 L : qm_Ct Int64} {D0 D : qm_Ct UInt64} {R0 R : qm_Ct (Option qm_Rf)} {q n : Nat} {m : Int} {F : Nat → Int} {X : Nat × (Nat → Int32)} {Q : Option qm_V → qm_Hp → Prop} {c : Int} (T : qm_Tq S0 S J0 J K0 K L0 L D0 D R0 R q n m F) (h1 : m + 1 ≤ 34) (hc : F m.toNat = c) (rc : 0 ≤ c ∧ c ≤ 127) (k : ∀ S' J' K' L' D' R' q' n', qm_Tq S0 S' J0 J' K0 K' L0 L' D0 D' R0 R' q' n' (m + 1) F → Q (some (qm_R (some (0, 47, 0)))) (qm_H S' J' K' L' D' R' X)) : qm_C qm_P 199 [qm_R (some (0, 47, 0)), qm_I (qm_i c)] (qm_H S J K L D R X) Q := by
  have gn1 := T.hn
  have gm2 := T.rm
  refine qm_C.go (cd := qm_P199) (lv := [(0, qm_R (some (0, 47, 0))), (1, qm_I (qm_i c))]) rfl rfl ?_
  refine qm_G.s1 rfl (qm_x_aload rfl) ?_
  refine qm_G.s1 rfl (qm_x_iload rfl) ?_
  refine qm_G.cm rfl rfl (T.sd 47 rfl) rfl ?_
  refine qm_C.go (cd := qm_P182) (lv := [(0, qm_R (some (0, 47, 0))), (1, qm_I (qm_i c))]) rfl rfl ?_
  refine qm_G.s1 rfl (qm_x_aload rfl) ?_
  refine qm_G.s1 rfl (qm_x_aload rfl) ?_
  refine qm_G.s1 rfl (qm_x_getfI (v := m) (T.sd 47 rfl) T.ct) ?_
  refine qm_G.s1 rfl (qm_x_pushI 1 rfl) ?_
  refine qm_G.s1 rfl (qm_x_iadd) ?_
  refine qm_G.cmv rfl rfl (T.sd 47 rfl) rfl ?_
  refine qm_d_ens T (by omega) (fun S3 J3 K3 L3 D3 R3 q3 n3 T3 e3 => ⟨rfl, ?_⟩)
  have gn3 := T3.hn
  have gm3 := T3.rm
  refine qm_G.s1 rfl (qm_x_aload rfl) ?_
  refine qm_G.cm rfl rfl (T3.sd 47 rfl) rfl ?_
  refine qm_C.go (cd := qm_P4) (lv := [(0, qm_R (some (0, 47, 0)))]) rfl rfl ?_
  refine qm_G.s1 rfl (qm_x_pushI 1 rfl) ?_
  refine qm_G.s1 rfl (qm_x_if_eq_f ⟨by decide, by decide⟩ (by decide)) ?_
  refine qm_G.s1 rfl (qm_x_aload rfl) ?_
  refine qm_G.s1 rfl (qm_x_getfI (v := 0) (T3.sd 47 rfl) T3.cd) ?_
  refine qm_G.s1 rfl (qm_x_if_ne_f ⟨by decide, by decide⟩ (by decide)) ?_
  refine qm_G.s1 rfl (qm_x_pushI 1 rfl) ?_
  refine qm_G.s1 rfl (qm_x_goto) ?_
  refine qm_G.ret rfl rfl ⟨_, rfl, ?_⟩
  refine qm_G.s1 rfl (qm_x_if_eq_f ⟨by decide, by decide⟩ (by decide)) ?_
  refine qm_G.s1 rfl (qm_x_iload rfl) ?_
  refine qm_G.cs rfl rfl rfl ?_
  refine qm_C.go (cd := qm_P2) (lv := [(0, qm_I (qm_i c))]) rfl rfl ?_
  refine qm_G.s1 rfl (qm_x_iload rfl) ?_
  refine qm_G.s1 rfl (qm_x_pushI 255 rfl) ?_
  refine qm_G.s1 rfl (qm_x_icmp_gt_f ⟨by omega, by omega⟩ ⟨by decide, by decide⟩ (by omega)) ?_
  refine qm_G.s1 rfl (qm_x_pushI 1 rfl) ?_
  refine qm_G.s1 rfl (qm_x_goto) ?_
  refine qm_G.ret rfl rfl ⟨_, rfl, ?_⟩
  refine qm_G.s1 rfl (qm_x_if_eq_f ⟨by decide, by decide⟩ (by decide)) ?_
  refine qm_G.s1 rfl (qm_x_aload rfl) ?_
  refine qm_G.s1 rfl (qm_x_getfR (q := (some (0, q3, 0))) (T3.sd 47 rfl) T3.rq) ?_
  refine qm_G.s1 rfl (qm_x_aload rfl) ?_
  refine qm_G.s1 rfl (qm_x_dupR) ?_
  refine qm_G.s1 rfl (qm_x_getfI (v := m) (T3.sd 47 rfl) T3.ct) ?_
  refine qm_G.s1 rfl (qm_x_dup_x1 rfl) ?_
  refine qm_G.s1 rfl (qm_x_pushI 1 rfl) ?_
  refine qm_G.s1 rfl (qm_x_iadd) ?_
  refine qm_G.s1 rfl (qm_x_putfI (T3.sd 47 rfl)) ?_
  refine qm_G.s1 rfl (qm_x_iload rfl) ?_
  refine qm_G.s1 rfl (qm_x_i2b (by omega)) ?_
  refine qm_G.s1 rfl (qm_x_bast (qm_arD T3.sq) (qm_ble34 (by omega)) (by omega) (by omega) (by decide) ⟨by omega, by omega⟩) ?_
  refine qm_G.s1 rfl (qm_x_goto) ?_
  refine qm_G.sp (lv1 := [(0, qm_R (some (0, 47, 0)))]) rfl rfl (qm_x_aload rfl) ?_
  refine qm_G.ret rfl rfl ⟨_, rfl, ?_⟩
  refine qm_G.s1 rfl (qm_x_popR) ?_
  refine qm_G.s1 rfl (qm_x_aload rfl) ?_
  exact qm_G.ret rfl rfl (k _ _ _ _ _ _ _ _ (T3.push (by omega) hc rc))
theorem qm_d_api {S0 S : List qm_Sh} {J0 J K0 K : qm_J} {L0 L : qm_Ct Int64} {D0 D : qm_Ct UInt64} {R0 R : qm_Ct (Option qm_Rf)} {q n : Nat} {m : Int} {F : Nat → Int} {X : Nat × (Nat → Int32)} {Q : Option qm_V → qm_Hp → Prop} {x : Int} {d : Nat} (T : qm_Tq S0 S J0 J K0 K L0 L D0 D R0 R q n m F) (hx : qm_sm x) (hd : qm_dn x.natAbs d) (h1 : m + (qm_sgn x d : Int) ≤ 34) (hF : ∀ j, j < qm_sgn x d → F (m.toNat + j) = qm_dg x (qm_sgn x d) j) (k : ∀ S' J' K' L' D' R' q' n', qm_Tq S0 S' J0 J' K0 K' L0 L' D0 D' R0 R' q' n' (m + (qm_sgn x d : Int)) F → Q (some (qm_R (some (0, 47, 0)))) (qm_H S' J' K' L' D' R' X)) : qm_C qm_P 202 [qm_R (some (0, 47, 0)), qm_I (qm_i x)] (qm_H S J K L D R X) Q := by
  have gn1 := T.hn
  have gm2 := T.rm
  refine qm_C.go (cd := qm_P202) (lv := [(0, qm_R (some (0, 47, 0))), (1, qm_I (qm_i x))]) rfl rfl ?_
  refine qm_G.s1 rfl (qm_x_aload rfl) ?_
  refine qm_G.s1 rfl (qm_x_iload rfl) ?_
  refine qm_G.cm rfl rfl (T.sd 47 rfl) rfl ?_
  refine qm_C.go (cd := qm_P183) (lv := [(0, qm_R (some (0, 47, 0))), (1, qm_I (qm_i x))]) rfl rfl ?_
  refine qm_G.s1 rfl (qm_x_aload rfl) ?_
  refine qm_G.s1 rfl (qm_x_getfI (v := m) (T.sd 47 rfl) T.ct) ?_
  refine qm_G.s1 rfl (qm_x_istore (lv' := [(2, qm_I (qm_i m)), (0, qm_R (some (0, 47, 0))), (1, qm_I (qm_i x))]) rfl) ?_
  refine qm_G.s1 rfl (qm_x_iload rfl) ?_
  refine qm_G.s1 rfl (qm_x_iload rfl) ?_
  refine qm_G.cs rfl rfl rfl ?_
  refine qm_d_ssz hx (fun v hv => ⟨_, rfl, ?_⟩)
  have ev : v = (qm_sgn x d : Int) := by obtain ⟨d9, g1, g2, -⟩ := qm_szp_dn hv hx; rw [g2, qm_dn_uni g1 hd]
  subst ev
  refine qm_G.s1 rfl (qm_x_iadd) ?_
  refine qm_G.s1 rfl (qm_x_istore (lv' := [(3, qm_I (qm_i (m + (qm_sgn x d : Int)))), (2, qm_I (qm_i m)), (0, qm_R (some (0, 47, 0))), (1, qm_I (qm_i x))]) rfl) ?_
  refine qm_G.s1 rfl (qm_x_aload rfl) ?_
  refine qm_G.s1 rfl (qm_x_iload rfl) ?_
  refine qm_G.cmv rfl rfl (T.sd 47 rfl) rfl ?_
  refine qm_d_ens T (by omega) (fun S3 J3 K3 L3 D3 R3 q3 n3 T3 e3 => ⟨rfl, ?_⟩)
  have gn3 := T3.hn
  have gm3 := T3.rm
  refine qm_G.s1 rfl (qm_x_aload rfl) ?_
  refine qm_G.cm rfl rfl (T3.sd 47 rfl) rfl ?_
  refine qm_C.go (cd := qm_P4) (lv := [(0, qm_R (some (0, 47, 0)))]) rfl rfl ?_
  refine qm_G.s1 rfl (qm_x_pushI 1 rfl) ?_
  refine qm_G.s1 rfl (qm_x_if_eq_f ⟨by decide, by decide⟩ (by decide)) ?_
  refine qm_G.s1 rfl (qm_x_aload rfl) ?_
  refine qm_G.s1 rfl (qm_x_getfI (v := 0) (T3.sd 47 rfl) T3.cd) ?_
  refine qm_G.s1 rfl (qm_x_if_ne_f ⟨by decide, by decide⟩ (by decide)) ?_
  refine qm_G.s1 rfl (qm_x_pushI 1 rfl) ?_
  refine qm_G.s1 rfl (qm_x_goto) ?_
  refine qm_G.ret rfl rfl ⟨_, rfl, ?_⟩
  refine qm_G.s1 rfl (qm_x_if_eq_f ⟨by decide, by decide⟩ (by decide)) ?_
  refine qm_G.s1 rfl (qm_x_iload rfl) ?_
  refine qm_G.s1 rfl (qm_x_iload rfl) ?_
  refine qm_G.s1 rfl (qm_x_aload rfl) ?_
  refine qm_G.s1 rfl (qm_x_getfR (q := (some (0, q3, 0))) (T3.sd 47 rfl) T3.rq) ?_
  refine qm_G.cs rfl rfl rfl ?_
  refine qm_d_gch (b := Int.toNat m) T3.sq (by omega) hx hd (by omega) (by omega) (fun K9 w9 f1 f2 => ⟨_, rfl, ?_⟩)
  refine qm_G.s1 rfl (qm_x_popI) ?_
  refine qm_G.s1 rfl (qm_x_goto) ?_
  refine qm_G.sp (lv1 := [(0, qm_R (some (0, 47, 0))), (3, qm_I (qm_i (m + (qm_sgn x d : Int))))]) rfl rfl (qm_x_aload rfl) ?_
  refine qm_G.s1 rfl (qm_x_iload rfl) ?_
  refine qm_G.s1 rfl (qm_x_putfI (T3.sd 47 rfl)) ?_
  refine qm_G.s1 rfl (qm_x_aload rfl) ?_
  refine qm_G.ret rfl rfl ⟨_, rfl, ?_⟩
  refine qm_G.s1 rfl (qm_x_popR) ?_
  refine qm_G.s1 rfl (qm_x_aload rfl) ?_
  exact qm_G.ret rfl rfl (k _ _ _ _ _ _ _ _ (T3.more (c := qm_sgn x d) rfl (by omega) f1 (fun j hj => (f2 j hj).trans (hF j hj).symm) (fun j hj => (hF j hj).symm ▸ qm_dg_rng)))
theorem qm_d_aps19 {S0 S : List qm_Sh} {J0 J K0 K : qm_J} {L0 L : qm_Ct Int64} {D0 D : qm_Ct UInt64} {R0 R : qm_Ct (Option qm_Rf)} {q n : Nat} {m : Int} {F : Nat → Int} {X : Nat × (Nat → Int32)} {Q : Option qm_V → qm_Hp → Prop} (T : qm_Tq S0 S J0 J K0 K L0 L D0 D R0 R q n m F) (h1 : m + 5 ≤ 34) (hF : ∀ j, j < 5 → F (m.toNat + j) = (qm_SB 32 j).toInt) (k : ∀ S' J' K' L' D' R' q' n', qm_Tq S0 S' J0 J' K0 K' L0 L' D0 D' R0 R' q' n' (m + 5) F → Q (some (qm_R (some (0, 47, 0)))) (qm_H S' J' K' L' D' R' X)) : qm_C qm_P 201 [qm_R (some (0, 47, 0)), qm_R (some (1, 19, 0))] (qm_H S J K L D R X) Q := by
  have gn1 := T.hn
  have gm2 := T.rm
  refine qm_C.go (cd := qm_P201) (lv := [(0, qm_R (some (0, 47, 0))), (1, qm_R (some (1, 19, 0)))]) rfl rfl ?_
  refine qm_G.s1 rfl (qm_x_aload rfl) ?_
  refine qm_G.s1 rfl (qm_x_aload rfl) ?_
  refine qm_G.cm rfl rfl (T.sd 47 rfl) rfl ?_
  refine qm_C.go (cd := qm_P184) (lv := [(0, qm_R (some (0, 47, 0))), (1, qm_R (some (1, 19, 0)))]) rfl rfl ?_
  refine qm_G.s1 rfl (qm_x_aload rfl) ?_
  refine qm_G.s1 rfl (qm_x_ifnonnull1) ?_
  refine qm_G.sp (lv1 := [(0, qm_R (some (0, 47, 0))), (1, qm_R (some (1, 19, 0)))]) rfl rfl (qm_x_aload rfl) ?_
  refine qm_G.call rfl rfl rfl ?_
  refine qm_C.go (cd := qm_P53) (lv := [(0, qm_R (some (1, 19, 0)))]) rfl rfl ?_
  refine qm_G.s1 rfl (qm_x_aload rfl) ?_
  refine qm_G.s1 rfl (qm_x_getgR rfl rfl) ?_
  refine qm_G.s1 rfl (qm_x_alen1 (len := 5) rfl) ?_
  refine qm_G.s1 rfl (qm_x_aload rfl) ?_
  refine qm_G.call rfl rfl rfl ?_
  refine qm_C.go (cd := qm_P0) (lv := [(0, qm_R (some (1, 19, 0)))]) rfl rfl ?_
  refine qm_G.s1 rfl (qm_x_pushI 1 rfl) ?_
  refine qm_G.s1 rfl (qm_x_if_eq_f ⟨by decide, by decide⟩ (by decide)) ?_
  refine qm_G.s1 rfl (qm_x_aload rfl) ?_
  refine qm_G.s1 rfl (qm_x_getgI (v := 0) rfl rfl) ?_
  refine qm_G.s1 rfl (qm_x_goto) ?_
  refine qm_G.ret rfl rfl ⟨_, rfl, ?_⟩
  refine qm_G.s1 rfl (qm_x_ishr0) ?_
  refine qm_G.ret rfl rfl ⟨_, rfl, ?_⟩
  refine qm_G.s1 rfl (qm_x_istore (lv' := [(2, qm_I (qm_i 5)), (0, qm_R (some (0, 47, 0))), (1, qm_R (some (1, 19, 0)))]) rfl) ?_
  refine qm_G.s1 rfl (qm_x_aload rfl) ?_
  refine qm_G.s1 rfl (qm_x_aload rfl) ?_
  refine qm_G.s1 rfl (qm_x_getfI (v := m) (T.sd 47 rfl) T.ct) ?_
  refine qm_G.s1 rfl (qm_x_iload rfl) ?_
  refine qm_G.s1 rfl (qm_x_iadd) ?_
  refine qm_G.cmv rfl rfl (T.sd 47 rfl) rfl ?_
  refine qm_d_ens T (by omega) (fun S3 J3 K3 L3 D3 R3 q3 n3 T3 e3 => ⟨rfl, ?_⟩)
  have gn3 := T3.hn
  have gm3 := T3.rm
  refine qm_G.s1 rfl (qm_x_aload rfl) ?_
  refine qm_G.s1 rfl (qm_x_aload rfl) ?_
  refine qm_G.s1 rfl (qm_x_getfI (v := m) (T3.sd 47 rfl) T3.ct) ?_
  refine qm_G.s1 rfl (qm_x_aload rfl) ?_
  refine qm_G.cmv rfl rfl (T3.sd 47 rfl) rfl ?_
  refine qm_C.go (cd := qm_P157) (lv := [(0, qm_R (some (0, 47, 0))), (1, qm_I (qm_i m)), (2, qm_R (some (1, 19, 0)))]) rfl rfl ?_
  refine qm_G.s1 rfl (qm_x_aload rfl) ?_
  refine qm_G.s1 rfl (qm_x_aload rfl) ?_
  refine qm_G.cmv rfl rfl (T3.sd 47 rfl) rfl ?_
  refine qm_C.go (cd := qm_P55) (lv := [(0, qm_R (some (0, 47, 0))), (1, qm_R (some (1, 19, 0)))]) rfl rfl ?_
  refine qm_G.s1 rfl (qm_x_pushI 1 rfl) ?_
  refine qm_G.s1 rfl (qm_x_if_eq_f ⟨by decide, by decide⟩ (by decide)) ?_
  refine qm_G.s1 rfl (qm_x_aload rfl) ?_
  refine qm_G.s1 rfl (qm_x_getfI (v := 0) (T3.sd 47 rfl) T3.cd) ?_
  refine qm_G.s1 rfl (qm_x_aload rfl) ?_
  refine qm_G.call rfl rfl rfl ?_
  refine qm_C.go (cd := qm_P0) (lv := [(0, qm_R (some (1, 19, 0)))]) rfl rfl ?_
  refine qm_G.s1 rfl (qm_x_pushI 1 rfl) ?_
  refine qm_G.s1 rfl (qm_x_if_eq_f ⟨by decide, by decide⟩ (by decide)) ?_
  refine qm_G.s1 rfl (qm_x_aload rfl) ?_
  refine qm_G.s1 rfl (qm_x_getgI (v := 0) rfl rfl) ?_
  refine qm_G.s1 rfl (qm_x_goto) ?_
  refine qm_G.ret rfl rfl ⟨_, rfl, ?_⟩
  refine qm_G.s1 rfl (qm_x_icmp_eq_t ⟨by decide, by decide⟩ ⟨by decide, by decide⟩ (by decide)) ?_
  refine qm_G.retv rfl ⟨rfl, ?_⟩
  refine qm_G.s1 rfl (qm_x_aload rfl) ?_
  refine qm_G.s1 rfl (qm_x_aload rfl) ?_
  refine qm_G.s1 rfl (qm_x_getfR (q := (some (0, q3, 0))) (T3.sd 47 rfl) T3.rq) ?_
  refine qm_G.s1 rfl (qm_x_iload rfl) ?_
  refine qm_G.s1 rfl (qm_x_aload rfl) ?_
  refine qm_G.s1 rfl (qm_x_getfI (v := 0) (T3.sd 47 rfl) T3.cd) ?_
  refine qm_G.callv rfl rfl rfl ?_
  refine qm_C.go (cd := qm_P107) (lv := [(0, qm_R (some (1, 19, 0))), (1, qm_R (some (0, q3, 0))), (2, qm_I (qm_i m)), (3, qm_I (qm_i 0))]) rfl rfl ?_
  refine qm_G.s1 rfl (qm_x_aload rfl) ?_
  refine qm_G.call rfl rfl rfl ?_
  refine qm_C.go (cd := qm_P0) (lv := [(0, qm_R (some (1, 19, 0)))]) rfl rfl ?_
  refine qm_G.s1 rfl (qm_x_pushI 1 rfl) ?_
  refine qm_G.s1 rfl (qm_x_if_eq_f ⟨by decide, by decide⟩ (by decide)) ?_
  refine qm_G.s1 rfl (qm_x_aload rfl) ?_
  refine qm_G.s1 rfl (qm_x_getgI (v := 0) rfl rfl) ?_
  refine qm_G.s1 rfl (qm_x_goto) ?_
  refine qm_G.ret rfl rfl ⟨_, rfl, ?_⟩
  refine qm_G.s1 rfl (qm_x_iload rfl) ?_
  refine qm_G.s1 rfl (qm_x_icmp_ne_f ⟨by decide, by decide⟩ ⟨by decide, by decide⟩ (by decide)) ?_
  refine qm_G.s1 rfl (qm_x_aload rfl) ?_
  refine qm_G.s1 rfl (qm_x_getgR rfl rfl) ?_
  refine qm_G.s1 rfl (qm_x_pushI 0 rfl) ?_
  refine qm_G.s1 rfl (qm_x_aload rfl) ?_
  refine qm_G.s1 rfl (qm_x_iload rfl) ?_
  refine qm_G.s1 rfl (qm_x_iload rfl) ?_
  refine qm_G.s1 rfl (qm_x_ishl0) ?_
  refine qm_G.s1 rfl (qm_x_aload rfl) ?_
  refine qm_G.s1 rfl (qm_x_getgR rfl rfl) ?_
  refine qm_G.s1 rfl (qm_x_alen1 (len := 5) rfl) ?_
  refine qm_G.s1 rfl (qm_x_bcopy (la := 5) rfl (qm_arD T3.sq) rfl (by omega) (by decide) (by decide) (by omega)) ?_
  refine qm_G.s1 rfl (qm_x_goto) ?_
  refine qm_G.retv rfl ⟨rfl, ?_⟩
  refine qm_G.retv rfl ⟨rfl, ?_⟩
  refine qm_G.s1 rfl (qm_x_aload rfl) ?_
  refine qm_G.s1 rfl (qm_x_dupR) ?_
  refine qm_G.s1 rfl (qm_x_getfI (v := m) (T3.sd 47 rfl) T3.ct) ?_
  refine qm_G.s1 rfl (qm_x_iload rfl) ?_
  refine qm_G.s1 rfl (qm_x_iadd) ?_
  refine qm_G.s1 rfl (qm_x_putfI (T3.sd 47 rfl)) ?_
  refine qm_G.s1 rfl (qm_x_aload rfl) ?_
  refine qm_G.ret rfl rfl ⟨_, rfl, ?_⟩
  refine qm_G.s1 rfl (qm_x_popR) ?_
  refine qm_G.s1 rfl (qm_x_aload rfl) ?_
  have rg : ∀ j, j < 5 → 0 ≤ (qm_SB 32 j).toInt ∧ (qm_SB 32 j).toInt ≤ 127 := by decide +kernel
  refine qm_G.ret rfl rfl (k _ _ _ _ _ _ _ _ (T3.more (c := 5) rfl (by omega) (fun r s i h => ?_) (fun j hj => ?_) (fun j hj => ?_)))
  · unfold qm_bcp
    rw [if_neg (by omega)]
  · unfold qm_bcp
    rw [if_pos ⟨rfl, rfl, by omega, by omega⟩, hF j hj, show m.toNat + j - Int.toNat m = j by omega]
  · rw [hF j hj]; exact rg j hj
theorem qm_d_aps20 {S0 S : List qm_Sh} {J0 J K0 K : qm_J} {L0 L : qm_Ct Int64} {D0 D : qm_Ct UInt64} {R0 R : qm_Ct (Option qm_Rf)} {q n : Nat} {m : Int} {F : Nat → Int} {X : Nat × (Nat → Int32)} {Q : Option qm_V → qm_Hp → Prop} (T : qm_Tq S0 S J0 J K0 K L0 L D0 D R0 R q n m F) (h1 : m + 6 ≤ 34) (hF : ∀ j, j < 6 → F (m.toNat + j) = (qm_SB 33 j).toInt) (k : ∀ S' J' K' L' D' R' q' n', qm_Tq S0 S' J0 J' K0 K' L0 L' D0 D' R0 R' q' n' (m + 6) F → Q (some (qm_R (some (0, 47, 0)))) (qm_H S' J' K' L' D' R' X)) : qm_C qm_P 201 [qm_R (some (0, 47, 0)), qm_R (some (1, 20, 0))] (qm_H S J K L D R X) Q := by
  have gn1 := T.hn
  have gm2 := T.rm
  refine qm_C.go (cd := qm_P201) (lv := [(0, qm_R (some (0, 47, 0))), (1, qm_R (some (1, 20, 0)))]) rfl rfl ?_
  refine qm_G.s1 rfl (qm_x_aload rfl) ?_
  refine qm_G.s1 rfl (qm_x_aload rfl) ?_
  refine qm_G.cm rfl rfl (T.sd 47 rfl) rfl ?_
  refine qm_C.go (cd := qm_P184) (lv := [(0, qm_R (some (0, 47, 0))), (1, qm_R (some (1, 20, 0)))]) rfl rfl ?_
  refine qm_G.s1 rfl (qm_x_aload rfl) ?_
  refine qm_G.s1 rfl (qm_x_ifnonnull1) ?_
  refine qm_G.sp (lv1 := [(0, qm_R (some (0, 47, 0))), (1, qm_R (some (1, 20, 0)))]) rfl rfl (qm_x_aload rfl) ?_
  refine qm_G.call rfl rfl rfl ?_
  refine qm_C.go (cd := qm_P53) (lv := [(0, qm_R (some (1, 20, 0)))]) rfl rfl ?_
  refine qm_G.s1 rfl (qm_x_aload rfl) ?_
  refine qm_G.s1 rfl (qm_x_getgR rfl rfl) ?_
  refine qm_G.s1 rfl (qm_x_alen1 (len := 6) rfl) ?_
  refine qm_G.s1 rfl (qm_x_aload rfl) ?_
  refine qm_G.call rfl rfl rfl ?_
  refine qm_C.go (cd := qm_P0) (lv := [(0, qm_R (some (1, 20, 0)))]) rfl rfl ?_
  refine qm_G.s1 rfl (qm_x_pushI 1 rfl) ?_
  refine qm_G.s1 rfl (qm_x_if_eq_f ⟨by decide, by decide⟩ (by decide)) ?_
  refine qm_G.s1 rfl (qm_x_aload rfl) ?_
  refine qm_G.s1 rfl (qm_x_getgI (v := 0) rfl rfl) ?_
  refine qm_G.s1 rfl (qm_x_goto) ?_
  refine qm_G.ret rfl rfl ⟨_, rfl, ?_⟩
  refine qm_G.s1 rfl (qm_x_ishr0) ?_
  refine qm_G.ret rfl rfl ⟨_, rfl, ?_⟩
  refine qm_G.s1 rfl (qm_x_istore (lv' := [(2, qm_I (qm_i 6)), (0, qm_R (some (0, 47, 0))), (1, qm_R (some (1, 20, 0)))]) rfl) ?_
  refine qm_G.s1 rfl (qm_x_aload rfl) ?_
  refine qm_G.s1 rfl (qm_x_aload rfl) ?_
  refine qm_G.s1 rfl (qm_x_getfI (v := m) (T.sd 47 rfl) T.ct) ?_
  refine qm_G.s1 rfl (qm_x_iload rfl) ?_
  refine qm_G.s1 rfl (qm_x_iadd) ?_
  refine qm_G.cmv rfl rfl (T.sd 47 rfl) rfl ?_
  refine qm_d_ens T (by omega) (fun S3 J3 K3 L3 D3 R3 q3 n3 T3 e3 => ⟨rfl, ?_⟩)
  have gn3 := T3.hn
  have gm3 := T3.rm
  refine qm_G.s1 rfl (qm_x_aload rfl) ?_
  refine qm_G.s1 rfl (qm_x_aload rfl) ?_
  refine qm_G.s1 rfl (qm_x_getfI (v := m) (T3.sd 47 rfl) T3.ct) ?_
  refine qm_G.s1 rfl (qm_x_aload rfl) ?_
  refine qm_G.cmv rfl rfl (T3.sd 47 rfl) rfl ?_
  refine qm_C.go (cd := qm_P157) (lv := [(0, qm_R (some (0, 47, 0))), (1, qm_I (qm_i m)), (2, qm_R (some (1, 20, 0)))]) rfl rfl ?_
  refine qm_G.s1 rfl (qm_x_aload rfl) ?_
  refine qm_G.s1 rfl (qm_x_aload rfl) ?_
  refine qm_G.cmv rfl rfl (T3.sd 47 rfl) rfl ?_
  refine qm_C.go (cd := qm_P55) (lv := [(0, qm_R (some (0, 47, 0))), (1, qm_R (some (1, 20, 0)))]) rfl rfl ?_
  refine qm_G.s1 rfl (qm_x_pushI 1 rfl) ?_
  refine qm_G.s1 rfl (qm_x_if_eq_f ⟨by decide, by decide⟩ (by decide)) ?_
  refine qm_G.s1 rfl (qm_x_aload rfl) ?_
  refine qm_G.s1 rfl (qm_x_getfI (v := 0) (T3.sd 47 rfl) T3.cd) ?_
  refine qm_G.s1 rfl (qm_x_aload rfl) ?_
  refine qm_G.call rfl rfl rfl ?_
  refine qm_C.go (cd := qm_P0) (lv := [(0, qm_R (some (1, 20, 0)))]) rfl rfl ?_
  refine qm_G.s1 rfl (qm_x_pushI 1 rfl) ?_
  refine qm_G.s1 rfl (qm_x_if_eq_f ⟨by decide, by decide⟩ (by decide)) ?_
  refine qm_G.s1 rfl (qm_x_aload rfl) ?_
  refine qm_G.s1 rfl (qm_x_getgI (v := 0) rfl rfl) ?_
  refine qm_G.s1 rfl (qm_x_goto) ?_
  refine qm_G.ret rfl rfl ⟨_, rfl, ?_⟩
  refine qm_G.s1 rfl (qm_x_icmp_eq_t ⟨by decide, by decide⟩ ⟨by decide, by decide⟩ (by decide)) ?_
  refine qm_G.retv rfl ⟨rfl, ?_⟩
  refine qm_G.s1 rfl (qm_x_aload rfl) ?_
  refine qm_G.s1 rfl (qm_x_aload rfl) ?_
  refine qm_G.s1 rfl (qm_x_getfR (q := (some (0, q3, 0))) (T3.sd 47 rfl) T3.rq) ?_
  refine qm_G.s1 rfl (qm_x_iload rfl) ?_
  refine qm_G.s1 rfl (qm_x_aload rfl) ?_
  refine qm_G.s1 rfl (qm_x_getfI (v := 0) (T3.sd 47 rfl) T3.cd) ?_
  refine qm_G.callv rfl rfl rfl ?_
  refine qm_C.go (cd := qm_P107) (lv := [(0, qm_R (some (1, 20, 0))), (1, qm_R (some (0, q3, 0))), (2, qm_I (qm_i m)), (3, qm_I (qm_i 0))]) rfl rfl ?_
  refine qm_G.s1 rfl (qm_x_aload rfl) ?_
  refine qm_G.call rfl rfl rfl ?_
  refine qm_C.go (cd := qm_P0) (lv := [(0, qm_R (some (1, 20, 0)))]) rfl rfl ?_
  refine qm_G.s1 rfl (qm_x_pushI 1 rfl) ?_
  refine qm_G.s1 rfl (qm_x_if_eq_f ⟨by decide, by decide⟩ (by decide)) ?_
  refine qm_G.s1 rfl (qm_x_aload rfl) ?_
  refine qm_G.s1 rfl (qm_x_getgI (v := 0) rfl rfl) ?_
  refine qm_G.s1 rfl (qm_x_goto) ?_
  refine qm_G.ret rfl rfl ⟨_, rfl, ?_⟩
  refine qm_G.s1 rfl (qm_x_iload rfl) ?_
  refine qm_G.s1 rfl (qm_x_icmp_ne_f ⟨by decide, by decide⟩ ⟨by decide, by decide⟩ (by decide)) ?_
  refine qm_G.s1 rfl (qm_x_aload rfl) ?_
  refine qm_G.s1 rfl (qm_x_getgR rfl rfl) ?_
  refine qm_G.s1 rfl (qm_x_pushI 0 rfl) ?_
  refine qm_G.s1 rfl (qm_x_aload rfl) ?_
  refine qm_G.s1 rfl (qm_x_iload rfl) ?_
  refine qm_G.s1 rfl (qm_x_iload rfl) ?_
  refine qm_G.s1 rfl (qm_x_ishl0) ?_
  refine qm_G.s1 rfl (qm_x_aload rfl) ?_
  refine qm_G.s1 rfl (qm_x_getgR rfl rfl) ?_
  refine qm_G.s1 rfl (qm_x_alen1 (len := 6) rfl) ?_
  refine qm_G.s1 rfl (qm_x_bcopy (la := 6) rfl (qm_arD T3.sq) rfl (by omega) (by decide) (by decide) (by omega)) ?_
  refine qm_G.s1 rfl (qm_x_goto) ?_
  refine qm_G.retv rfl ⟨rfl, ?_⟩
  refine qm_G.retv rfl ⟨rfl, ?_⟩
  refine qm_G.s1 rfl (qm_x_aload rfl) ?_
  refine qm_G.s1 rfl (qm_x_dupR) ?_
  refine qm_G.s1 rfl (qm_x_getfI (v := m) (T3.sd 47 rfl) T3.ct) ?_
  refine qm_G.s1 rfl (qm_x_iload rfl) ?_
  refine qm_G.s1 rfl (qm_x_iadd) ?_
  refine qm_G.s1 rfl (qm_x_putfI (T3.sd 47 rfl)) ?_
  refine qm_G.s1 rfl (qm_x_aload rfl) ?_
  refine qm_G.ret rfl rfl ⟨_, rfl, ?_⟩
  refine qm_G.s1 rfl (qm_x_popR) ?_
  refine qm_G.s1 rfl (qm_x_aload rfl) ?_
  have rg : ∀ j, j < 6 → 0 ≤ (qm_SB 33 j).toInt ∧ (qm_SB 33 j).toInt ≤ 127 := by decide +kernel
  refine qm_G.ret rfl rfl (k _ _ _ _ _ _ _ _ (T3.more (c := 6) rfl (by omega) (fun r s i h => ?_) (fun j hj => ?_) (fun j hj => ?_)))
  · unfold qm_bcp
    rw [if_neg (by omega)]
  · unfold qm_bcp
    rw [if_pos ⟨rfl, rfl, by omega, by omega⟩, hF j hj, show m.toNat + j - Int.toNat m = j by omega]
  · rw [hF j hj]; exact rg j hj
theorem qm_d_aps21 {S0 S : List qm_Sh} {J0 J K0 K : qm_J} {L0 L : qm_Ct Int64} {D0 D : qm_Ct UInt64} {R0 R : qm_Ct (Option qm_Rf)} {q n : Nat} {m : Int} {F : Nat → Int} {X : Nat × (Nat → Int32)} {Q : Option qm_V → qm_Hp → Prop} (T : qm_Tq S0 S J0 J K0 K L0 L D0 D R0 R q n m F) (h1 : m + 5 ≤ 34) (hF : ∀ j, j < 5 → F (m.toNat + j) = (qm_SB 34 j).toInt) (k : ∀ S' J' K' L' D' R' q' n', qm_Tq S0 S' J0 J' K0 K' L0 L' D0 D' R0 R' q' n' (m + 5) F → Q (some (qm_R (some (0, 47, 0)))) (qm_H S' J' K' L' D' R' X)) : qm_C qm_P 201 [qm_R (some (0, 47, 0)), qm_R (some (1, 21, 0))] (qm_H S J K L D R X) Q := by
  have gn1 := T.hn
  have gm2 := T.rm
  refine qm_C.go (cd := qm_P201) (lv := [(0, qm_R (some (0, 47, 0))), (1, qm_R (some (1, 21, 0)))]) rfl rfl ?_
  refine qm_G.s1 rfl (qm_x_aload rfl) ?_
  refine qm_G.s1 rfl (qm_x_aload rfl) ?_
  refine qm_G.cm rfl rfl (T.sd 47 rfl) rfl ?_
  refine qm_C.go (cd := qm_P184) (lv := [(0, qm_R (some (0, 47, 0))), (1, qm_R (some (1, 21, 0)))]) rfl rfl ?_
  refine qm_G.s1 rfl (qm_x_aload rfl) ?_
  refine qm_G.s1 rfl (qm_x_ifnonnull1) ?_
  refine qm_G.sp (lv1 := [(0, qm_R (some (0, 47, 0))), (1, qm_R (some (1, 21, 0)))]) rfl rfl (qm_x_aload rfl) ?_
  refine qm_G.call rfl rfl rfl ?_
  refine qm_C.go (cd := qm_P53) (lv := [(0, qm_R (some (1, 21, 0)))]) rfl rfl ?_
  refine qm_G.s1 rfl (qm_x_aload rfl) ?_
  refine qm_G.s1 rfl (qm_x_getgR rfl rfl) ?_
  refine qm_G.s1 rfl (qm_x_alen1 (len := 5) rfl) ?_
  refine qm_G.s1 rfl (qm_x_aload rfl) ?_
  refine qm_G.call rfl rfl rfl ?_
  refine qm_C.go (cd := qm_P0) (lv := [(0, qm_R (some (1, 21, 0)))]) rfl rfl ?_
  refine qm_G.s1 rfl (qm_x_pushI 1 rfl) ?_
  refine qm_G.s1 rfl (qm_x_if_eq_f ⟨by decide, by decide⟩ (by decide)) ?_
  refine qm_G.s1 rfl (qm_x_aload rfl) ?_
  refine qm_G.s1 rfl (qm_x_getgI (v := 0) rfl rfl) ?_
  refine qm_G.s1 rfl (qm_x_goto) ?_
  refine qm_G.ret rfl rfl ⟨_, rfl, ?_⟩
  refine qm_G.s1 rfl (qm_x_ishr0) ?_
  refine qm_G.ret rfl rfl ⟨_, rfl, ?_⟩
  refine qm_G.s1 rfl (qm_x_istore (lv' := [(2, qm_I (qm_i 5)), (0, qm_R (some (0, 47, 0))), (1, qm_R (some (1, 21, 0)))]) rfl) ?_
  refine qm_G.s1 rfl (qm_x_aload rfl) ?_
  refine qm_G.s1 rfl (qm_x_aload rfl) ?_
  refine qm_G.s1 rfl (qm_x_getfI (v := m) (T.sd 47 rfl) T.ct) ?_
  refine qm_G.s1 rfl (qm_x_iload rfl) ?_
  refine qm_G.s1 rfl (qm_x_iadd) ?_
  refine qm_G.cmv rfl rfl (T.sd 47 rfl) rfl ?_
  refine qm_d_ens T (by omega) (fun S3 J3 K3 L3 D3 R3 q3 n3 T3 e3 => ⟨rfl, ?_⟩)
  have gn3 := T3.hn
  have gm3 := T3.rm
  refine qm_G.s1 rfl (qm_x_aload rfl) ?_
  refine qm_G.s1 rfl (qm_x_aload rfl) ?_
  refine qm_G.s1 rfl (qm_x_getfI (v := m) (T3.sd 47 rfl) T3.ct) ?_
  refine qm_G.s1 rfl (qm_x_aload rfl) ?_
  refine qm_G.cmv rfl rfl (T3.sd 47 rfl) rfl ?_
  refine qm_C.go (cd := qm_P157) (lv := [(0, qm_R (some (0, 47, 0))), (1, qm_I (qm_i m)), (2, qm_R (some (1, 21, 0)))]) rfl rfl ?_
  refine qm_G.s1 rfl (qm_x_aload rfl) ?_
  refine qm_G.s1 rfl (qm_x_aload rfl) ?_
  refine qm_G.cmv rfl rfl (T3.sd 47 rfl) rfl ?_
  refine qm_C.go (cd := qm_P55) (lv := [(0, qm_R (some (0, 47, 0))), (1, qm_R (some (1, 21, 0)))]) rfl rfl ?_
  refine qm_G.s1 rfl (qm_x_pushI 1 rfl) ?_
  refine qm_G.s1 rfl (qm_x_if_eq_f ⟨by decide, by decide⟩ (by decide)) ?_
  refine qm_G.s1 rfl (qm_x_aload rfl) ?_
  refine qm_G.s1 rfl (qm_x_getfI (v := 0) (T3.sd 47 rfl) T3.cd) ?_
  refine qm_G.s1 rfl (qm_x_aload rfl) ?_
  refine qm_G.call rfl rfl rfl ?_
  refine qm_C.go (cd := qm_P0) (lv := [(0, qm_R (some (1, 21, 0)))]) rfl rfl ?_
  refine qm_G.s1 rfl (qm_x_pushI 1 rfl) ?_
  refine qm_G.s1 rfl (qm_x_if_eq_f ⟨by decide, by decide⟩ (by decide)) ?_
  refine qm_G.s1 rfl (qm_x_aload rfl) ?_
  refine qm_G.s1 rfl (qm_x_getgI (v := 0) rfl rfl) ?_
  refine qm_G.s1 rfl (qm_x_goto) ?_
  refine qm_G.ret rfl rfl ⟨_, rfl, ?_⟩
  refine qm_G.s1 rfl (qm_x_icmp_eq_t ⟨by decide, by decide⟩ ⟨by decide, by decide⟩ (by decide)) ?_
  refine qm_G.retv rfl ⟨rfl, ?_⟩
  refine qm_G.s1 rfl (qm_x_aload rfl) ?_
  refine qm_G.s1 rfl (qm_x_aload rfl) ?_
  refine qm_G.s1 rfl (qm_x_getfR (q := (some (0, q3, 0))) (T3.sd 47 rfl) T3.rq) ?_
  refine qm_G.s1 rfl (qm_x_iload rfl) ?_
  refine qm_G.s1 rfl (qm_x_aload rfl) ?_
  refine qm_G.s1 rfl (qm_x_getfI (v := 0) (T3.sd 47 rfl) T3.cd) ?_
  refine qm_G.callv rfl rfl rfl ?_
  refine qm_C.go (cd := qm_P107) (lv := [(0, qm_R (some (1, 21, 0))), (1, qm_R (some (0, q3, 0))), (2, qm_I (qm_i m)), (3, qm_I (qm_i 0))]) rfl rfl ?_
  refine qm_G.s1 rfl (qm_x_aload rfl) ?_
  refine qm_G.call rfl rfl rfl ?_
  refine qm_C.go (cd := qm_P0) (lv := [(0, qm_R (some (1, 21, 0)))]) rfl rfl ?_
  refine qm_G.s1 rfl (qm_x_pushI 1 rfl) ?_
  refine qm_G.s1 rfl (qm_x_if_eq_f ⟨by decide, by decide⟩ (by decide)) ?_
  refine qm_G.s1 rfl (qm_x_aload rfl) ?_
  refine qm_G.s1 rfl (qm_x_getgI (v := 0) rfl rfl) ?_
  refine qm_G.s1 rfl (qm_x_goto) ?_
  refine qm_G.ret rfl rfl ⟨_, rfl, ?_⟩
  refine qm_G.s1 rfl (qm_x_iload rfl) ?_
  refine qm_G.s1 rfl (qm_x_icmp_ne_f ⟨by decide, by decide⟩ ⟨by decide, by decide⟩ (by decide)) ?_
  refine qm_G.s1 rfl (qm_x_aload rfl) ?_
  refine qm_G.s1 rfl (qm_x_getgR rfl rfl) ?_
  refine qm_G.s1 rfl (qm_x_pushI 0 rfl) ?_
  refine qm_G.s1 rfl (qm_x_aload rfl) ?_
  refine qm_G.s1 rfl (qm_x_iload rfl) ?_
  refine qm_G.s1 rfl (qm_x_iload rfl) ?_
  refine qm_G.s1 rfl (qm_x_ishl0) ?_
  refine qm_G.s1 rfl (qm_x_aload rfl) ?_
  refine qm_G.s1 rfl (qm_x_getgR rfl rfl) ?_
  refine qm_G.s1 rfl (qm_x_alen1 (len := 5) rfl) ?_
  refine qm_G.s1 rfl (qm_x_bcopy (la := 5) rfl (qm_arD T3.sq) rfl (by omega) (by decide) (by decide) (by omega)) ?_
  refine qm_G.s1 rfl (qm_x_goto) ?_
  refine qm_G.retv rfl ⟨rfl, ?_⟩
  refine qm_G.retv rfl ⟨rfl, ?_⟩
  refine qm_G.s1 rfl (qm_x_aload rfl) ?_
  refine qm_G.s1 rfl (qm_x_dupR) ?_
  refine qm_G.s1 rfl (qm_x_getfI (v := m) (T3.sd 47 rfl) T3.ct) ?_
  refine qm_G.s1 rfl (qm_x_iload rfl) ?_
  refine qm_G.s1 rfl (qm_x_iadd) ?_
  refine qm_G.s1 rfl (qm_x_putfI (T3.sd 47 rfl)) ?_
  refine qm_G.s1 rfl (qm_x_aload rfl) ?_
  refine qm_G.ret rfl rfl ⟨_, rfl, ?_⟩
  refine qm_G.s1 rfl (qm_x_popR) ?_
  refine qm_G.s1 rfl (qm_x_aload rfl) ?_
  have rg : ∀ j, j < 5 → 0 ≤ (qm_SB 34 j).toInt ∧ (qm_SB 34 j).toInt ≤ 127 := by decide +kernel
  refine qm_G.ret rfl rfl (k _ _ _ _ _ _ _ _ (T3.more (c := 5) rfl (by omega) (fun r s i h => ?_) (fun j hj => ?_) (fun j hj => ?_)))
  · unfold qm_bcp
    rw [if_neg (by omega)]
  · unfold qm_bcp
    rw [if_pos ⟨rfl, rfl, by omega, by omega⟩, hF j hj, show m.toNat + j - Int.toNat m = j by omega]
  · rw [hF j hj]; exact rg j hj
theorem qm_d_chr {S0 S : List qm_Sh} {J0 J K0 K : qm_J} {L0 L : qm_Ct Int64} {D0 D : qm_Ct UInt64} {R0 R : qm_Ct (Option qm_Rf)} {q n : Nat} {m : Int} {F : Nat → Int} {X : Nat × (Nat → Int32)} {Q : Option qm_V → qm_Hp → Prop} {i : Int} (T : qm_Tq S0 S J0 J K0 K L0 L D0 D R0 R q n m F) (hi : 0 ≤ i ∧ i < m) (k : Q (some (qm_I (qm_i (F i.toNat)))) (qm_H S J K L D R X)) : qm_C qm_P 167 [qm_R (some (0, 47, 0)), qm_I (qm_i i)] (qm_H S J K L D R X) Q := by
  have gn1 := T.hn
  have gm2 := T.rm
  refine qm_C.go (cd := qm_P167) (lv := [(0, qm_R (some (0, 47, 0))), (1, qm_I (qm_i i))]) rfl rfl ?_
  refine qm_G.s1 rfl (qm_x_aload rfl) ?_
  refine qm_G.s1 rfl (qm_x_iload rfl) ?_
  refine qm_G.cm rfl rfl (T.sd 47 rfl) rfl ?_
  refine qm_C.go (cd := qm_P135) (lv := [(0, qm_R (some (0, 47, 0))), (1, qm_I (qm_i i))]) rfl rfl ?_
  refine qm_G.s1 rfl (qm_x_aload rfl) ?_
  refine qm_G.s1 rfl (qm_x_getfI (v := 0) (T.sd 47 rfl) T.cd) ?_
  refine qm_G.s1 rfl (qm_x_istore (lv' := [(2, qm_I (qm_i 0)), (0, qm_R (some (0, 47, 0))), (1, qm_I (qm_i i))]) rfl) ?_
  refine qm_G.s1 rfl (qm_x_aload rfl) ?_
  refine qm_G.s1 rfl (qm_x_getfR (q := (some (0, q, 0))) (T.sd 47 rfl) T.rq) ?_
  refine qm_G.s1 rfl (qm_x_astore (lv' := [(3, qm_R (some (0, q, 0))), (2, qm_I (qm_i 0)), (0, qm_R (some (0, 47, 0))), (1, qm_I (qm_i i))]) rfl) ?_
  refine qm_G.s1 rfl (qm_x_aload rfl) ?_
  refine qm_G.s1 rfl (qm_x_getfI (v := m) (T.sd 47 rfl) T.ct) ?_
  refine qm_G.s1 rfl (qm_x_aload rfl) ?_
  refine qm_G.s1 rfl (qm_x_alen T.sq rfl) ?_
  refine qm_G.s1 rfl (qm_x_iload rfl) ?_
  refine qm_G.s1 rfl (qm_x_ishr0) ?_
  refine qm_G.cs rfl rfl rfl ?_
  refine qm_v_min ⟨by omega, by omega⟩ ⟨by omega, by omega⟩ (fun w3 c4 => ⟨_, rfl, ?_⟩)
  refine qm_G.s1 rfl (qm_x_istore (lv' := [(4, qm_I (qm_i w3)), (3, qm_R (some (0, q, 0))), (2, qm_I (qm_i 0)), (0, qm_R (some (0, 47, 0))), (1, qm_I (qm_i i))]) rfl) ?_
  refine qm_G.s1 rfl (qm_x_iload rfl) ?_
  refine qm_G.s1 rfl (qm_x_iload rfl) ?_
  refine qm_G.csv rfl rfl rfl ?_
  refine qm_C.go (cd := qm_P69) (lv := [(0, qm_I (qm_i i)), (1, qm_I (qm_i w3))]) rfl rfl ?_
  refine qm_G.s1 rfl (qm_x_iload rfl) ?_
  refine qm_G.s1 rfl (qm_x_iload rfl) ?_
  refine qm_G.s1 rfl (show qm_St (qm_o_sio 5) _ _ _ _ _ (qm_R (qm_sio X) :: _) _ from rfl) ?_
  refine qm_G.cs rfl rfl rfl ?_
  refine qm_C.go (cd := qm_P3) (lv := [(0, qm_I (qm_i i)), (1, qm_I (qm_i w3)), (2, qm_R ((qm_sio X)))]) rfl rfl ?_
  refine qm_G.s1 rfl (qm_x_iload rfl) ?_
  refine qm_G.s1 rfl (qm_x_if_lt_f ⟨by omega, by omega⟩ (by omega)) ?_
  refine qm_G.s1 rfl (qm_x_iload rfl) ?_
  refine qm_G.s1 rfl (qm_x_iload rfl) ?_
  refine qm_G.s1 rfl (qm_x_icmp_lt_t ⟨by omega, by omega⟩ ⟨by omega, by omega⟩ (by omega)) ?_
  refine qm_G.sp (lv1 := [(0, qm_I (qm_i i))]) rfl rfl (qm_x_iload rfl) ?_
  refine qm_G.ret rfl rfl ⟨_, rfl, ?_⟩
  refine qm_G.s1 rfl (qm_x_popI) ?_
  refine qm_G.retv rfl ⟨rfl, ?_⟩
  refine qm_G.s1 rfl (qm_x_iload rfl) ?_
  refine qm_G.s1 rfl (qm_x_if_ne_f ⟨by decide, by decide⟩ (by decide)) ?_
  refine qm_G.s1 rfl (qm_x_aload rfl) ?_
  refine qm_G.s1 rfl (qm_x_iload rfl) ?_
  have hc9 := T.cs (Int.toNat i) (by omega)
  refine qm_G.s1 rfl (qm_x_bald (v := F (Int.toNat i)) (qm_arD T.sq) (qm_ble34 (by omega)) (by omega) (by omega) (by decide) hc9.1 (by omega)) ?_
  refine qm_G.s1 rfl (qm_x_pushI 255 rfl) ?_
  refine qm_G.s1 rfl (qm_x_iand255 (by omega)) ?_
  refine qm_G.s1 rfl (qm_x_i2c (by omega)) ?_
  refine qm_G.ret rfl (qm_rok8 (by omega)) ⟨_, rfl, ?_⟩
  exact qm_G.ret rfl (qm_rok8 (by omega)) k
