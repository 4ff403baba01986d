/-! THE LAW, case 34 -/
theorem qm_case34 {S : List qm_Sh} {J K : qm_J} {L : qm_Ct Int64} {D : qm_Ct UInt64} {R : qm_Ct (Option qm_Rf)} {X : Nat × (Nat → Int32)} {k : Nat} {z : Int} {Q : Option qm_V → qm_Hp → Prop} {a1 : Int} {a2 : Int} {a3 : Int} {a4 : Int} (hI : qm_Inv S J K L D R k) (hX : X.1 ≤ 3072) (h0 : 0 ≤ z) (h6 : z + 6 ≤ X.1) (e1 : (X.2 (Int.toNat (z + 1))).toInt = a1) (e2 : (X.2 (Int.toNat (z + 2))).toInt = a2) (e3 : (X.2 (Int.toNat (z + 3))).toInt = a3) (e4 : (X.2 (Int.toNat (z + 4))).toInt = a4) (ih : ∀ (S : List qm_Sh) (J K : qm_J) (L : qm_Ct Int64) (D : qm_Ct UInt64) (R : qm_Ct (Option qm_Rf)), qm_Inv S J K L D R (k + 1) → qm_G qm_P qm_P222 1445 [(0, qm_R (some (2, 0, 0))), (1, qm_R (some (0, 0, 0))), (2, qm_R (some (0, 61, 0))), (3, qm_I (qm_i z))] [] (qm_H S J K L D R X) Q) : qm_G qm_P qm_P222 1275 [(0, qm_R (some (2, 0, 0))), (1, qm_R (some (0, 0, 0))), (2, qm_R (some (0, 61, 0))), (3, qm_I (qm_i z))] [] (qm_H S J K L D R X) Q := by
  have hS := hI.sd
  have hR := hI.rd
  have s1 : qm_sm a1 := e1 ▸ qm_i_sml _
  have s2 : qm_sm a2 := e2 ▸ qm_i_sml _
  have s3 : qm_sm a3 := e3 ▸ qm_i_sml _
  have s4 : qm_sm a4 := e4 ▸ qm_i_sml _
  rcases (show a1 = 0 ∨ a1 = 1 ∨ a1 = 2 ∨ a1 = 3 ∨ a1 = 4 ∨ a1 = 5 ∨ (a1 < 0 ∨ 5 < a1) by omega) with d1 | d1 | d1 | d1 | d1 | d1 | d1
  · subst d1
    refine qm_G.sp (lv1 := [(0, qm_R (some (2, 0, 0))), (1, qm_R (some (0, 0, 0))), (2, qm_R (some (0, 61, 0))), (3, qm_I (qm_i z))]) rfl rfl (qm_x_aload rfl) ?_
    refine qm_G.s1 rfl (qm_x_aload rfl) ?_
    refine qm_G.s1 rfl (qm_x_iload rfl) ?_
    refine qm_G.s1 rfl (qm_x_pushI 1 rfl) ?_
    refine qm_G.s1 rfl (qm_x_iadd) ?_
    refine qm_G.s1 rfl (qm_x_iald2v (v := 0) (by omega) (by omega) hX e1) ?_
    refine qm_G.s1 rfl (qm_x_aload rfl) ?_
    refine qm_G.s1 rfl (qm_x_iload rfl) ?_
    refine qm_G.s1 rfl (qm_x_pushI 2 rfl) ?_
    refine qm_G.s1 rfl (qm_x_iadd) ?_
    refine qm_G.s1 rfl (qm_x_iald2v (v := a2) (by omega) (by omega) hX e2) ?_
    refine qm_G.s1 rfl (qm_x_aload rfl) ?_
    refine qm_G.s1 rfl (qm_x_iload rfl) ?_
    refine qm_G.s1 rfl (qm_x_pushI 3 rfl) ?_
    refine qm_G.s1 rfl (qm_x_iadd) ?_
    refine qm_G.s1 rfl (qm_x_iald2v (v := a3) (by omega) (by omega) hX e3) ?_
    refine qm_G.s1 rfl (qm_x_i2l ⟨by omega, by omega⟩) ?_
    refine qm_G.s1 rfl (qm_x_pushI 32 rfl) ?_
    refine qm_G.s1 rfl (qm_x_lshl) ?_
    refine qm_G.s1 rfl (qm_x_aload rfl) ?_
    refine qm_G.s1 rfl (qm_x_iload rfl) ?_
    refine qm_G.s1 rfl (qm_x_pushI 4 rfl) ?_
    refine qm_G.s1 rfl (qm_x_iadd) ?_
    refine qm_G.s1 rfl (qm_x_iald2v (v := a4) (by omega) (by omega) hX e4) ?_
    refine qm_G.s1 rfl (qm_x_i2l ⟨by omega, by omega⟩) ?_
    refine qm_G.s1 rfl (qm_x_pushL 4294967295 rfl) ?_
    refine qm_G.s1 rfl (qm_x_land) ?_
    refine qm_G.s1 rfl (qm_x_lor) ?_
    refine qm_G.cm rfl rfl (hS 0 rfl) rfl ?_
    refine qm_C.go (cd := qm_P114) (lv := [(0, qm_R (some (0, 0, 0))), (1, qm_I (qm_i 0)), (2, qm_I (qm_i a2)), (3, qm_L (((qm_l a3) <<< ((qm_i 32).toInt64 &&& 63)) ||| ((qm_l a4) &&& (qm_l 4294967295))))]) rfl rfl ?_
    refine qm_G.s1 rfl (qm_x_iload rfl) ?_
    refine qm_G.cs rfl rfl rfl ?_
    refine qm_C.go (cd := qm_P76) (lv := [(0, qm_I (qm_i 0))]) rfl rfl ?_
    refine qm_G.s1 rfl (qm_x_iload rfl) ?_
    refine qm_G.s1 rfl (qm_x_pushI 0 rfl) ?_
    refine qm_G.s1 rfl (qm_x_pushI 5 rfl) ?_
    refine qm_G.cs rfl rfl rfl ?_
    refine qm_v_within10_t ⟨by decide, by decide⟩ ⟨by decide, by decide⟩ ⟨by decide, by decide⟩ (by decide) ⟨_, rfl, ?_⟩
    refine qm_G.ret rfl rfl ⟨_, rfl, ?_⟩
    refine qm_G.s1 rfl (qm_x_if_ne_t ⟨by decide, by decide⟩ (by decide)) ?_
    refine qm_G.sp (lv1 := [(0, qm_R (some (0, 0, 0))), (1, qm_I (qm_i 0)), (2, qm_I (qm_i a2)), (3, qm_L (((qm_l a3) <<< ((qm_i 32).toInt64 &&& 63)) ||| ((qm_l a4) &&& (qm_l 4294967295))))]) rfl rfl (qm_x_aload rfl) ?_
    refine qm_G.s1 rfl (qm_x_getfR (q := (some (0, 46, 0))) (hS 0 rfl) (hR 0 5 46 rfl rfl)) ?_
    refine qm_G.s1 rfl (qm_x_iload rfl) ?_
    refine qm_G.s1 rfl (qm_x_aaldr (q := (some (0, 49, 0))) (hS 46 rfl) rfl rfl (by decide) (by decide) (hR 46 0 49 rfl rfl)) ?_
    refine qm_G.s1 rfl (qm_x_astore (lv' := [(5, qm_R (some (0, 49, 0))), (0, qm_R (some (0, 0, 0))), (1, qm_I (qm_i 0)), (2, qm_I (qm_i a2)), (3, qm_L (((qm_l a3) <<< ((qm_i 32).toInt64 &&& 63)) ||| ((qm_l a4) &&& (qm_l 4294967295))))]) rfl) ?_
    refine qm_G.s1 rfl (qm_x_aload rfl) ?_
    have f73_0 : 0 ≤ J 73 0 0 ∧ J 73 0 0 ≤ 5 := (hI.srt 0 (by decide)).2
    have f49_1 : J 49 0 1 = J 73 0 0 - 1 := (hI.srt 0 (by decide)).1
    refine qm_G.s1 rfl (qm_x_getfI (v := (J 49 0 1)) (hS 49 rfl) rfl) ?_
    refine qm_G.s1 rfl (qm_x_pushI (-1) rfl) ?_
    refine qm_y_icmp_ne rfl ⟨by omega, by omega⟩ ⟨by decide, by decide⟩ (fun c3 => ?_) (fun c3 => ?_)
    · refine qm_G.sp (lv1 := [(2, qm_I (qm_i a2)), (3, qm_L (((qm_l a3) <<< ((qm_i 32).toInt64 &&& 63)) ||| ((qm_l a4) &&& (qm_l 4294967295)))), (5, qm_R (some (0, 49, 0)))]) rfl rfl (qm_x_iload rfl) ?_
      refine qm_G.s1 rfl (qm_x_pushI 0 rfl) ?_
      refine qm_G.s1 rfl (qm_x_aload rfl) ?_
      have f74_0 : 0 ≤ J 74 0 0 ∧ J 74 0 0 ≤ 60 := ⟨(hI.len 0 (by decide)).2.1, (hI.len 0 (by decide)).2.2.1⟩
      have f49_2 : J 49 0 2 = J 74 0 0 := (hI.len 0 (by decide)).1
      refine qm_G.s1 rfl (qm_x_getfI (v := (J 49 0 2)) (hS 49 rfl) rfl) ?_
      refine qm_G.s1 rfl (qm_x_pushI 1 rfl) ?_
      refine qm_G.s1 rfl (qm_x_isub) ?_
      refine qm_G.cs rfl rfl rfl ?_
      refine qm_v_within10 ⟨by omega, by omega⟩ ⟨by decide, by decide⟩ ⟨by omega, by omega⟩ (fun c4 => ⟨_, rfl, ?_⟩) (fun c4 => ⟨_, rfl, ?_⟩)
      · refine qm_G.s1 rfl (qm_x_if_ne_t ⟨by decide, by decide⟩ (by decide)) ?_
        refine qm_G.sp (lv1 := [(2, qm_I (qm_i a2)), (3, qm_L (((qm_l a3) <<< ((qm_i 32).toInt64 &&& 63)) ||| ((qm_l a4) &&& (qm_l 4294967295)))), (5, qm_R (some (0, 49, 0)))]) rfl rfl (qm_x_aload rfl) ?_
        refine qm_G.s1 rfl (qm_x_getfR (q := (some (0, 50, 0))) (hS 49 rfl) (hR 49 0 50 rfl rfl)) ?_
        refine qm_G.s1 rfl (qm_x_iload rfl) ?_
        refine qm_G.s1 rfl (qm_x_aload rfl) ?_
        refine qm_G.s1 rfl (qm_x_lload rfl) ?_
        refine qm_G.cm rfl rfl (hS 49 rfl) rfl ?_
        refine qm_C.go (cd := qm_P49) (lv := [(0, qm_R (some (0, 49, 0))), (1, qm_L (((qm_l a3) <<< ((qm_i 32).toInt64 &&& 63)) ||| ((qm_l a4) &&& (qm_l 4294967295))))]) rfl rfl ?_
        refine qm_G.s1 rfl (qm_x_aload rfl) ?_
        refine qm_G.s1 rfl (qm_x_getfI (v := (J 49 0 1)) (hS 49 rfl) rfl) ?_
        rcases (show J 49 0 1 = 0 ∨ J 49 0 1 = 1 ∨ J 49 0 1 = 2 ∨ J 49 0 1 = 3 ∨ (J 49 0 1 < 0 ∨ 4 ≤ J 49 0 1) by omega) with c5 | c5 | c5 | c5 | c5
        · refine qm_G.s1 rfl (qm_x_tsweq (v := 0) (t := 36) c5 rfl) ?_
          refine qm_G.sp (lv1 := [(1, qm_L (((qm_l a3) <<< ((qm_i 32).toInt64 &&& 63)) ||| ((qm_l a4) &&& (qm_l 4294967295))))]) rfl rfl (qm_x_lload rfl) ?_
          refine qm_G.s1 rfl (qm_x_l2ir) ?_
          have g6 : qm_sm ((((qm_l a3) <<< ((qm_i 32).toInt64 &&& 63)) ||| ((qm_l a4) &&& (qm_l 4294967295))).toInt32.toInt) := qm_i_sml _
          refine qm_G.s1 rfl (qm_x_i2br) ?_
          have g7 : qm_sm ((qm_i ((((qm_l a3) <<< ((qm_i 32).toInt64 &&& 63)) ||| ((qm_l a4) &&& (qm_l 4294967295))).toInt32.toInt)).toInt8.toInt) := qm_sm8 _
          refine qm_G.s1 rfl (qm_x_i2l ⟨by omega, by omega⟩) ?_
          refine qm_G.ret rfl rfl ⟨_, rfl, ?_⟩
          refine qm_G.s1 rfl (qm_x_last (qm_arS hS rfl rfl) rfl (by omega) (by omega) (by decide)) ?_
          refine qm_G.s1 rfl (qm_x_pushI 1 rfl) ?_
          refine qm_G.ret rfl rfl ⟨_, rfl, ?_⟩
          refine qm_G.s1 rfl (qm_x_aload rfl) ?_
          refine qm_G.s1 rfl (qm_x_aload rfl) ?_
          refine qm_G.s1 rfl (qm_x_iload rfl) ?_
          refine qm_G.s1 rfl (qm_x_pushI 1 rfl) ?_
          refine qm_G.s1 rfl (qm_x_iadd) ?_
          refine qm_G.s1 rfl (qm_x_iald2v (v := 0) (by omega) (by omega) hX e1) ?_
          refine qm_G.s1 rfl (qm_x_aload rfl) ?_
          refine qm_G.s1 rfl (qm_x_iload rfl) ?_
          refine qm_G.s1 rfl (qm_x_pushI 2 rfl) ?_
          refine qm_G.s1 rfl (qm_x_iadd) ?_
          refine qm_G.s1 rfl (qm_x_iald2v (v := a2) (by omega) (by omega) hX e2) ?_
          refine qm_G.s1 rfl (qm_x_aload rfl) ?_
          refine qm_G.s1 rfl (qm_x_iload rfl) ?_
          refine qm_G.s1 rfl (qm_x_pushI 3 rfl) ?_
          refine qm_G.s1 rfl (qm_x_iadd) ?_
          refine qm_G.s1 rfl (qm_x_iald2v (v := a3) (by omega) (by omega) hX e3) ?_
          refine qm_G.s1 rfl (qm_x_i2l ⟨by omega, by omega⟩) ?_
          refine qm_G.s1 rfl (qm_x_pushI 32 rfl) ?_
          refine qm_G.s1 rfl (qm_x_lshl) ?_
          refine qm_G.s1 rfl (qm_x_aload rfl) ?_
          refine qm_G.s1 rfl (qm_x_iload rfl) ?_
          refine qm_G.s1 rfl (qm_x_pushI 4 rfl) ?_
          refine qm_G.s1 rfl (qm_x_iadd) ?_
          refine qm_G.s1 rfl (qm_x_iald2v (v := a4) (by omega) (by omega) hX e4) ?_
          refine qm_G.s1 rfl (qm_x_i2l ⟨by omega, by omega⟩) ?_
          refine qm_G.s1 rfl (qm_x_pushL 4294967295 rfl) ?_
          refine qm_G.s1 rfl (qm_x_land) ?_
          refine qm_G.s1 rfl (qm_x_lor) ?_
          refine qm_G.cm rfl rfl (hS 61 rfl) rfl ?_
          refine qm_C.go (cd := qm_P125) (lv := [(0, qm_R (some (0, 61, 0))), (1, qm_I (qm_i 0)), (2, qm_I (qm_i a2)), (3, qm_L (((qm_l a3) <<< ((qm_i 32).toInt64 &&& 63)) ||| ((qm_l a4) &&& (qm_l 4294967295))))]) rfl rfl ?_
          refine qm_G.s1 rfl (qm_x_iload rfl) ?_
          refine qm_G.cs rfl rfl rfl ?_
          refine qm_C.go (cd := qm_P86) (lv := [(0, qm_I (qm_i 0))]) rfl rfl ?_
          refine qm_G.s1 rfl (qm_x_iload rfl) ?_
          refine qm_G.s1 rfl (qm_x_pushI 0 rfl) ?_
          refine qm_G.s1 rfl (qm_x_pushI 5 rfl) ?_
          refine qm_G.cs rfl rfl rfl ?_
          refine qm_v_within11_t ⟨by decide, by decide⟩ ⟨by decide, by decide⟩ ⟨by decide, by decide⟩ (by decide) ⟨_, rfl, ?_⟩
          refine qm_G.ret rfl rfl ⟨_, rfl, ?_⟩
          refine qm_G.s1 rfl (qm_x_if_ne_t ⟨by decide, by decide⟩ (by decide)) ?_
          refine qm_G.sp (lv1 := [(0, qm_R (some (0, 61, 0))), (1, qm_I (qm_i 0)), (2, qm_I (qm_i a2)), (3, qm_L (((qm_l a3) <<< ((qm_i 32).toInt64 &&& 63)) ||| ((qm_l a4) &&& (qm_l 4294967295))))]) rfl rfl (qm_x_aload rfl) ?_
          refine qm_G.s1 rfl (qm_x_getfR (q := (some (0, 73, 0))) (hS 61 rfl) (hR 61 20 73 rfl rfl)) ?_
          refine qm_G.s1 rfl (qm_x_iload rfl) ?_
          refine qm_G.s1 rfl (qm_x_iald (v := (J 73 0 0)) (qm_arS hS rfl rfl) rfl (by decide) (by decide) (by decide) rfl) ?_
          refine qm_G.s1 rfl (qm_x_if_ne_t ⟨by omega, by omega⟩ (by omega)) ?_
          refine qm_G.sp (lv1 := [(0, qm_R (some (0, 61, 0))), (1, qm_I (qm_i 0)), (2, qm_I (qm_i a2)), (3, qm_L (((qm_l a3) <<< ((qm_i 32).toInt64 &&& 63)) ||| ((qm_l a4) &&& (qm_l 4294967295))))]) rfl rfl (qm_x_iload rfl) ?_
          refine qm_G.s1 rfl (qm_x_pushI 0 rfl) ?_
          refine qm_G.s1 rfl (qm_x_aload rfl) ?_
          refine qm_G.s1 rfl (qm_x_getfR (q := (some (0, 74, 0))) (hS 61 rfl) (hR 61 21 74 rfl rfl)) ?_
          refine qm_G.s1 rfl (qm_x_iload rfl) ?_
          refine qm_G.s1 rfl (qm_x_iald (v := (J 74 0 0)) (qm_arS hS rfl rfl) rfl (by decide) (by decide) (by decide) rfl) ?_
          refine qm_G.s1 rfl (qm_x_pushI 1 rfl) ?_
          refine qm_G.s1 rfl (qm_x_isub) ?_
          refine qm_G.cs rfl rfl rfl ?_
          refine qm_v_within11_t ⟨by omega, by omega⟩ ⟨by decide, by decide⟩ ⟨by omega, by omega⟩ (by omega) ⟨_, rfl, ?_⟩
          refine qm_G.s1 rfl (qm_x_if_ne_t ⟨by decide, by decide⟩ (by decide)) ?_
          refine qm_G.sp (lv1 := [(0, qm_R (some (0, 61, 0))), (1, qm_I (qm_i 0)), (2, qm_I (qm_i a2)), (3, qm_L (((qm_l a3) <<< ((qm_i 32).toInt64 &&& 63)) ||| ((qm_l a4) &&& (qm_l 4294967295))))]) rfl rfl (qm_x_aload rfl) ?_
          refine qm_G.s1 rfl (qm_x_getfR (q := (some (0, 73, 0))) (hS 61 rfl) (hR 61 20 73 rfl rfl)) ?_
          refine qm_G.s1 rfl (qm_x_iload rfl) ?_
          refine qm_G.s1 rfl (qm_x_iald (v := (J 73 0 0)) (qm_arS hS rfl rfl) rfl (by decide) (by decide) (by decide) rfl) ?_
          refine qm_G.s1 rfl (qm_x_istore (lv' := [(5, qm_I (qm_i (J 73 0 0))), (0, qm_R (some (0, 61, 0))), (1, qm_I (qm_i 0)), (2, qm_I (qm_i a2)), (3, qm_L (((qm_l a3) <<< ((qm_i 32).toInt64 &&& 63)) ||| ((qm_l a4) &&& (qm_l 4294967295))))]) rfl) ?_
          refine qm_G.s1 rfl (qm_x_aload rfl) ?_
          refine qm_G.s1 rfl (qm_x_getfR (q := (some (0, 75, 0))) (hS 61 rfl) (hR 61 22 75 rfl rfl)) ?_
          refine qm_G.s1 rfl (qm_x_pushI 60 rfl) ?_
          refine qm_G.s1 rfl (qm_x_iload rfl) ?_
          refine qm_G.s1 rfl (qm_x_imul) ?_
          refine qm_G.s1 rfl (qm_x_iload rfl) ?_
          refine qm_G.s1 rfl (qm_x_iadd) ?_
          refine qm_G.s1 rfl (qm_x_iload rfl) ?_
          refine qm_G.s1 rfl (qm_x_pushI 1 rfl) ?_
          refine qm_G.s1 rfl (qm_x_icmp_ne_f ⟨by omega, by omega⟩ ⟨by decide, by decide⟩ (by omega)) ?_
          refine qm_G.s1 rfl (qm_x_lload rfl) ?_
          refine qm_G.s1 rfl (qm_x_l2ir) ?_
          have g10 : qm_sm ((((qm_l a3) <<< ((qm_i 32).toInt64 &&& 63)) ||| ((qm_l a4) &&& (qm_l 4294967295))).toInt32.toInt) := qm_i_sml _
          refine qm_G.s1 rfl (qm_x_i2br) ?_
          have g11 : qm_sm ((qm_i ((((qm_l a3) <<< ((qm_i 32).toInt64 &&& 63)) ||| ((qm_l a4) &&& (qm_l 4294967295))).toInt32.toInt)).toInt8.toInt) := qm_sm8 _
          refine qm_G.s1 rfl (qm_x_i2l ⟨by omega, by omega⟩) ?_
          refine qm_G.s1 rfl (qm_x_goto) ?_
          refine qm_G.sp (lv1 := []) rfl rfl (qm_x_last (qm_arS hS rfl rfl) rfl (by omega) (by omega) (by decide)) ?_
          refine qm_G.s1 rfl (qm_x_pushI 1 rfl) ?_
          refine qm_G.ret rfl rfl ⟨_, rfl, ?_⟩
          refine qm_G.s1 rfl (qm_x_icmp_eq_t ⟨by decide, by decide⟩ ⟨by decide, by decide⟩ (by decide)) ?_
          rw [show (Int.toNat ((60 * 0) + a2)) = 0 + (Int.toNat a2) by omega]
          exact ih _ _ _ _ _ _ (qm_U_itm0 (by omega) hI)
        · refine qm_G.s1 rfl (qm_x_tsweq (v := 1) (t := 41) c5 rfl) ?_
          refine qm_G.sp (lv1 := [(1, qm_L (((qm_l a3) <<< ((qm_i 32).toInt64 &&& 63)) ||| ((qm_l a4) &&& (qm_l 4294967295))))]) rfl rfl (qm_x_lload rfl) ?_
          refine qm_G.s1 rfl (qm_x_l2ir) ?_
          have g12 : qm_sm ((((qm_l a3) <<< ((qm_i 32).toInt64 &&& 63)) ||| ((qm_l a4) &&& (qm_l 4294967295))).toInt32.toInt) := qm_i_sml _
          refine qm_G.s1 rfl (qm_x_i2sr) ?_
          have g13 : qm_sm ((qm_i ((((qm_l a3) <<< ((qm_i 32).toInt64 &&& 63)) ||| ((qm_l a4) &&& (qm_l 4294967295))).toInt32.toInt)).toInt16.toInt) := qm_sm16 _
          refine qm_G.s1 rfl (qm_x_i2l ⟨by omega, by omega⟩) ?_
          refine qm_G.ret rfl rfl ⟨_, rfl, ?_⟩
          refine qm_G.s1 rfl (qm_x_last (qm_arS hS rfl rfl) rfl (by omega) (by omega) (by decide)) ?_
          refine qm_G.s1 rfl (qm_x_pushI 1 rfl) ?_
          refine qm_G.ret rfl rfl ⟨_, rfl, ?_⟩
          refine qm_G.s1 rfl (qm_x_aload rfl) ?_
          refine qm_G.s1 rfl (qm_x_aload rfl) ?_
          refine qm_G.s1 rfl (qm_x_iload rfl) ?_
          refine qm_G.s1 rfl (qm_x_pushI 1 rfl) ?_
          refine qm_G.s1 rfl (qm_x_iadd) ?_
          refine qm_G.s1 rfl (qm_x_iald2v (v := 0) (by omega) (by omega) hX e1) ?_
          refine qm_G.s1 rfl (qm_x_aload rfl) ?_
          refine qm_G.s1 rfl (qm_x_iload rfl) ?_
          refine qm_G.s1 rfl (qm_x_pushI 2 rfl) ?_
          refine qm_G.s1 rfl (qm_x_iadd) ?_
          refine qm_G.s1 rfl (qm_x_iald2v (v := a2) (by omega) (by omega) hX e2) ?_
          refine qm_G.s1 rfl (qm_x_aload rfl) ?_
          refine qm_G.s1 rfl (qm_x_iload rfl) ?_
          refine qm_G.s1 rfl (qm_x_pushI 3 rfl) ?_
          refine qm_G.s1 rfl (qm_x_iadd) ?_
          refine qm_G.s1 rfl (qm_x_iald2v (v := a3) (by omega) (by omega) hX e3) ?_
          refine qm_G.s1 rfl (qm_x_i2l ⟨by omega, by omega⟩) ?_
          refine qm_G.s1 rfl (qm_x_pushI 32 rfl) ?_
          refine qm_G.s1 rfl (qm_x_lshl) ?_
          refine qm_G.s1 rfl (qm_x_aload rfl) ?_
          refine qm_G.s1 rfl (qm_x_iload rfl) ?_
          refine qm_G.s1 rfl (qm_x_pushI 4 rfl) ?_
          refine qm_G.s1 rfl (qm_x_iadd) ?_
          refine qm_G.s1 rfl (qm_x_iald2v (v := a4) (by omega) (by omega) hX e4) ?_
          refine qm_G.s1 rfl (qm_x_i2l ⟨by omega, by omega⟩) ?_
          refine qm_G.s1 rfl (qm_x_pushL 4294967295 rfl) ?_
          refine qm_G.s1 rfl (qm_x_land) ?_
          refine qm_G.s1 rfl (qm_x_lor) ?_
          refine qm_G.cm rfl rfl (hS 61 rfl) rfl ?_
          refine qm_C.go (cd := qm_P125) (lv := [(0, qm_R (some (0, 61, 0))), (1, qm_I (qm_i 0)), (2, qm_I (qm_i a2)), (3, qm_L (((qm_l a3) <<< ((qm_i 32).toInt64 &&& 63)) ||| ((qm_l a4) &&& (qm_l 4294967295))))]) rfl rfl ?_
          refine qm_G.s1 rfl (qm_x_iload rfl) ?_
          refine qm_G.cs rfl rfl rfl ?_
          refine qm_C.go (cd := qm_P86) (lv := [(0, qm_I (qm_i 0))]) rfl rfl ?_
          refine qm_G.s1 rfl (qm_x_iload rfl) ?_
          refine qm_G.s1 rfl (qm_x_pushI 0 rfl) ?_
          refine qm_G.s1 rfl (qm_x_pushI 5 rfl) ?_
          refine qm_G.cs rfl rfl rfl ?_
          refine qm_v_within11_t ⟨by decide, by decide⟩ ⟨by decide, by decide⟩ ⟨by decide, by decide⟩ (by decide) ⟨_, rfl, ?_⟩
          refine qm_G.ret rfl rfl ⟨_, rfl, ?_⟩
          refine qm_G.s1 rfl (qm_x_if_ne_t ⟨by decide, by decide⟩ (by decide)) ?_
          refine qm_G.sp (lv1 := [(0, qm_R (some (0, 61, 0))), (1, qm_I (qm_i 0)), (2, qm_I (qm_i a2)), (3, qm_L (((qm_l a3) <<< ((qm_i 32).toInt64 &&& 63)) ||| ((qm_l a4) &&& (qm_l 4294967295))))]) rfl rfl (qm_x_aload rfl) ?_
          refine qm_G.s1 rfl (qm_x_getfR (q := (some (0, 73, 0))) (hS 61 rfl) (hR 61 20 73 rfl rfl)) ?_
          refine qm_G.s1 rfl (qm_x_iload rfl) ?_
          refine qm_G.s1 rfl (qm_x_iald (v := (J 73 0 0)) (qm_arS hS rfl rfl) rfl (by decide) (by decide) (by decide) rfl) ?_
          refine qm_G.s1 rfl (qm_x_if_ne_t ⟨by omega, by omega⟩ (by omega)) ?_
          refine qm_G.sp (lv1 := [(0, qm_R (some (0, 61, 0))), (1, qm_I (qm_i 0)), (2, qm_I (qm_i a2)), (3, qm_L (((qm_l a3) <<< ((qm_i 32).toInt64 &&& 63)) ||| ((qm_l a4) &&& (qm_l 4294967295))))]) rfl rfl (qm_x_iload rfl) ?_
          refine qm_G.s1 rfl (qm_x_pushI 0 rfl) ?_
          refine qm_G.s1 rfl (qm_x_aload rfl) ?_
          refine qm_G.s1 rfl (qm_x_getfR (q := (some (0, 74, 0))) (hS 61 rfl) (hR 61 21 74 rfl rfl)) ?_
          refine qm_G.s1 rfl (qm_x_iload rfl) ?_
          refine qm_G.s1 rfl (qm_x_iald (v := (J 74 0 0)) (qm_arS hS rfl rfl) rfl (by decide) (by decide) (by decide) rfl) ?_
          refine qm_G.s1 rfl (qm_x_pushI 1 rfl) ?_
          refine qm_G.s1 rfl (qm_x_isub) ?_
          refine qm_G.cs rfl rfl rfl ?_
          refine qm_v_within11_t ⟨by omega, by omega⟩ ⟨by decide, by decide⟩ ⟨by omega, by omega⟩ (by omega) ⟨_, rfl, ?_⟩
          refine qm_G.s1 rfl (qm_x_if_ne_t ⟨by decide, by decide⟩ (by decide)) ?_
          refine qm_G.sp (lv1 := [(0, qm_R (some (0, 61, 0))), (1, qm_I (qm_i 0)), (2, qm_I (qm_i a2)), (3, qm_L (((qm_l a3) <<< ((qm_i 32).toInt64 &&& 63)) ||| ((qm_l a4) &&& (qm_l 4294967295))))]) rfl rfl (qm_x_aload rfl) ?_
          refine qm_G.s1 rfl (qm_x_getfR (q := (some (0, 73, 0))) (hS 61 rfl) (hR 61 20 73 rfl rfl)) ?_
          refine qm_G.s1 rfl (qm_x_iload rfl) ?_
          refine qm_G.s1 rfl (qm_x_iald (v := (J 73 0 0)) (qm_arS hS rfl rfl) rfl (by decide) (by decide) (by decide) rfl) ?_
          refine qm_G.s1 rfl (qm_x_istore (lv' := [(5, qm_I (qm_i (J 73 0 0))), (0, qm_R (some (0, 61, 0))), (1, qm_I (qm_i 0)), (2, qm_I (qm_i a2)), (3, qm_L (((qm_l a3) <<< ((qm_i 32).toInt64 &&& 63)) ||| ((qm_l a4) &&& (qm_l 4294967295))))]) rfl) ?_
          refine qm_G.s1 rfl (qm_x_aload rfl) ?_
          refine qm_G.s1 rfl (qm_x_getfR (q := (some (0, 75, 0))) (hS 61 rfl) (hR 61 22 75 rfl rfl)) ?_
          refine qm_G.s1 rfl (qm_x_pushI 60 rfl) ?_
          refine qm_G.s1 rfl (qm_x_iload rfl) ?_
          refine qm_G.s1 rfl (qm_x_imul) ?_
          refine qm_G.s1 rfl (qm_x_iload rfl) ?_
          refine qm_G.s1 rfl (qm_x_iadd) ?_
          refine qm_G.s1 rfl (qm_x_iload rfl) ?_
          refine qm_G.s1 rfl (qm_x_pushI 1 rfl) ?_
          refine qm_G.s1 rfl (qm_x_icmp_ne_t ⟨by omega, by omega⟩ ⟨by decide, by decide⟩ (by omega)) ?_
          refine qm_G.sp (lv1 := [(3, qm_L (((qm_l a3) <<< ((qm_i 32).toInt64 &&& 63)) ||| ((qm_l a4) &&& (qm_l 4294967295)))), (5, qm_I (qm_i (J 73 0 0)))]) rfl rfl (qm_x_iload rfl) ?_
          refine qm_G.s1 rfl (qm_x_pushI 2 rfl) ?_
          refine qm_G.s1 rfl (qm_x_icmp_ne_f ⟨by omega, by omega⟩ ⟨by decide, by decide⟩ (by omega)) ?_
          refine qm_G.s1 rfl (qm_x_lload rfl) ?_
          refine qm_G.s1 rfl (qm_x_l2ir) ?_
          have g16 : qm_sm ((((qm_l a3) <<< ((qm_i 32).toInt64 &&& 63)) ||| ((qm_l a4) &&& (qm_l 4294967295))).toInt32.toInt) := qm_i_sml _
          refine qm_G.s1 rfl (qm_x_i2sr) ?_
          have g17 : qm_sm ((qm_i ((((qm_l a3) <<< ((qm_i 32).toInt64 &&& 63)) ||| ((qm_l a4) &&& (qm_l 4294967295))).toInt32.toInt)).toInt16.toInt) := qm_sm16 _
          refine qm_G.s1 rfl (qm_x_i2l ⟨by omega, by omega⟩) ?_
          refine qm_G.s1 rfl (qm_x_goto) ?_
          refine qm_G.sp (lv1 := []) rfl rfl (qm_x_last (qm_arS hS rfl rfl) rfl (by omega) (by omega) (by decide)) ?_
          refine qm_G.s1 rfl (qm_x_pushI 1 rfl) ?_
          refine qm_G.ret rfl rfl ⟨_, rfl, ?_⟩
          refine qm_G.s1 rfl (qm_x_icmp_eq_t ⟨by decide, by decide⟩ ⟨by decide, by decide⟩ (by decide)) ?_
          rw [show (Int.toNat ((60 * 0) + a2)) = 0 + (Int.toNat a2) by omega]
          exact ih _ _ _ _ _ _ (qm_U_itm0 (by omega) hI)
        · refine qm_G.s1 rfl (qm_x_tsweq (v := 2) (t := 46) c5 rfl) ?_
          refine qm_G.sp (lv1 := [(1, qm_L (((qm_l a3) <<< ((qm_i 32).toInt64 &&& 63)) ||| ((qm_l a4) &&& (qm_l 4294967295))))]) rfl rfl (qm_x_lload rfl) ?_
          refine qm_G.s1 rfl (qm_x_l2ir) ?_
          have g18 : qm_sm ((((qm_l a3) <<< ((qm_i 32).toInt64 &&& 63)) ||| ((qm_l a4) &&& (qm_l 4294967295))).toInt32.toInt) := qm_i_sml _
          refine qm_G.s1 rfl (qm_x_i2l ⟨by omega, by omega⟩) ?_
          refine qm_G.ret rfl rfl ⟨_, rfl, ?_⟩
          refine qm_G.s1 rfl (qm_x_last (qm_arS hS rfl rfl) rfl (by omega) (by omega) (by decide)) ?_
          refine qm_G.s1 rfl (qm_x_pushI 1 rfl) ?_
          refine qm_G.ret rfl rfl ⟨_, rfl, ?_⟩
          refine qm_G.s1 rfl (qm_x_aload rfl) ?_
          refine qm_G.s1 rfl (qm_x_aload rfl) ?_
          refine qm_G.s1 rfl (qm_x_iload rfl) ?_
          refine qm_G.s1 rfl (qm_x_pushI 1 rfl) ?_
          refine qm_G.s1 rfl (qm_x_iadd) ?_
          refine qm_G.s1 rfl (qm_x_iald2v (v := 0) (by omega) (by omega) hX e1) ?_
          refine qm_G.s1 rfl (qm_x_aload rfl) ?_
          refine qm_G.s1 rfl (qm_x_iload rfl) ?_
          refine qm_G.s1 rfl (qm_x_pushI 2 rfl) ?_
          refine qm_G.s1 rfl (qm_x_iadd) ?_
          refine qm_G.s1 rfl (qm_x_iald2v (v := a2) (by omega) (by omega) hX e2) ?_
          refine qm_G.s1 rfl (qm_x_aload rfl) ?_
          refine qm_G.s1 rfl (qm_x_iload rfl) ?_
          refine qm_G.s1 rfl (qm_x_pushI 3 rfl) ?_
          refine qm_G.s1 rfl (qm_x_iadd) ?_
          refine qm_G.s1 rfl (qm_x_iald2v (v := a3) (by omega) (by omega) hX e3) ?_
          refine qm_G.s1 rfl (qm_x_i2l ⟨by omega, by omega⟩) ?_
          refine qm_G.s1 rfl (qm_x_pushI 32 rfl) ?_
          refine qm_G.s1 rfl (qm_x_lshl) ?_
          refine qm_G.s1 rfl (qm_x_aload rfl) ?_
          refine qm_G.s1 rfl (qm_x_iload rfl) ?_
          refine qm_G.s1 rfl (qm_x_pushI 4 rfl) ?_
          refine qm_G.s1 rfl (qm_x_iadd) ?_
          refine qm_G.s1 rfl (qm_x_iald2v (v := a4) (by omega) (by omega) hX e4) ?_
          refine qm_G.s1 rfl (qm_x_i2l ⟨by omega, by omega⟩) ?_
          refine qm_G.s1 rfl (qm_x_pushL 4294967295 rfl) ?_
          refine qm_G.s1 rfl (qm_x_land) ?_
          refine qm_G.s1 rfl (qm_x_lor) ?_
          refine qm_G.cm rfl rfl (hS 61 rfl) rfl ?_
          refine qm_C.go (cd := qm_P125) (lv := [(0, qm_R (some (0, 61, 0))), (1, qm_I (qm_i 0)), (2, qm_I (qm_i a2)), (3, qm_L (((qm_l a3) <<< ((qm_i 32).toInt64 &&& 63)) ||| ((qm_l a4) &&& (qm_l 4294967295))))]) rfl rfl ?_
          refine qm_G.s1 rfl (qm_x_iload rfl) ?_
          refine qm_G.cs rfl rfl rfl ?_
          refine qm_C.go (cd := qm_P86) (lv := [(0, qm_I (qm_i 0))]) rfl rfl ?_
          refine qm_G.s1 rfl (qm_x_iload rfl) ?_
          refine qm_G.s1 rfl (qm_x_pushI 0 rfl) ?_
          refine qm_G.s1 rfl (qm_x_pushI 5 rfl) ?_
          refine qm_G.cs rfl rfl rfl ?_
          refine qm_v_within11_t ⟨by decide, by decide⟩ ⟨by decide, by decide⟩ ⟨by decide, by decide⟩ (by decide) ⟨_, rfl, ?_⟩
          refine qm_G.ret rfl rfl ⟨_, rfl, ?_⟩
          refine qm_G.s1 rfl (qm_x_if_ne_t ⟨by decide, by decide⟩ (by decide)) ?_
          refine qm_G.sp (lv1 := [(0, qm_R (some (0, 61, 0))), (1, qm_I (qm_i 0)), (2, qm_I (qm_i a2)), (3, qm_L (((qm_l a3) <<< ((qm_i 32).toInt64 &&& 63)) ||| ((qm_l a4) &&& (qm_l 4294967295))))]) rfl rfl (qm_x_aload rfl) ?_
          refine qm_G.s1 rfl (qm_x_getfR (q := (some (0, 73, 0))) (hS 61 rfl) (hR 61 20 73 rfl rfl)) ?_
          refine qm_G.s1 rfl (qm_x_iload rfl) ?_
          refine qm_G.s1 rfl (qm_x_iald (v := (J 73 0 0)) (qm_arS hS rfl rfl) rfl (by decide) (by decide) (by decide) rfl) ?_
          refine qm_G.s1 rfl (qm_x_if_ne_t ⟨by omega, by omega⟩ (by omega)) ?_
          refine qm_G.sp (lv1 := [(0, qm_R (some (0, 61, 0))), (1, qm_I (qm_i 0)), (2, qm_I (qm_i a2)), (3, qm_L (((qm_l a3) <<< ((qm_i 32).toInt64 &&& 63)) ||| ((qm_l a4) &&& (qm_l 4294967295))))]) rfl rfl (qm_x_iload rfl) ?_
          refine qm_G.s1 rfl (qm_x_pushI 0 rfl) ?_
          refine qm_G.s1 rfl (qm_x_aload rfl) ?_
          refine qm_G.s1 rfl (qm_x_getfR (q := (some (0, 74, 0))) (hS 61 rfl) (hR 61 21 74 rfl rfl)) ?_
          refine qm_G.s1 rfl (qm_x_iload rfl) ?_
          refine qm_G.s1 rfl (qm_x_iald (v := (J 74 0 0)) (qm_arS hS rfl rfl) rfl (by decide) (by decide) (by decide) rfl) ?_
          refine qm_G.s1 rfl (qm_x_pushI 1 rfl) ?_
          refine qm_G.s1 rfl (qm_x_isub) ?_
          refine qm_G.cs rfl rfl rfl ?_
          refine qm_v_within11_t ⟨by omega, by omega⟩ ⟨by decide, by decide⟩ ⟨by omega, by omega⟩ (by omega) ⟨_, rfl, ?_⟩
          refine qm_G.s1 rfl (qm_x_if_ne_t ⟨by decide, by decide⟩ (by decide)) ?_
          refine qm_G.sp (lv1 := [(0, qm_R (some (0, 61, 0))), (1, qm_I (qm_i 0)), (2, qm_I (qm_i a2)), (3, qm_L (((qm_l a3) <<< ((qm_i 32).toInt64 &&& 63)) ||| ((qm_l a4) &&& (qm_l 4294967295))))]) rfl rfl (qm_x_aload rfl) ?_
          refine qm_G.s1 rfl (qm_x_getfR (q := (some (0, 73, 0))) (hS 61 rfl) (hR 61 20 73 rfl rfl)) ?_
          refine qm_G.s1 rfl (qm_x_iload rfl) ?_
          refine qm_G.s1 rfl (qm_x_iald (v := (J 73 0 0)) (qm_arS hS rfl rfl) rfl (by decide) (by decide) (by decide) rfl) ?_
          refine qm_G.s1 rfl (qm_x_istore (lv' := [(5, qm_I (qm_i (J 73 0 0))), (0, qm_R (some (0, 61, 0))), (1, qm_I (qm_i 0)), (2, qm_I (qm_i a2)), (3, qm_L (((qm_l a3) <<< ((qm_i 32).toInt64 &&& 63)) ||| ((qm_l a4) &&& (qm_l 4294967295))))]) rfl) ?_
          refine qm_G.s1 rfl (qm_x_aload rfl) ?_
          refine qm_G.s1 rfl (qm_x_getfR (q := (some (0, 75, 0))) (hS 61 rfl) (hR 61 22 75 rfl rfl)) ?_
          refine qm_G.s1 rfl (qm_x_pushI 60 rfl) ?_
          refine qm_G.s1 rfl (qm_x_iload rfl) ?_
          refine qm_G.s1 rfl (qm_x_imul) ?_
          refine qm_G.s1 rfl (qm_x_iload rfl) ?_
          refine qm_G.s1 rfl (qm_x_iadd) ?_
          refine qm_G.s1 rfl (qm_x_iload rfl) ?_
          refine qm_G.s1 rfl (qm_x_pushI 1 rfl) ?_
          refine qm_G.s1 rfl (qm_x_icmp_ne_t ⟨by omega, by omega⟩ ⟨by decide, by decide⟩ (by omega)) ?_
          refine qm_G.sp (lv1 := [(3, qm_L (((qm_l a3) <<< ((qm_i 32).toInt64 &&& 63)) ||| ((qm_l a4) &&& (qm_l 4294967295)))), (5, qm_I (qm_i (J 73 0 0)))]) rfl rfl (qm_x_iload rfl) ?_
          refine qm_G.s1 rfl (qm_x_pushI 2 rfl) ?_
          refine qm_G.s1 rfl (qm_x_icmp_ne_t ⟨by omega, by omega⟩ ⟨by decide, by decide⟩ (by omega)) ?_
          refine qm_G.sp (lv1 := [(3, qm_L (((qm_l a3) <<< ((qm_i 32).toInt64 &&& 63)) ||| ((qm_l a4) &&& (qm_l 4294967295)))), (5, qm_I (qm_i (J 73 0 0)))]) rfl rfl (qm_x_iload rfl) ?_
          refine qm_G.s1 rfl (qm_x_pushI 3 rfl) ?_
          refine qm_G.s1 rfl (qm_x_icmp_ne_f ⟨by omega, by omega⟩ ⟨by decide, by decide⟩ (by omega)) ?_
          refine qm_G.s1 rfl (qm_x_lload rfl) ?_
          refine qm_G.s1 rfl (qm_x_l2ir) ?_
          have g21 : qm_sm ((((qm_l a3) <<< ((qm_i 32).toInt64 &&& 63)) ||| ((qm_l a4) &&& (qm_l 4294967295))).toInt32.toInt) := qm_i_sml _
          refine qm_G.s1 rfl (qm_x_i2l ⟨by omega, by omega⟩) ?_
          refine qm_G.s1 rfl (qm_x_goto) ?_
          refine qm_G.sp (lv1 := []) rfl rfl (qm_x_last (qm_arS hS rfl rfl) rfl (by omega) (by omega) (by decide)) ?_
          refine qm_G.s1 rfl (qm_x_pushI 1 rfl) ?_
          refine qm_G.ret rfl rfl ⟨_, rfl, ?_⟩
          refine qm_G.s1 rfl (qm_x_icmp_eq_t ⟨by decide, by decide⟩ ⟨by decide, by decide⟩ (by decide)) ?_
          rw [show (Int.toNat ((60 * 0) + a2)) = 0 + (Int.toNat a2) by omega]
          exact ih _ _ _ _ _ _ (qm_U_itm0 (by omega) hI)
        · refine qm_G.s1 rfl (qm_x_tsweq (v := 3) (t := 50) c5 rfl) ?_
          refine qm_G.sp (lv1 := [(1, qm_L (((qm_l a3) <<< ((qm_i 32).toInt64 &&& 63)) ||| ((qm_l a4) &&& (qm_l 4294967295))))]) rfl rfl (qm_x_lload rfl) ?_
          refine qm_G.ret rfl rfl ⟨_, rfl, ?_⟩
          refine qm_G.s1 rfl (qm_x_last (qm_arS hS rfl rfl) rfl (by omega) (by omega) (by decide)) ?_
          refine qm_G.s1 rfl (qm_x_pushI 1 rfl) ?_
          refine qm_G.ret rfl rfl ⟨_, rfl, ?_⟩
          refine qm_G.s1 rfl (qm_x_aload rfl) ?_
          refine qm_G.s1 rfl (qm_x_aload rfl) ?_
          refine qm_G.s1 rfl (qm_x_iload rfl) ?_
          refine qm_G.s1 rfl (qm_x_pushI 1 rfl) ?_
          refine qm_G.s1 rfl (qm_x_iadd) ?_
          refine qm_G.s1 rfl (qm_x_iald2v (v := 0) (by omega) (by omega) hX e1) ?_
          refine qm_G.s1 rfl (qm_x_aload rfl) ?_
          refine qm_G.s1 rfl (qm_x_iload rfl) ?_
          refine qm_G.s1 rfl (qm_x_pushI 2 rfl) ?_
          refine qm_G.s1 rfl (qm_x_iadd) ?_
          refine qm_G.s1 rfl (qm_x_iald2v (v := a2) (by omega) (by omega) hX e2) ?_
          refine qm_G.s1 rfl (qm_x_aload rfl) ?_
          refine qm_G.s1 rfl (qm_x_iload rfl) ?_
          refine qm_G.s1 rfl (qm_x_pushI 3 rfl) ?_
          refine qm_G.s1 rfl (qm_x_iadd) ?_
          refine qm_G.s1 rfl (qm_x_iald2v (v := a3) (by omega) (by omega) hX e3) ?_
          refine qm_G.s1 rfl (qm_x_i2l ⟨by omega, by omega⟩) ?_
          refine qm_G.s1 rfl (qm_x_pushI 32 rfl) ?_
          refine qm_G.s1 rfl (qm_x_lshl) ?_
          refine qm_G.s1 rfl (qm_x_aload rfl) ?_
          refine qm_G.s1 rfl (qm_x_iload rfl) ?_
          refine qm_G.s1 rfl (qm_x_pushI 4 rfl) ?_
          refine qm_G.s1 rfl (qm_x_iadd) ?_
          refine qm_G.s1 rfl (qm_x_iald2v (v := a4) (by omega) (by omega) hX e4) ?_
          refine qm_G.s1 rfl (qm_x_i2l ⟨by omega, by omega⟩) ?_
          refine qm_G.s1 rfl (qm_x_pushL 4294967295 rfl) ?_
          refine qm_G.s1 rfl (qm_x_land) ?_
          refine qm_G.s1 rfl (qm_x_lor) ?_
          refine qm_G.cm rfl rfl (hS 61 rfl) rfl ?_
          refine qm_C.go (cd := qm_P125) (lv := [(0, qm_R (some (0, 61, 0))), (1, qm_I (qm_i 0)), (2, qm_I (qm_i a2)), (3, qm_L (((qm_l a3) <<< ((qm_i 32).toInt64 &&& 63)) ||| ((qm_l a4) &&& (qm_l 4294967295))))]) rfl rfl ?_
          refine qm_G.s1 rfl (qm_x_iload rfl) ?_
          refine qm_G.cs rfl rfl rfl ?_
          refine qm_C.go (cd := qm_P86) (lv := [(0, qm_I (qm_i 0))]) rfl rfl ?_
          refine qm_G.s1 rfl (qm_x_iload rfl) ?_
          refine qm_G.s1 rfl (qm_x_pushI 0 rfl) ?_
          refine qm_G.s1 rfl (qm_x_pushI 5 rfl) ?_
          refine qm_G.cs rfl rfl rfl ?_
          refine qm_v_within11_t ⟨by decide, by decide⟩ ⟨by decide, by decide⟩ ⟨by decide, by decide⟩ (by decide) ⟨_, rfl, ?_⟩
          refine qm_G.ret rfl rfl ⟨_, rfl, ?_⟩
          refine qm_G.s1 rfl (qm_x_if_ne_t ⟨by decide, by decide⟩ (by decide)) ?_
          refine qm_G.sp (lv1 := [(0, qm_R (some (0, 61, 0))), (1, qm_I (qm_i 0)), (2, qm_I (qm_i a2)), (3, qm_L (((qm_l a3) <<< ((qm_i 32).toInt64 &&& 63)) ||| ((qm_l a4) &&& (qm_l 4294967295))))]) rfl rfl (qm_x_aload rfl) ?_
          refine qm_G.s1 rfl (qm_x_getfR (q := (some (0, 73, 0))) (hS 61 rfl) (hR 61 20 73 rfl rfl)) ?_
          refine qm_G.s1 rfl (qm_x_iload rfl) ?_
          refine qm_G.s1 rfl (qm_x_iald (v := (J 73 0 0)) (qm_arS hS rfl rfl) rfl (by decide) (by decide) (by decide) rfl) ?_
          refine qm_G.s1 rfl (qm_x_if_ne_t ⟨by omega, by omega⟩ (by omega)) ?_
          refine qm_G.sp (lv1 := [(0, qm_R (some (0, 61, 0))), (1, qm_I (qm_i 0)), (2, qm_I (qm_i a2)), (3, qm_L (((qm_l a3) <<< ((qm_i 32).toInt64 &&& 63)) ||| ((qm_l a4) &&& (qm_l 4294967295))))]) rfl rfl (qm_x_iload rfl) ?_
          refine qm_G.s1 rfl (qm_x_pushI 0 rfl) ?_
          refine qm_G.s1 rfl (qm_x_aload rfl) ?_
          refine qm_G.s1 rfl (qm_x_getfR (q := (some (0, 74, 0))) (hS 61 rfl) (hR 61 21 74 rfl rfl)) ?_
          refine qm_G.s1 rfl (qm_x_iload rfl) ?_
          refine qm_G.s1 rfl (qm_x_iald (v := (J 74 0 0)) (qm_arS hS rfl rfl) rfl (by decide) (by decide) (by decide) rfl) ?_
          refine qm_G.s1 rfl (qm_x_pushI 1 rfl) ?_
          refine qm_G.s1 rfl (qm_x_isub) ?_
          refine qm_G.cs rfl rfl rfl ?_
          refine qm_v_within11_t ⟨by omega, by omega⟩ ⟨by decide, by decide⟩ ⟨by omega, by omega⟩ (by omega) ⟨_, rfl, ?_⟩
          refine qm_G.s1 rfl (qm_x_if_ne_t ⟨by decide, by decide⟩ (by decide)) ?_
          refine qm_G.sp (lv1 := [(0, qm_R (some (0, 61, 0))), (1, qm_I (qm_i 0)), (2, qm_I (qm_i a2)), (3, qm_L (((qm_l a3) <<< ((qm_i 32).toInt64 &&& 63)) ||| ((qm_l a4) &&& (qm_l 4294967295))))]) rfl rfl (qm_x_aload rfl) ?_
          refine qm_G.s1 rfl (qm_x_getfR (q := (some (0, 73, 0))) (hS 61 rfl) (hR 61 20 73 rfl rfl)) ?_
          refine qm_G.s1 rfl (qm_x_iload rfl) ?_
          refine qm_G.s1 rfl (qm_x_iald (v := (J 73 0 0)) (qm_arS hS rfl rfl) rfl (by decide) (by decide) (by decide) rfl) ?_
          refine qm_G.s1 rfl (qm_x_istore (lv' := [(5, qm_I (qm_i (J 73 0 0))), (0, qm_R (some (0, 61, 0))), (1, qm_I (qm_i 0)), (2, qm_I (qm_i a2)), (3, qm_L (((qm_l a3) <<< ((qm_i 32).toInt64 &&& 63)) ||| ((qm_l a4) &&& (qm_l 4294967295))))]) rfl) ?_
          refine qm_G.s1 rfl (qm_x_aload rfl) ?_
          refine qm_G.s1 rfl (qm_x_getfR (q := (some (0, 75, 0))) (hS 61 rfl) (hR 61 22 75 rfl rfl)) ?_
          refine qm_G.s1 rfl (qm_x_pushI 60 rfl) ?_
          refine qm_G.s1 rfl (qm_x_iload rfl) ?_
          refine qm_G.s1 rfl (qm_x_imul) ?_
          refine qm_G.s1 rfl (qm_x_iload rfl) ?_
          refine qm_G.s1 rfl (qm_x_iadd) ?_
          refine qm_G.s1 rfl (qm_x_iload rfl) ?_
          refine qm_G.s1 rfl (qm_x_pushI 1 rfl) ?_
          refine qm_G.s1 rfl (qm_x_icmp_ne_t ⟨by omega, by omega⟩ ⟨by decide, by decide⟩ (by omega)) ?_
          refine qm_G.sp (lv1 := [(3, qm_L (((qm_l a3) <<< ((qm_i 32).toInt64 &&& 63)) ||| ((qm_l a4) &&& (qm_l 4294967295)))), (5, qm_I (qm_i (J 73 0 0)))]) rfl rfl (qm_x_iload rfl) ?_
          refine qm_G.s1 rfl (qm_x_pushI 2 rfl) ?_
          refine qm_G.s1 rfl (qm_x_icmp_ne_t ⟨by omega, by omega⟩ ⟨by decide, by decide⟩ (by omega)) ?_
          refine qm_G.sp (lv1 := [(3, qm_L (((qm_l a3) <<< ((qm_i 32).toInt64 &&& 63)) ||| ((qm_l a4) &&& (qm_l 4294967295)))), (5, qm_I (qm_i (J 73 0 0)))]) rfl rfl (qm_x_iload rfl) ?_
          refine qm_G.s1 rfl (qm_x_pushI 3 rfl) ?_
          refine qm_G.s1 rfl (qm_x_icmp_ne_t ⟨by omega, by omega⟩ ⟨by decide, by decide⟩ (by omega)) ?_
          refine qm_G.sp (lv1 := [(3, qm_L (((qm_l a3) <<< ((qm_i 32).toInt64 &&& 63)) ||| ((qm_l a4) &&& (qm_l 4294967295)))), (5, qm_I (qm_i (J 73 0 0)))]) rfl rfl (qm_x_iload rfl) ?_
          refine qm_G.s1 rfl (qm_x_pushI 4 rfl) ?_
          refine qm_G.s1 rfl (qm_x_icmp_ne_f ⟨by omega, by omega⟩ ⟨by decide, by decide⟩ (by omega)) ?_
          refine qm_G.s1 rfl (qm_x_lload rfl) ?_
          refine qm_G.s1 rfl (qm_x_goto) ?_
          refine qm_G.sp (lv1 := []) rfl rfl (qm_x_last (qm_arS hS rfl rfl) rfl (by omega) (by omega) (by decide)) ?_
          refine qm_G.s1 rfl (qm_x_pushI 1 rfl) ?_
          refine qm_G.ret rfl rfl ⟨_, rfl, ?_⟩
          refine qm_G.s1 rfl (qm_x_icmp_eq_t ⟨by decide, by decide⟩ ⟨by decide, by decide⟩ (by decide)) ?_
          rw [show (Int.toNat ((60 * 0) + a2)) = 0 + (Int.toNat a2) by omega]
          exact ih _ _ _ _ _ _ (qm_U_itm0 (by omega) hI)
        · refine qm_G.s1 rfl (qm_x_tswd (m := 4) rfl ⟨by omega, by omega⟩ (by omega) (by omega) (by decide)) ?_
          refine qm_G.sp (lv1 := [(1, qm_L (((qm_l a3) <<< ((qm_i 32).toInt64 &&& 63)) ||| ((qm_l a4) &&& (qm_l 4294967295))))]) rfl rfl (qm_x_lload rfl) ?_
          refine qm_G.s1 rfl (qm_x_pushL 0 rfl) ?_
          refine qm_y_lcmpr rfl (fun c24 => ?_) (fun c24 => ?_) (fun c24 => ?_)
          · refine qm_G.s1 rfl (qm_x_if_eq_f ⟨by decide, by decide⟩ (by decide)) ?_
            refine qm_G.s1 rfl (qm_x_pushL 1 rfl) ?_
            refine qm_G.s1 rfl (qm_x_goto) ?_
            refine qm_G.ret rfl rfl ⟨_, rfl, ?_⟩
            refine qm_G.s1 rfl (qm_x_last (qm_arS hS rfl rfl) rfl (by omega) (by omega) (by decide)) ?_
            refine qm_G.s1 rfl (qm_x_pushI 1 rfl) ?_
            refine qm_G.ret rfl rfl ⟨_, rfl, ?_⟩
            refine qm_G.s1 rfl (qm_x_aload rfl) ?_
            refine qm_G.s1 rfl (qm_x_aload rfl) ?_
            refine qm_G.s1 rfl (qm_x_iload rfl) ?_
            refine qm_G.s1 rfl (qm_x_pushI 1 rfl) ?_
            refine qm_G.s1 rfl (qm_x_iadd) ?_
            refine qm_G.s1 rfl (qm_x_iald2v (v := 0) (by omega) (by omega) hX e1) ?_
            refine qm_G.s1 rfl (qm_x_aload rfl) ?_
            refine qm_G.s1 rfl (qm_x_iload rfl) ?_
            refine qm_G.s1 rfl (qm_x_pushI 2 rfl) ?_
            refine qm_G.s1 rfl (qm_x_iadd) ?_
            refine qm_G.s1 rfl (qm_x_iald2v (v := a2) (by omega) (by omega) hX e2) ?_
            refine qm_G.s1 rfl (qm_x_aload rfl) ?_
            refine qm_G.s1 rfl (qm_x_iload rfl) ?_
            refine qm_G.s1 rfl (qm_x_pushI 3 rfl) ?_
            refine qm_G.s1 rfl (qm_x_iadd) ?_
            refine qm_G.s1 rfl (qm_x_iald2v (v := a3) (by omega) (by omega) hX e3) ?_
            refine qm_G.s1 rfl (qm_x_i2l ⟨by omega, by omega⟩) ?_
            refine qm_G.s1 rfl (qm_x_pushI 32 rfl) ?_
            refine qm_G.s1 rfl (qm_x_lshl) ?_
            refine qm_G.s1 rfl (qm_x_aload rfl) ?_
            refine qm_G.s1 rfl (qm_x_iload rfl) ?_
            refine qm_G.s1 rfl (qm_x_pushI 4 rfl) ?_
            refine qm_G.s1 rfl (qm_x_iadd) ?_
            refine qm_G.s1 rfl (qm_x_iald2v (v := a4) (by omega) (by omega) hX e4) ?_
            refine qm_G.s1 rfl (qm_x_i2l ⟨by omega, by omega⟩) ?_
            refine qm_G.s1 rfl (qm_x_pushL 4294967295 rfl) ?_
            refine qm_G.s1 rfl (qm_x_land) ?_
            refine qm_G.s1 rfl (qm_x_lor) ?_
            refine qm_G.cm rfl rfl (hS 61 rfl) rfl ?_
            refine qm_C.go (cd := qm_P125) (lv := [(0, qm_R (some (0, 61, 0))), (1, qm_I (qm_i 0)), (2, qm_I (qm_i a2)), (3, qm_L (((qm_l a3) <<< ((qm_i 32).toInt64 &&& 63)) ||| ((qm_l a4) &&& (qm_l 4294967295))))]) rfl rfl ?_
            refine qm_G.s1 rfl (qm_x_iload rfl) ?_
            refine qm_G.cs rfl rfl rfl ?_
            refine qm_C.go (cd := qm_P86) (lv := [(0, qm_I (qm_i 0))]) rfl rfl ?_
            refine qm_G.s1 rfl (qm_x_iload rfl) ?_
            refine qm_G.s1 rfl (qm_x_pushI 0 rfl) ?_
            refine qm_G.s1 rfl (qm_x_pushI 5 rfl) ?_
            refine qm_G.cs rfl rfl rfl ?_
            refine qm_v_within11_t ⟨by decide, by decide⟩ ⟨by decide, by decide⟩ ⟨by decide, by decide⟩ (by decide) ⟨_, rfl, ?_⟩
            refine qm_G.ret rfl rfl ⟨_, rfl, ?_⟩
            refine qm_G.s1 rfl (qm_x_if_ne_t ⟨by decide, by decide⟩ (by decide)) ?_
            refine qm_G.sp (lv1 := [(0, qm_R (some (0, 61, 0))), (1, qm_I (qm_i 0)), (2, qm_I (qm_i a2)), (3, qm_L (((qm_l a3) <<< ((qm_i 32).toInt64 &&& 63)) ||| ((qm_l a4) &&& (qm_l 4294967295))))]) rfl rfl (qm_x_aload rfl) ?_
            refine qm_G.s1 rfl (qm_x_getfR (q := (some (0, 73, 0))) (hS 61 rfl) (hR 61 20 73 rfl rfl)) ?_
            refine qm_G.s1 rfl (qm_x_iload rfl) ?_
            refine qm_G.s1 rfl (qm_x_iald (v := (J 73 0 0)) (qm_arS hS rfl rfl) rfl (by decide) (by decide) (by decide) rfl) ?_
            refine qm_G.s1 rfl (qm_x_if_ne_t ⟨by omega, by omega⟩ (by omega)) ?_
            refine qm_G.sp (lv1 := [(0, qm_R (some (0, 61, 0))), (1, qm_I (qm_i 0)), (2, qm_I (qm_i a2)), (3, qm_L (((qm_l a3) <<< ((qm_i 32).toInt64 &&& 63)) ||| ((qm_l a4) &&& (qm_l 4294967295))))]) rfl rfl (qm_x_iload rfl) ?_
            refine qm_G.s1 rfl (qm_x_pushI 0 rfl) ?_
            refine qm_G.s1 rfl (qm_x_aload rfl) ?_
            refine qm_G.s1 rfl (qm_x_getfR (q := (some (0, 74, 0))) (hS 61 rfl) (hR 61 21 74 rfl rfl)) ?_
            refine qm_G.s1 rfl (qm_x_iload rfl) ?_
            refine qm_G.s1 rfl (qm_x_iald (v := (J 74 0 0)) (qm_arS hS rfl rfl) rfl (by decide) (by decide) (by decide) rfl) ?_
            refine qm_G.s1 rfl (qm_x_pushI 1 rfl) ?_
            refine qm_G.s1 rfl (qm_x_isub) ?_
            refine qm_G.cs rfl rfl rfl ?_
            refine qm_v_within11_t ⟨by omega, by omega⟩ ⟨by decide, by decide⟩ ⟨by omega, by omega⟩ (by omega) ⟨_, rfl, ?_⟩
            refine qm_G.s1 rfl (qm_x_if_ne_t ⟨by decide, by decide⟩ (by decide)) ?_
            refine qm_G.sp (lv1 := [(0, qm_R (some (0, 61, 0))), (1, qm_I (qm_i 0)), (2, qm_I (qm_i a2)), (3, qm_L (((qm_l a3) <<< ((qm_i 32).toInt64 &&& 63)) ||| ((qm_l a4) &&& (qm_l 4294967295))))]) rfl rfl (qm_x_aload rfl) ?_
            refine qm_G.s1 rfl (qm_x_getfR (q := (some (0, 73, 0))) (hS 61 rfl) (hR 61 20 73 rfl rfl)) ?_
            refine qm_G.s1 rfl (qm_x_iload rfl) ?_
            refine qm_G.s1 rfl (qm_x_iald (v := (J 73 0 0)) (qm_arS hS rfl rfl) rfl (by decide) (by decide) (by decide) rfl) ?_
            refine qm_G.s1 rfl (qm_x_istore (lv' := [(5, qm_I (qm_i (J 73 0 0))), (0, qm_R (some (0, 61, 0))), (1, qm_I (qm_i 0)), (2, qm_I (qm_i a2)), (3, qm_L (((qm_l a3) <<< ((qm_i 32).toInt64 &&& 63)) ||| ((qm_l a4) &&& (qm_l 4294967295))))]) rfl) ?_
            refine qm_G.s1 rfl (qm_x_aload rfl) ?_
            refine qm_G.s1 rfl (qm_x_getfR (q := (some (0, 75, 0))) (hS 61 rfl) (hR 61 22 75 rfl rfl)) ?_
            refine qm_G.s1 rfl (qm_x_pushI 60 rfl) ?_
            refine qm_G.s1 rfl (qm_x_iload rfl) ?_
            refine qm_G.s1 rfl (qm_x_imul) ?_
            refine qm_G.s1 rfl (qm_x_iload rfl) ?_
            refine qm_G.s1 rfl (qm_x_iadd) ?_
            refine qm_G.s1 rfl (qm_x_iload rfl) ?_
            refine qm_G.s1 rfl (qm_x_pushI 1 rfl) ?_
            refine qm_G.s1 rfl (qm_x_icmp_ne_t ⟨by omega, by omega⟩ ⟨by decide, by decide⟩ (by omega)) ?_
            refine qm_G.sp (lv1 := [(3, qm_L (((qm_l a3) <<< ((qm_i 32).toInt64 &&& 63)) ||| ((qm_l a4) &&& (qm_l 4294967295)))), (5, qm_I (qm_i (J 73 0 0)))]) rfl rfl (qm_x_iload rfl) ?_
            refine qm_G.s1 rfl (qm_x_pushI 2 rfl) ?_
            refine qm_G.s1 rfl (qm_x_icmp_ne_t ⟨by omega, by omega⟩ ⟨by decide, by decide⟩ (by omega)) ?_
            refine qm_G.sp (lv1 := [(3, qm_L (((qm_l a3) <<< ((qm_i 32).toInt64 &&& 63)) ||| ((qm_l a4) &&& (qm_l 4294967295)))), (5, qm_I (qm_i (J 73 0 0)))]) rfl rfl (qm_x_iload rfl) ?_
            refine qm_G.s1 rfl (qm_x_pushI 3 rfl) ?_
            refine qm_G.s1 rfl (qm_x_icmp_ne_t ⟨by omega, by omega⟩ ⟨by decide, by decide⟩ (by omega)) ?_
            refine qm_G.sp (lv1 := [(3, qm_L (((qm_l a3) <<< ((qm_i 32).toInt64 &&& 63)) ||| ((qm_l a4) &&& (qm_l 4294967295)))), (5, qm_I (qm_i (J 73 0 0)))]) rfl rfl (qm_x_iload rfl) ?_
            refine qm_G.s1 rfl (qm_x_pushI 4 rfl) ?_
            refine qm_G.s1 rfl (qm_x_icmp_ne_t ⟨by omega, by omega⟩ ⟨by decide, by decide⟩ (by omega)) ?_
            refine qm_G.sp (lv1 := [(3, qm_L (((qm_l a3) <<< ((qm_i 32).toInt64 &&& 63)) ||| ((qm_l a4) &&& (qm_l 4294967295))))]) rfl rfl (qm_x_lload rfl) ?_
            refine qm_G.s1 rfl (qm_x_pushL 0 rfl) ?_
            refine qm_G.s1 rfl (qm_x_lcmp_lt c24) ?_
            refine qm_G.s1 rfl (qm_x_if_eq_f ⟨by decide, by decide⟩ (by decide)) ?_
            refine qm_G.s1 rfl (qm_x_pushL 1 rfl) ?_
            refine qm_G.s1 rfl (qm_x_goto) ?_
            refine qm_G.sp (lv1 := []) rfl rfl (qm_x_last (qm_arS hS rfl rfl) rfl (by omega) (by omega) (by decide)) ?_
            refine qm_G.s1 rfl (qm_x_pushI 1 rfl) ?_
            refine qm_G.ret rfl rfl ⟨_, rfl, ?_⟩
            refine qm_G.s1 rfl (qm_x_icmp_eq_t ⟨by decide, by decide⟩ ⟨by decide, by decide⟩ (by decide)) ?_
            rw [show (Int.toNat ((60 * 0) + a2)) = 0 + (Int.toNat a2) by omega]
            exact ih _ _ _ _ _ _ (qm_U_itm0 (by omega) hI)
          · refine qm_G.s1 rfl (qm_x_if_eq_t ⟨by decide, by decide⟩ (by decide)) ?_
            refine qm_G.sp (lv1 := []) rfl rfl (qm_x_pushL 0 rfl) ?_
            refine qm_G.ret rfl rfl ⟨_, rfl, ?_⟩
            refine qm_G.s1 rfl (qm_x_last (qm_arS hS rfl rfl) rfl (by omega) (by omega) (by decide)) ?_
            refine qm_G.s1 rfl (qm_x_pushI 1 rfl) ?_
            refine qm_G.ret rfl rfl ⟨_, rfl, ?_⟩
            refine qm_G.s1 rfl (qm_x_aload rfl) ?_
            refine qm_G.s1 rfl (qm_x_aload rfl) ?_
            refine qm_G.s1 rfl (qm_x_iload rfl) ?_
            refine qm_G.s1 rfl (qm_x_pushI 1 rfl) ?_
            refine qm_G.s1 rfl (qm_x_iadd) ?_
            refine qm_G.s1 rfl (qm_x_iald2v (v := 0) (by omega) (by omega) hX e1) ?_
            refine qm_G.s1 rfl (qm_x_aload rfl) ?_
            refine qm_G.s1 rfl (qm_x_iload rfl) ?_
            refine qm_G.s1 rfl (qm_x_pushI 2 rfl) ?_
            refine qm_G.s1 rfl (qm_x_iadd) ?_
            refine qm_G.s1 rfl (qm_x_iald2v (v := a2) (by omega) (by omega) hX e2) ?_
            refine qm_G.s1 rfl (qm_x_aload rfl) ?_
            refine qm_G.s1 rfl (qm_x_iload rfl) ?_
            refine qm_G.s1 rfl (qm_x_pushI 3 rfl) ?_
            refine qm_G.s1 rfl (qm_x_iadd) ?_
            refine qm_G.s1 rfl (qm_x_iald2v (v := a3) (by omega) (by omega) hX e3) ?_
            refine qm_G.s1 rfl (qm_x_i2l ⟨by omega, by omega⟩) ?_
            refine qm_G.s1 rfl (qm_x_pushI 32 rfl) ?_
            refine qm_G.s1 rfl (qm_x_lshl) ?_
            refine qm_G.s1 rfl (qm_x_aload rfl) ?_
            refine qm_G.s1 rfl (qm_x_iload rfl) ?_
            refine qm_G.s1 rfl (qm_x_pushI 4 rfl) ?_
            refine qm_G.s1 rfl (qm_x_iadd) ?_
            refine qm_G.s1 rfl (qm_x_iald2v (v := a4) (by omega) (by omega) hX e4) ?_
            refine qm_G.s1 rfl (qm_x_i2l ⟨by omega, by omega⟩) ?_
            refine qm_G.s1 rfl (qm_x_pushL 4294967295 rfl) ?_
            refine qm_G.s1 rfl (qm_x_land) ?_
            refine qm_G.s1 rfl (qm_x_lor) ?_
            refine qm_G.cm rfl rfl (hS 61 rfl) rfl ?_
            refine qm_C.go (cd := qm_P125) (lv := [(0, qm_R (some (0, 61, 0))), (1, qm_I (qm_i 0)), (2, qm_I (qm_i a2)), (3, qm_L (((qm_l a3) <<< ((qm_i 32).toInt64 &&& 63)) ||| ((qm_l a4) &&& (qm_l 4294967295))))]) rfl rfl ?_
            refine qm_G.s1 rfl (qm_x_iload rfl) ?_
            refine qm_G.cs rfl rfl rfl ?_
            refine qm_C.go (cd := qm_P86) (lv := [(0, qm_I (qm_i 0))]) rfl rfl ?_
            refine qm_G.s1 rfl (qm_x_iload rfl) ?_
            refine qm_G.s1 rfl (qm_x_pushI 0 rfl) ?_
            refine qm_G.s1 rfl (qm_x_pushI 5 rfl) ?_
            refine qm_G.cs rfl rfl rfl ?_
            refine qm_v_within11_t ⟨by decide, by decide⟩ ⟨by decide, by decide⟩ ⟨by decide, by decide⟩ (by decide) ⟨_, rfl, ?_⟩
            refine qm_G.ret rfl rfl ⟨_, rfl, ?_⟩
            refine qm_G.s1 rfl (qm_x_if_ne_t ⟨by decide, by decide⟩ (by decide)) ?_
            refine qm_G.sp (lv1 := [(0, qm_R (some (0, 61, 0))), (1, qm_I (qm_i 0)), (2, qm_I (qm_i a2)), (3, qm_L (((qm_l a3) <<< ((qm_i 32).toInt64 &&& 63)) ||| ((qm_l a4) &&& (qm_l 4294967295))))]) rfl rfl (qm_x_aload rfl) ?_
            refine qm_G.s1 rfl (qm_x_getfR (q := (some (0, 73, 0))) (hS 61 rfl) (hR 61 20 73 rfl rfl)) ?_
            refine qm_G.s1 rfl (qm_x_iload rfl) ?_
            refine qm_G.s1 rfl (qm_x_iald (v := (J 73 0 0)) (qm_arS hS rfl rfl) rfl (by decide) (by decide) (by decide) rfl) ?_
            refine qm_G.s1 rfl (qm_x_if_ne_t ⟨by omega, by omega⟩ (by omega)) ?_
            refine qm_G.sp (lv1 := [(0, qm_R (some (0, 61, 0))), (1, qm_I (qm_i 0)), (2, qm_I (qm_i a2)), (3, qm_L (((qm_l a3) <<< ((qm_i 32).toInt64 &&& 63)) ||| ((qm_l a4) &&& (qm_l 4294967295))))]) rfl rfl (qm_x_iload rfl) ?_
            refine qm_G.s1 rfl (qm_x_pushI 0 rfl) ?_
            refine qm_G.s1 rfl (qm_x_aload rfl) ?_
            refine qm_G.s1 rfl (qm_x_getfR (q := (some (0, 74, 0))) (hS 61 rfl) (hR 61 21 74 rfl rfl)) ?_
            refine qm_G.s1 rfl (qm_x_iload rfl) ?_
            refine qm_G.s1 rfl (qm_x_iald (v := (J 74 0 0)) (qm_arS hS rfl rfl) rfl (by decide) (by decide) (by decide) rfl) ?_
            refine qm_G.s1 rfl (qm_x_pushI 1 rfl) ?_
            refine qm_G.s1 rfl (qm_x_isub) ?_
            refine qm_G.cs rfl rfl rfl ?_
            refine qm_v_within11_t ⟨by omega, by omega⟩ ⟨by decide, by decide⟩ ⟨by omega, by omega⟩ (by omega) ⟨_, rfl, ?_⟩
            refine qm_G.s1 rfl (qm_x_if_ne_t ⟨by decide, by decide⟩ (by decide)) ?_
            refine qm_G.sp (lv1 := [(0, qm_R (some (0, 61, 0))), (1, qm_I (qm_i 0)), (2, qm_I (qm_i a2)), (3, qm_L (((qm_l a3) <<< ((qm_i 32).toInt64 &&& 63)) ||| ((qm_l a4) &&& (qm_l 4294967295))))]) rfl rfl (qm_x_aload rfl) ?_
            refine qm_G.s1 rfl (qm_x_getfR (q := (some (0, 73, 0))) (hS 61 rfl) (hR 61 20 73 rfl rfl)) ?_
            refine qm_G.s1 rfl (qm_x_iload rfl) ?_
            refine qm_G.s1 rfl (qm_x_iald (v := (J 73 0 0)) (qm_arS hS rfl rfl) rfl (by decide) (by decide) (by decide) rfl) ?_
            refine qm_G.s1 rfl (qm_x_istore (lv' := [(5, qm_I (qm_i (J 73 0 0))), (0, qm_R (some (0, 61, 0))), (1, qm_I (qm_i 0)), (2, qm_I (qm_i a2)), (3, qm_L (((qm_l a3) <<< ((qm_i 32).toInt64 &&& 63)) ||| ((qm_l a4) &&& (qm_l 4294967295))))]) rfl) ?_
            refine qm_G.s1 rfl (qm_x_aload rfl) ?_
            refine qm_G.s1 rfl (qm_x_getfR (q := (some (0, 75, 0))) (hS 61 rfl) (hR 61 22 75 rfl rfl)) ?_
            refine qm_G.s1 rfl (qm_x_pushI 60 rfl) ?_
            refine qm_G.s1 rfl (qm_x_iload rfl) ?_
            refine qm_G.s1 rfl (qm_x_imul) ?_
            refine qm_G.s1 rfl (qm_x_iload rfl) ?_
            refine qm_G.s1 rfl (qm_x_iadd) ?_
            refine qm_G.s1 rfl (qm_x_iload rfl) ?_
            refine qm_G.s1 rfl (qm_x_pushI 1 rfl) ?_
            refine qm_G.s1 rfl (qm_x_icmp_ne_t ⟨by omega, by omega⟩ ⟨by decide, by decide⟩ (by omega)) ?_
            refine qm_G.sp (lv1 := [(3, qm_L (((qm_l a3) <<< ((qm_i 32).toInt64 &&& 63)) ||| ((qm_l a4) &&& (qm_l 4294967295)))), (5, qm_I (qm_i (J 73 0 0)))]) rfl rfl (qm_x_iload rfl) ?_
            refine qm_G.s1 rfl (qm_x_pushI 2 rfl) ?_
            refine qm_G.s1 rfl (qm_x_icmp_ne_t ⟨by omega, by omega⟩ ⟨by decide, by decide⟩ (by omega)) ?_
            refine qm_G.sp (lv1 := [(3, qm_L (((qm_l a3) <<< ((qm_i 32).toInt64 &&& 63)) ||| ((qm_l a4) &&& (qm_l 4294967295)))), (5, qm_I (qm_i (J 73 0 0)))]) rfl rfl (qm_x_iload rfl) ?_
            refine qm_G.s1 rfl (qm_x_pushI 3 rfl) ?_
            refine qm_G.s1 rfl (qm_x_icmp_ne_t ⟨by omega, by omega⟩ ⟨by decide, by decide⟩ (by omega)) ?_
            refine qm_G.sp (lv1 := [(3, qm_L (((qm_l a3) <<< ((qm_i 32).toInt64 &&& 63)) ||| ((qm_l a4) &&& (qm_l 4294967295)))), (5, qm_I (qm_i (J 73 0 0)))]) rfl rfl (qm_x_iload rfl) ?_
            refine qm_G.s1 rfl (qm_x_pushI 4 rfl) ?_
            refine qm_G.s1 rfl (qm_x_icmp_ne_t ⟨by omega, by omega⟩ ⟨by decide, by decide⟩ (by omega)) ?_
            refine qm_G.sp (lv1 := [(3, qm_L (((qm_l a3) <<< ((qm_i 32).toInt64 &&& 63)) ||| ((qm_l a4) &&& (qm_l 4294967295))))]) rfl rfl (qm_x_lload rfl) ?_
            refine qm_G.s1 rfl (qm_x_pushL 0 rfl) ?_
            refine qm_G.s1 rfl (qm_x_lcmp_eq c24) ?_
            refine qm_G.s1 rfl (qm_x_if_eq_t ⟨by decide, by decide⟩ (by decide)) ?_
            refine qm_G.sp (lv1 := []) rfl rfl (qm_x_pushL 0 rfl) ?_
            refine qm_G.sp (lv1 := []) rfl rfl (qm_x_last (qm_arS hS rfl rfl) rfl (by omega) (by omega) (by decide)) ?_
            refine qm_G.s1 rfl (qm_x_pushI 1 rfl) ?_
            refine qm_G.ret rfl rfl ⟨_, rfl, ?_⟩
            refine qm_G.s1 rfl (qm_x_icmp_eq_t ⟨by decide, by decide⟩ ⟨by decide, by decide⟩ (by decide)) ?_
            rw [show (Int.toNat ((60 * 0) + a2)) = 0 + (Int.toNat a2) by omega]
            exact ih _ _ _ _ _ _ (qm_U_itm0 (by omega) hI)
          · refine qm_G.s1 rfl (qm_x_if_eq_f ⟨by decide, by decide⟩ (by decide)) ?_
            refine qm_G.s1 rfl (qm_x_pushL 1 rfl) ?_
            refine qm_G.s1 rfl (qm_x_goto) ?_
            refine qm_G.ret rfl rfl ⟨_, rfl, ?_⟩
            refine qm_G.s1 rfl (qm_x_last (qm_arS hS rfl rfl) rfl (by omega) (by omega) (by decide)) ?_
            refine qm_G.s1 rfl (qm_x_pushI 1 rfl) ?_
            refine qm_G.ret rfl rfl ⟨_, rfl, ?_⟩
            refine qm_G.s1 rfl (qm_x_aload rfl) ?_
            refine qm_G.s1 rfl (qm_x_aload rfl) ?_
            refine qm_G.s1 rfl (qm_x_iload rfl) ?_
            refine qm_G.s1 rfl (qm_x_pushI 1 rfl) ?_
            refine qm_G.s1 rfl (qm_x_iadd) ?_
            refine qm_G.s1 rfl (qm_x_iald2v (v := 0) (by omega) (by omega) hX e1) ?_
            refine qm_G.s1 rfl (qm_x_aload rfl) ?_
            refine qm_G.s1 rfl (qm_x_iload rfl) ?_
            refine qm_G.s1 rfl (qm_x_pushI 2 rfl) ?_
            refine qm_G.s1 rfl (qm_x_iadd) ?_
            refine qm_G.s1 rfl (qm_x_iald2v (v := a2) (by omega) (by omega) hX e2) ?_
            refine qm_G.s1 rfl (qm_x_aload rfl) ?_
            refine qm_G.s1 rfl (qm_x_iload rfl) ?_
            refine qm_G.s1 rfl (qm_x_pushI 3 rfl) ?_
            refine qm_G.s1 rfl (qm_x_iadd) ?_
            refine qm_G.s1 rfl (qm_x_iald2v (v := a3) (by omega) (by omega) hX e3) ?_
            refine qm_G.s1 rfl (qm_x_i2l ⟨by omega, by omega⟩) ?_
            refine qm_G.s1 rfl (qm_x_pushI 32 rfl) ?_
            refine qm_G.s1 rfl (qm_x_lshl) ?_
            refine qm_G.s1 rfl (qm_x_aload rfl) ?_
            refine qm_G.s1 rfl (qm_x_iload rfl) ?_
            refine qm_G.s1 rfl (qm_x_pushI 4 rfl) ?_
            refine qm_G.s1 rfl (qm_x_iadd) ?_
            refine qm_G.s1 rfl (qm_x_iald2v (v := a4) (by omega) (by omega) hX e4) ?_
            refine qm_G.s1 rfl (qm_x_i2l ⟨by omega, by omega⟩) ?_
            refine qm_G.s1 rfl (qm_x_pushL 4294967295 rfl) ?_
            refine qm_G.s1 rfl (qm_x_land) ?_
            refine qm_G.s1 rfl (qm_x_lor) ?_
            refine qm_G.cm rfl rfl (hS 61 rfl) rfl ?_
            refine qm_C.go (cd := qm_P125) (lv := [(0, qm_R (some (0, 61, 0))), (1, qm_I (qm_i 0)), (2, qm_I (qm_i a2)), (3, qm_L (((qm_l a3) <<< ((qm_i 32).toInt64 &&& 63)) ||| ((qm_l a4) &&& (qm_l 4294967295))))]) rfl rfl ?_
            refine qm_G.s1 rfl (qm_x_iload rfl) ?_
            refine qm_G.cs rfl rfl rfl ?_
            refine qm_C.go (cd := qm_P86) (lv := [(0, qm_I (qm_i 0))]) rfl rfl ?_
            refine qm_G.s1 rfl (qm_x_iload rfl) ?_
            refine qm_G.s1 rfl (qm_x_pushI 0 rfl) ?_
            refine qm_G.s1 rfl (qm_x_pushI 5 rfl) ?_
            refine qm_G.cs rfl rfl rfl ?_
            refine qm_v_within11_t ⟨by decide, by decide⟩ ⟨by decide, by decide⟩ ⟨by decide, by decide⟩ (by decide) ⟨_, rfl, ?_⟩
            refine qm_G.ret rfl rfl ⟨_, rfl, ?_⟩
            refine qm_G.s1 rfl (qm_x_if_ne_t ⟨by decide, by decide⟩ (by decide)) ?_
            refine qm_G.sp (lv1 := [(0, qm_R (some (0, 61, 0))), (1, qm_I (qm_i 0)), (2, qm_I (qm_i a2)), (3, qm_L (((qm_l a3) <<< ((qm_i 32).toInt64 &&& 63)) ||| ((qm_l a4) &&& (qm_l 4294967295))))]) rfl rfl (qm_x_aload rfl) ?_
            refine qm_G.s1 rfl (qm_x_getfR (q := (some (0, 73, 0))) (hS 61 rfl) (hR 61 20 73 rfl rfl)) ?_
            refine qm_G.s1 rfl (qm_x_iload rfl) ?_
            refine qm_G.s1 rfl (qm_x_iald (v := (J 73 0 0)) (qm_arS hS rfl rfl) rfl (by decide) (by decide) (by decide) rfl) ?_
            refine qm_G.s1 rfl (qm_x_if_ne_t ⟨by omega, by omega⟩ (by omega)) ?_
            refine qm_G.sp (lv1 := [(0, qm_R (some (0, 61, 0))), (1, qm_I (qm_i 0)), (2, qm_I (qm_i a2)), (3, qm_L (((qm_l a3) <<< ((qm_i 32).toInt64 &&& 63)) ||| ((qm_l a4) &&& (qm_l 4294967295))))]) rfl rfl (qm_x_iload rfl) ?_
            refine qm_G.s1 rfl (qm_x_pushI 0 rfl) ?_
            refine qm_G.s1 rfl (qm_x_aload rfl) ?_
            refine qm_G.s1 rfl (qm_x_getfR (q := (some (0, 74, 0))) (hS 61 rfl) (hR 61 21 74 rfl rfl)) ?_
            refine qm_G.s1 rfl (qm_x_iload rfl) ?_
            refine qm_G.s1 rfl (qm_x_iald (v := (J 74 0 0)) (qm_arS hS rfl rfl) rfl (by decide) (by decide) (by decide) rfl) ?_
            refine qm_G.s1 rfl (qm_x_pushI 1 rfl) ?_
            refine qm_G.s1 rfl (qm_x_isub) ?_
            refine qm_G.cs rfl rfl rfl ?_
            refine qm_v_within11_t ⟨by omega, by omega⟩ ⟨by decide, by decide⟩ ⟨by omega, by omega⟩ (by omega) ⟨_, rfl, ?_⟩
            refine qm_G.s1 rfl (qm_x_if_ne_t ⟨by decide, by decide⟩ (by decide)) ?_
            refine qm_G.sp (lv1 := [(0, qm_R (some (0, 61, 0))), (1, qm_I (qm_i 0)), (2, qm_I (qm_i a2)), (3, qm_L (((qm_l a3) <<< ((qm_i 32).toInt64 &&& 63)) ||| ((qm_l a4) &&& (qm_l 4294967295))))]) rfl rfl (qm_x_aload rfl) ?_
            refine qm_G.s1 rfl (qm_x_getfR (q := (some (0, 73, 0))) (hS 61 rfl) (hR 61 20 73 rfl rfl)) ?_
            refine qm_G.s1 rfl (qm_x_iload rfl) ?_
            refine qm_G.s1 rfl (qm_x_iald (v := (J 73 0 0)) (qm_arS hS rfl rfl) rfl (by decide) (by decide) (by decide) rfl) ?_
            refine qm_G.s1 rfl (qm_x_istore (lv' := [(5, qm_I (qm_i (J 73 0 0))), (0, qm_R (some (0, 61, 0))), (1, qm_I (qm_i 0)), (2, qm_I (qm_i a2)), (3, qm_L (((qm_l a3) <<< ((qm_i 32).toInt64 &&& 63)) ||| ((qm_l a4) &&& (qm_l 4294967295))))]) rfl) ?_
            refine qm_G.s1 rfl (qm_x_aload rfl) ?_
            refine qm_G.s1 rfl (qm_x_getfR (q := (some (0, 75, 0))) (hS 61 rfl) (hR 61 22 75 rfl rfl)) ?_
            refine qm_G.s1 rfl (qm_x_pushI 60 rfl) ?_
            refine qm_G.s1 rfl (qm_x_iload rfl) ?_
            refine qm_G.s1 rfl (qm_x_imul) ?_
            refine qm_G.s1 rfl (qm_x_iload rfl) ?_
            refine qm_G.s1 rfl (qm_x_iadd) ?_
            refine qm_G.s1 rfl (qm_x_iload rfl) ?_
            refine qm_G.s1 rfl (qm_x_pushI 1 rfl) ?_
            refine qm_G.s1 rfl (qm_x_icmp_ne_t ⟨by omega, by omega⟩ ⟨by decide, by decide⟩ (by omega)) ?_
            refine qm_G.sp (lv1 := [(3, qm_L (((qm_l a3) <<< ((qm_i 32).toInt64 &&& 63)) ||| ((qm_l a4) &&& (qm_l 4294967295)))), (5, qm_I (qm_i (J 73 0 0)))]) rfl rfl (qm_x_iload rfl) ?_
            refine qm_G.s1 rfl (qm_x_pushI 2 rfl) ?_
            refine qm_G.s1 rfl (qm_x_icmp_ne_t ⟨by omega, by omega⟩ ⟨by decide, by decide⟩ (by omega)) ?_
            refine qm_G.sp (lv1 := [(3, qm_L (((qm_l a3) <<< ((qm_i 32).toInt64 &&& 63)) ||| ((qm_l a4) &&& (qm_l 4294967295)))), (5, qm_I (qm_i (J 73 0 0)))]) rfl rfl (qm_x_iload rfl) ?_
            refine qm_G.s1 rfl (qm_x_pushI 3 rfl) ?_
            refine qm_G.s1 rfl (qm_x_icmp_ne_t ⟨by omega, by omega⟩ ⟨by decide, by decide⟩ (by omega)) ?_
            refine qm_G.sp (lv1 := [(3, qm_L (((qm_l a3) <<< ((qm_i 32).toInt64 &&& 63)) ||| ((qm_l a4) &&& (qm_l 4294967295)))), (5, qm_I (qm_i (J 73 0 0)))]) rfl rfl (qm_x_iload rfl) ?_
            refine qm_G.s1 rfl (qm_x_pushI 4 rfl) ?_
            refine qm_G.s1 rfl (qm_x_icmp_ne_t ⟨by omega, by omega⟩ ⟨by decide, by decide⟩ (by omega)) ?_
            refine qm_G.sp (lv1 := [(3, qm_L (((qm_l a3) <<< ((qm_i 32).toInt64 &&& 63)) ||| ((qm_l a4) &&& (qm_l 4294967295))))]) rfl rfl (qm_x_lload rfl) ?_
            refine qm_G.s1 rfl (qm_x_pushL 0 rfl) ?_
            refine qm_G.s1 rfl (qm_x_lcmp_gt c24) ?_
            refine qm_G.s1 rfl (qm_x_if_eq_f ⟨by decide, by decide⟩ (by decide)) ?_
            refine qm_G.s1 rfl (qm_x_pushL 1 rfl) ?_
            refine qm_G.s1 rfl (qm_x_goto) ?_
            refine qm_G.sp (lv1 := []) rfl rfl (qm_x_last (qm_arS hS rfl rfl) rfl (by omega) (by omega) (by decide)) ?_
            refine qm_G.s1 rfl (qm_x_pushI 1 rfl) ?_
            refine qm_G.ret rfl rfl ⟨_, rfl, ?_⟩
            refine qm_G.s1 rfl (qm_x_icmp_eq_t ⟨by decide, by decide⟩ ⟨by decide, by decide⟩ (by decide)) ?_
            rw [show (Int.toNat ((60 * 0) + a2)) = 0 + (Int.toNat a2) by omega]
            exact ih _ _ _ _ _ _ (qm_U_itm0 (by omega) hI)
      · refine qm_G.s1 rfl (qm_x_if_ne_f ⟨by decide, by decide⟩ (by decide)) ?_
        refine qm_G.s1 rfl (qm_x_pushI (-13) rfl) ?_
        refine qm_G.ret rfl rfl ⟨_, rfl, ?_⟩
        refine qm_G.s1 rfl (qm_x_aload rfl) ?_
        refine qm_G.s1 rfl (qm_x_aload rfl) ?_
        refine qm_G.s1 rfl (qm_x_iload rfl) ?_
        refine qm_G.s1 rfl (qm_x_pushI 1 rfl) ?_
        refine qm_G.s1 rfl (qm_x_iadd) ?_
        refine qm_G.s1 rfl (qm_x_iald2v (v := 0) (by omega) (by omega) hX e1) ?_
        refine qm_G.s1 rfl (qm_x_aload rfl) ?_
        refine qm_G.s1 rfl (qm_x_iload rfl) ?_
        refine qm_G.s1 rfl (qm_x_pushI 2 rfl) ?_
        refine qm_G.s1 rfl (qm_x_iadd) ?_
        refine qm_G.s1 rfl (qm_x_iald2v (v := a2) (by omega) (by omega) hX e2) ?_
        refine qm_G.s1 rfl (qm_x_aload rfl) ?_
        refine qm_G.s1 rfl (qm_x_iload rfl) ?_
        refine qm_G.s1 rfl (qm_x_pushI 3 rfl) ?_
        refine qm_G.s1 rfl (qm_x_iadd) ?_
        refine qm_G.s1 rfl (qm_x_iald2v (v := a3) (by omega) (by omega) hX e3) ?_
        refine qm_G.s1 rfl (qm_x_i2l ⟨by omega, by omega⟩) ?_
        refine qm_G.s1 rfl (qm_x_pushI 32 rfl) ?_
        refine qm_G.s1 rfl (qm_x_lshl) ?_
        refine qm_G.s1 rfl (qm_x_aload rfl) ?_
        refine qm_G.s1 rfl (qm_x_iload rfl) ?_
        refine qm_G.s1 rfl (qm_x_pushI 4 rfl) ?_
        refine qm_G.s1 rfl (qm_x_iadd) ?_
        refine qm_G.s1 rfl (qm_x_iald2v (v := a4) (by omega) (by omega) hX e4) ?_
        refine qm_G.s1 rfl (qm_x_i2l ⟨by omega, by omega⟩) ?_
        refine qm_G.s1 rfl (qm_x_pushL 4294967295 rfl) ?_
        refine qm_G.s1 rfl (qm_x_land) ?_
        refine qm_G.s1 rfl (qm_x_lor) ?_
        refine qm_G.cm rfl rfl (hS 61 rfl) rfl ?_
        refine qm_C.go (cd := qm_P125) (lv := [(0, qm_R (some (0, 61, 0))), (1, qm_I (qm_i 0)), (2, qm_I (qm_i a2)), (3, qm_L (((qm_l a3) <<< ((qm_i 32).toInt64 &&& 63)) ||| ((qm_l a4) &&& (qm_l 4294967295))))]) rfl rfl ?_
        refine qm_G.s1 rfl (qm_x_iload rfl) ?_
        refine qm_G.cs rfl rfl rfl ?_
        refine qm_C.go (cd := qm_P86) (lv := [(0, qm_I (qm_i 0))]) rfl rfl ?_
        refine qm_G.s1 rfl (qm_x_iload rfl) ?_
        refine qm_G.s1 rfl (qm_x_pushI 0 rfl) ?_
        refine qm_G.s1 rfl (qm_x_pushI 5 rfl) ?_
        refine qm_G.cs rfl rfl rfl ?_
        refine qm_v_within11_t ⟨by decide, by decide⟩ ⟨by decide, by decide⟩ ⟨by decide, by decide⟩ (by decide) ⟨_, rfl, ?_⟩
        refine qm_G.ret rfl rfl ⟨_, rfl, ?_⟩
        refine qm_G.s1 rfl (qm_x_if_ne_t ⟨by decide, by decide⟩ (by decide)) ?_
        refine qm_G.sp (lv1 := [(0, qm_R (some (0, 61, 0))), (1, qm_I (qm_i 0)), (2, qm_I (qm_i a2)), (3, qm_L (((qm_l a3) <<< ((qm_i 32).toInt64 &&& 63)) ||| ((qm_l a4) &&& (qm_l 4294967295))))]) rfl rfl (qm_x_aload rfl) ?_
        refine qm_G.s1 rfl (qm_x_getfR (q := (some (0, 73, 0))) (hS 61 rfl) (hR 61 20 73 rfl rfl)) ?_
        refine qm_G.s1 rfl (qm_x_iload rfl) ?_
        refine qm_G.s1 rfl (qm_x_iald (v := (J 73 0 0)) (qm_arS hS rfl rfl) rfl (by decide) (by decide) (by decide) rfl) ?_
        refine qm_G.s1 rfl (qm_x_if_ne_t ⟨by omega, by omega⟩ (by omega)) ?_
        refine qm_G.sp (lv1 := [(0, qm_R (some (0, 61, 0))), (1, qm_I (qm_i 0)), (2, qm_I (qm_i a2)), (3, qm_L (((qm_l a3) <<< ((qm_i 32).toInt64 &&& 63)) ||| ((qm_l a4) &&& (qm_l 4294967295))))]) rfl rfl (qm_x_iload rfl) ?_
        refine qm_G.s1 rfl (qm_x_pushI 0 rfl) ?_
        refine qm_G.s1 rfl (qm_x_aload rfl) ?_
        refine qm_G.s1 rfl (qm_x_getfR (q := (some (0, 74, 0))) (hS 61 rfl) (hR 61 21 74 rfl rfl)) ?_
        refine qm_G.s1 rfl (qm_x_iload rfl) ?_
        refine qm_G.s1 rfl (qm_x_iald (v := (J 74 0 0)) (qm_arS hS rfl rfl) rfl (by decide) (by decide) (by decide) rfl) ?_
        refine qm_G.s1 rfl (qm_x_pushI 1 rfl) ?_
        refine qm_G.s1 rfl (qm_x_isub) ?_
        refine qm_G.cs rfl rfl rfl ?_
        refine qm_v_within11_f ⟨by omega, by omega⟩ ⟨by decide, by decide⟩ ⟨by omega, by omega⟩ (by omega) ⟨_, rfl, ?_⟩
        refine qm_G.s1 rfl (qm_x_if_ne_f ⟨by decide, by decide⟩ (by decide)) ?_
        refine qm_G.s1 rfl (qm_x_pushI (-13) rfl) ?_
        refine qm_G.ret rfl rfl ⟨_, rfl, ?_⟩
        refine qm_G.s1 rfl (qm_x_icmp_eq_t ⟨by decide, by decide⟩ ⟨by decide, by decide⟩ (by decide)) ?_
        exact ih _ _ _ _ _ _ hI.next
    · refine qm_G.s1 rfl (qm_x_pushI (-11) rfl) ?_
      refine qm_G.ret rfl rfl ⟨_, rfl, ?_⟩
      refine qm_G.s1 rfl (qm_x_aload rfl) ?_
      refine qm_G.s1 rfl (qm_x_aload rfl) ?_
      refine qm_G.s1 rfl (qm_x_iload rfl) ?_
      refine qm_G.s1 rfl (qm_x_pushI 1 rfl) ?_
      refine qm_G.s1 rfl (qm_x_iadd) ?_
      refine qm_G.s1 rfl (qm_x_iald2v (v := 0) (by omega) (by omega) hX e1) ?_
      refine qm_G.s1 rfl (qm_x_aload rfl) ?_
      refine qm_G.s1 rfl (qm_x_iload rfl) ?_
      refine qm_G.s1 rfl (qm_x_pushI 2 rfl) ?_
      refine qm_G.s1 rfl (qm_x_iadd) ?_
      refine qm_G.s1 rfl (qm_x_iald2v (v := a2) (by omega) (by omega) hX e2) ?_
      refine qm_G.s1 rfl (qm_x_aload rfl) ?_
      refine qm_G.s1 rfl (qm_x_iload rfl) ?_
      refine qm_G.s1 rfl (qm_x_pushI 3 rfl) ?_
      refine qm_G.s1 rfl (qm_x_iadd) ?_
      refine qm_G.s1 rfl (qm_x_iald2v (v := a3) (by omega) (by omega) hX e3) ?_
      refine qm_G.s1 rfl (qm_x_i2l ⟨by omega, by omega⟩) ?_
      refine qm_G.s1 rfl (qm_x_pushI 32 rfl) ?_
      refine qm_G.s1 rfl (qm_x_lshl) ?_
      refine qm_G.s1 rfl (qm_x_aload rfl) ?_
      refine qm_G.s1 rfl (qm_x_iload rfl) ?_
      refine qm_G.s1 rfl (qm_x_pushI 4 rfl) ?_
      refine qm_G.s1 rfl (qm_x_iadd) ?_
      refine qm_G.s1 rfl (qm_x_iald2v (v := a4) (by omega) (by omega) hX e4) ?_
      refine qm_G.s1 rfl (qm_x_i2l ⟨by omega, by omega⟩) ?_
      refine qm_G.s1 rfl (qm_x_pushL 4294967295 rfl) ?_
      refine qm_G.s1 rfl (qm_x_land) ?_
      refine qm_G.s1 rfl (qm_x_lor) ?_
      refine qm_G.cm rfl rfl (hS 61 rfl) rfl ?_
      refine qm_C.go (cd := qm_P125) (lv := [(0, qm_R (some (0, 61, 0))), (1, qm_I (qm_i 0)), (2, qm_I (qm_i a2)), (3, qm_L (((qm_l a3) <<< ((qm_i 32).toInt64 &&& 63)) ||| ((qm_l a4) &&& (qm_l 4294967295))))]) rfl rfl ?_
      refine qm_G.s1 rfl (qm_x_iload rfl) ?_
      refine qm_G.cs rfl rfl rfl ?_
      refine qm_C.go (cd := qm_P86) (lv := [(0, qm_I (qm_i 0))]) rfl rfl ?_
      refine qm_G.s1 rfl (qm_x_iload rfl) ?_
      refine qm_G.s1 rfl (qm_x_pushI 0 rfl) ?_
      refine qm_G.s1 rfl (qm_x_pushI 5 rfl) ?_
      refine qm_G.cs rfl rfl rfl ?_
      refine qm_v_within11_t ⟨by decide, by decide⟩ ⟨by decide, by decide⟩ ⟨by decide, by decide⟩ (by decide) ⟨_, rfl, ?_⟩
      refine qm_G.ret rfl rfl ⟨_, rfl, ?_⟩
      refine qm_G.s1 rfl (qm_x_if_ne_t ⟨by decide, by decide⟩ (by decide)) ?_
      refine qm_G.sp (lv1 := [(0, qm_R (some (0, 61, 0))), (1, qm_I (qm_i 0)), (2, qm_I (qm_i a2)), (3, qm_L (((qm_l a3) <<< ((qm_i 32).toInt64 &&& 63)) ||| ((qm_l a4) &&& (qm_l 4294967295))))]) rfl rfl (qm_x_aload rfl) ?_
      refine qm_G.s1 rfl (qm_x_getfR (q := (some (0, 73, 0))) (hS 61 rfl) (hR 61 20 73 rfl rfl)) ?_
      refine qm_G.s1 rfl (qm_x_iload rfl) ?_
      refine qm_G.s1 rfl (qm_x_iald (v := (J 73 0 0)) (qm_arS hS rfl rfl) rfl (by decide) (by decide) (by decide) rfl) ?_
      refine qm_G.s1 rfl (qm_x_if_ne_f ⟨by omega, by omega⟩ (by omega)) ?_
      refine qm_G.s1 rfl (qm_x_pushI (-11) rfl) ?_
      refine qm_G.ret rfl rfl ⟨_, rfl, ?_⟩
      refine qm_G.s1 rfl (qm_x_icmp_eq_t ⟨by decide, by decide⟩ ⟨by decide, by decide⟩ (by decide)) ?_
      exact ih _ _ _ _ _ _ hI.next
  · subst d1
    refine qm_G.sp (lv1 := [(0, qm_R (some (2, 0, 0))), (1, qm_R (some (0, 0, 0))), (2, qm_R (some (0, 61, 0))), (3, qm_I (qm_i z))]) rfl rfl (qm_x_aload rfl) ?_
    refine qm_G.s1 rfl (qm_x_aload rfl) ?_
    refine qm_G.s1 rfl (qm_x_iload rfl) ?_
    refine qm_G.s1 rfl (qm_x_pushI 1 rfl) ?_
    refine qm_G.s1 rfl (qm_x_iadd) ?_
    refine qm_G.s1 rfl (qm_x_iald2v (v := 1) (by omega) (by omega) hX e1) ?_
    refine qm_G.s1 rfl (qm_x_aload rfl) ?_
    refine qm_G.s1 rfl (qm_x_iload rfl) ?_
    refine qm_G.s1 rfl (qm_x_pushI 2 rfl) ?_
    refine qm_G.s1 rfl (qm_x_iadd) ?_
    refine qm_G.s1 rfl (qm_x_iald2v (v := a2) (by omega) (by omega) hX e2) ?_
    refine qm_G.s1 rfl (qm_x_aload rfl) ?_
    refine qm_G.s1 rfl (qm_x_iload rfl) ?_
    refine qm_G.s1 rfl (qm_x_pushI 3 rfl) ?_
    refine qm_G.s1 rfl (qm_x_iadd) ?_
    refine qm_G.s1 rfl (qm_x_iald2v (v := a3) (by omega) (by omega) hX e3) ?_
    refine qm_G.s1 rfl (qm_x_i2l ⟨by omega, by omega⟩) ?_
    refine qm_G.s1 rfl (qm_x_pushI 32 rfl) ?_
    refine qm_G.s1 rfl (qm_x_lshl) ?_
    refine qm_G.s1 rfl (qm_x_aload rfl) ?_
    refine qm_G.s1 rfl (qm_x_iload rfl) ?_
    refine qm_G.s1 rfl (qm_x_pushI 4 rfl) ?_
    refine qm_G.s1 rfl (qm_x_iadd) ?_
    refine qm_G.s1 rfl (qm_x_iald2v (v := a4) (by omega) (by omega) hX e4) ?_
    refine qm_G.s1 rfl (qm_x_i2l ⟨by omega, by omega⟩) ?_
    refine qm_G.s1 rfl (qm_x_pushL 4294967295 rfl) ?_
    refine qm_G.s1 rfl (qm_x_land) ?_
    refine qm_G.s1 rfl (qm_x_lor) ?_
    refine qm_G.cm rfl rfl (hS 0 rfl) rfl ?_
    refine qm_C.go (cd := qm_P114) (lv := [(0, qm_R (some (0, 0, 0))), (1, qm_I (qm_i 1)), (2, qm_I (qm_i a2)), (3, qm_L (((qm_l a3) <<< ((qm_i 32).toInt64 &&& 63)) ||| ((qm_l a4) &&& (qm_l 4294967295))))]) rfl rfl ?_
    refine qm_G.s1 rfl (qm_x_iload rfl) ?_
    refine qm_G.cs rfl rfl rfl ?_
    refine qm_C.go (cd := qm_P76) (lv := [(0, qm_I (qm_i 1))]) rfl rfl ?_
    refine qm_G.s1 rfl (qm_x_iload rfl) ?_
    refine qm_G.s1 rfl (qm_x_pushI 0 rfl) ?_
    refine qm_G.s1 rfl (qm_x_pushI 5 rfl) ?_
    refine qm_G.cs rfl rfl rfl ?_
    refine qm_v_within10_t ⟨by decide, by decide⟩ ⟨by decide, by decide⟩ ⟨by decide, by decide⟩ (by decide) ⟨_, rfl, ?_⟩
    refine qm_G.ret rfl rfl ⟨_, rfl, ?_⟩
    refine qm_G.s1 rfl (qm_x_if_ne_t ⟨by decide, by decide⟩ (by decide)) ?_
    refine qm_G.sp (lv1 := [(0, qm_R (some (0, 0, 0))), (1, qm_I (qm_i 1)), (2, qm_I (qm_i a2)), (3, qm_L (((qm_l a3) <<< ((qm_i 32).toInt64 &&& 63)) ||| ((qm_l a4) &&& (qm_l 4294967295))))]) rfl rfl (qm_x_aload rfl) ?_
    refine qm_G.s1 rfl (qm_x_getfR (q := (some (0, 46, 0))) (hS 0 rfl) (hR 0 5 46 rfl rfl)) ?_
    refine qm_G.s1 rfl (qm_x_iload rfl) ?_
    refine qm_G.s1 rfl (qm_x_aaldr (q := (some (0, 51, 0))) (hS 46 rfl) rfl rfl (by decide) (by decide) (hR 46 1 51 rfl rfl)) ?_
    refine qm_G.s1 rfl (qm_x_astore (lv' := [(5, qm_R (some (0, 51, 0))), (0, qm_R (some (0, 0, 0))), (1, qm_I (qm_i 1)), (2, qm_I (qm_i a2)), (3, qm_L (((qm_l a3) <<< ((qm_i 32).toInt64 &&& 63)) ||| ((qm_l a4) &&& (qm_l 4294967295))))]) rfl) ?_
    refine qm_G.s1 rfl (qm_x_aload rfl) ?_
    have f73_1 : 0 ≤ J 73 0 1 ∧ J 73 0 1 ≤ 5 := (hI.srt 1 (by decide)).2
    have f51_1 : J 51 0 1 = J 73 0 1 - 1 := (hI.srt 1 (by decide)).1
    refine qm_G.s1 rfl (qm_x_getfI (v := (J 51 0 1)) (hS 51 rfl) rfl) ?_
    refine qm_G.s1 rfl (qm_x_pushI (-1) rfl) ?_
    refine qm_y_icmp_ne rfl ⟨by omega, by omega⟩ ⟨by decide, by decide⟩ (fun c35 => ?_) (fun c35 => ?_)
    · refine qm_G.sp (lv1 := [(2, qm_I (qm_i a2)), (3, qm_L (((qm_l a3) <<< ((qm_i 32).toInt64 &&& 63)) ||| ((qm_l a4) &&& (qm_l 4294967295)))), (5, qm_R (some (0, 51, 0)))]) rfl rfl (qm_x_iload rfl) ?_
      refine qm_G.s1 rfl (qm_x_pushI 0 rfl) ?_
      refine qm_G.s1 rfl (qm_x_aload rfl) ?_
      have f74_1 : 0 ≤ J 74 0 1 ∧ J 74 0 1 ≤ 60 := ⟨(hI.len 1 (by decide)).2.1, (hI.len 1 (by decide)).2.2.1⟩
      have f51_2 : J 51 0 2 = J 74 0 1 := (hI.len 1 (by decide)).1
      refine qm_G.s1 rfl (qm_x_getfI (v := (J 51 0 2)) (hS 51 rfl) rfl) ?_
      refine qm_G.s1 rfl (qm_x_pushI 1 rfl) ?_
      refine qm_G.s1 rfl (qm_x_isub) ?_
      refine qm_G.cs rfl rfl rfl ?_
      refine qm_v_within10 ⟨by omega, by omega⟩ ⟨by decide, by decide⟩ ⟨by omega, by omega⟩ (fun c36 => ⟨_, rfl, ?_⟩) (fun c36 => ⟨_, rfl, ?_⟩)
      · refine qm_G.s1 rfl (qm_x_if_ne_t ⟨by decide, by decide⟩ (by decide)) ?_
        refine qm_G.sp (lv1 := [(2, qm_I (qm_i a2)), (3, qm_L (((qm_l a3) <<< ((qm_i 32).toInt64 &&& 63)) ||| ((qm_l a4) &&& (qm_l 4294967295)))), (5, qm_R (some (0, 51, 0)))]) rfl rfl (qm_x_aload rfl) ?_
        refine qm_G.s1 rfl (qm_x_getfR (q := (some (0, 52, 0))) (hS 51 rfl) (hR 51 0 52 rfl rfl)) ?_
        refine qm_G.s1 rfl (qm_x_iload rfl) ?_
        refine qm_G.s1 rfl (qm_x_aload rfl) ?_
        refine qm_G.s1 rfl (qm_x_lload rfl) ?_
        refine qm_G.cm rfl rfl (hS 51 rfl) rfl ?_
        refine qm_C.go (cd := qm_P49) (lv := [(0, qm_R (some (0, 51, 0))), (1, qm_L (((qm_l a3) <<< ((qm_i 32).toInt64 &&& 63)) ||| ((qm_l a4) &&& (qm_l 4294967295))))]) rfl rfl ?_
        refine qm_G.s1 rfl (qm_x_aload rfl) ?_
        refine qm_G.s1 rfl (qm_x_getfI (v := (J 51 0 1)) (hS 51 rfl) rfl) ?_
        rcases (show J 51 0 1 = 0 ∨ J 51 0 1 = 1 ∨ J 51 0 1 = 2 ∨ J 51 0 1 = 3 ∨ (J 51 0 1 < 0 ∨ 4 ≤ J 51 0 1) by omega) with c37 | c37 | c37 | c37 | c37
        · refine qm_G.s1 rfl (qm_x_tsweq (v := 0) (t := 36) c37 rfl) ?_
          refine qm_G.sp (lv1 := [(1, qm_L (((qm_l a3) <<< ((qm_i 32).toInt64 &&& 63)) ||| ((qm_l a4) &&& (qm_l 4294967295))))]) rfl rfl (qm_x_lload rfl) ?_
          refine qm_G.s1 rfl (qm_x_l2ir) ?_
          have g38 : qm_sm ((((qm_l a3) <<< ((qm_i 32).toInt64 &&& 63)) ||| ((qm_l a4) &&& (qm_l 4294967295))).toInt32.toInt) := qm_i_sml _
          refine qm_G.s1 rfl (qm_x_i2br) ?_
          have g39 : qm_sm ((qm_i ((((qm_l a3) <<< ((qm_i 32).toInt64 &&& 63)) ||| ((qm_l a4) &&& (qm_l 4294967295))).toInt32.toInt)).toInt8.toInt) := qm_sm8 _
          refine qm_G.s1 rfl (qm_x_i2l ⟨by omega, by omega⟩) ?_
          refine qm_G.ret rfl rfl ⟨_, rfl, ?_⟩
          refine qm_G.s1 rfl (qm_x_last (qm_arS hS rfl rfl) rfl (by omega) (by omega) (by decide)) ?_
          refine qm_G.s1 rfl (qm_x_pushI 1 rfl) ?_
          refine qm_G.ret rfl rfl ⟨_, rfl, ?_⟩
          refine qm_G.s1 rfl (qm_x_aload rfl) ?_
          refine qm_G.s1 rfl (qm_x_aload rfl) ?_
          refine qm_G.s1 rfl (qm_x_iload rfl) ?_
          refine qm_G.s1 rfl (qm_x_pushI 1 rfl) ?_
          refine qm_G.s1 rfl (qm_x_iadd) ?_
          refine qm_G.s1 rfl (qm_x_iald2v (v := 1) (by omega) (by omega) hX e1) ?_
          refine qm_G.s1 rfl (qm_x_aload rfl) ?_
          refine qm_G.s1 rfl (qm_x_iload rfl) ?_
          refine qm_G.s1 rfl (qm_x_pushI 2 rfl) ?_
          refine qm_G.s1 rfl (qm_x_iadd) ?_
          refine qm_G.s1 rfl (qm_x_iald2v (v := a2) (by omega) (by omega) hX e2) ?_
          refine qm_G.s1 rfl (qm_x_aload rfl) ?_
          refine qm_G.s1 rfl (qm_x_iload rfl) ?_
          refine qm_G.s1 rfl (qm_x_pushI 3 rfl) ?_
          refine qm_G.s1 rfl (qm_x_iadd) ?_
          refine qm_G.s1 rfl (qm_x_iald2v (v := a3) (by omega) (by omega) hX e3) ?_
          refine qm_G.s1 rfl (qm_x_i2l ⟨by omega, by omega⟩) ?_
          refine qm_G.s1 rfl (qm_x_pushI 32 rfl) ?_
          refine qm_G.s1 rfl (qm_x_lshl) ?_
          refine qm_G.s1 rfl (qm_x_aload rfl) ?_
          refine qm_G.s1 rfl (qm_x_iload rfl) ?_
          refine qm_G.s1 rfl (qm_x_pushI 4 rfl) ?_
          refine qm_G.s1 rfl (qm_x_iadd) ?_
          refine qm_G.s1 rfl (qm_x_iald2v (v := a4) (by omega) (by omega) hX e4) ?_
          refine qm_G.s1 rfl (qm_x_i2l ⟨by omega, by omega⟩) ?_
          refine qm_G.s1 rfl (qm_x_pushL 4294967295 rfl) ?_
          refine qm_G.s1 rfl (qm_x_land) ?_
          refine qm_G.s1 rfl (qm_x_lor) ?_
          refine qm_G.cm rfl rfl (hS 61 rfl) rfl ?_
          refine qm_C.go (cd := qm_P125) (lv := [(0, qm_R (some (0, 61, 0))), (1, qm_I (qm_i 1)), (2, qm_I (qm_i a2)), (3, qm_L (((qm_l a3) <<< ((qm_i 32).toInt64 &&& 63)) ||| ((qm_l a4) &&& (qm_l 4294967295))))]) rfl rfl ?_
          refine qm_G.s1 rfl (qm_x_iload rfl) ?_
          refine qm_G.cs rfl rfl rfl ?_
          refine qm_C.go (cd := qm_P86) (lv := [(0, qm_I (qm_i 1))]) rfl rfl ?_
          refine qm_G.s1 rfl (qm_x_iload rfl) ?_
          refine qm_G.s1 rfl (qm_x_pushI 0 rfl) ?_
          refine qm_G.s1 rfl (qm_x_pushI 5 rfl) ?_
          refine qm_G.cs rfl rfl rfl ?_
          refine qm_v_within11_t ⟨by decide, by decide⟩ ⟨by decide, by decide⟩ ⟨by decide, by decide⟩ (by decide) ⟨_, rfl, ?_⟩
          refine qm_G.ret rfl rfl ⟨_, rfl, ?_⟩
          refine qm_G.s1 rfl (qm_x_if_ne_t ⟨by decide, by decide⟩ (by decide)) ?_
          refine qm_G.sp (lv1 := [(0, qm_R (some (0, 61, 0))), (1, qm_I (qm_i 1)), (2, qm_I (qm_i a2)), (3, qm_L (((qm_l a3) <<< ((qm_i 32).toInt64 &&& 63)) ||| ((qm_l a4) &&& (qm_l 4294967295))))]) rfl rfl (qm_x_aload rfl) ?_
          refine qm_G.s1 rfl (qm_x_getfR (q := (some (0, 73, 0))) (hS 61 rfl) (hR 61 20 73 rfl rfl)) ?_
          refine qm_G.s1 rfl (qm_x_iload rfl) ?_
          refine qm_G.s1 rfl (qm_x_iald (v := (J 73 0 1)) (qm_arS hS rfl rfl) rfl (by decide) (by decide) (by decide) rfl) ?_
          refine qm_G.s1 rfl (qm_x_if_ne_t ⟨by omega, by omega⟩ (by omega)) ?_
          refine qm_G.sp (lv1 := [(0, qm_R (some (0, 61, 0))), (1, qm_I (qm_i 1)), (2, qm_I (qm_i a2)), (3, qm_L (((qm_l a3) <<< ((qm_i 32).toInt64 &&& 63)) ||| ((qm_l a4) &&& (qm_l 4294967295))))]) rfl rfl (qm_x_iload rfl) ?_
          refine qm_G.s1 rfl (qm_x_pushI 0 rfl) ?_
          refine qm_G.s1 rfl (qm_x_aload rfl) ?_
          refine qm_G.s1 rfl (qm_x_getfR (q := (some (0, 74, 0))) (hS 61 rfl) (hR 61 21 74 rfl rfl)) ?_
          refine qm_G.s1 rfl (qm_x_iload rfl) ?_
          refine qm_G.s1 rfl (qm_x_iald (v := (J 74 0 1)) (qm_arS hS rfl rfl) rfl (by decide) (by decide) (by decide) rfl) ?_
          refine qm_G.s1 rfl (qm_x_pushI 1 rfl) ?_
          refine qm_G.s1 rfl (qm_x_isub) ?_
          refine qm_G.cs rfl rfl rfl ?_
          refine qm_v_within11_t ⟨by omega, by omega⟩ ⟨by decide, by decide⟩ ⟨by omega, by omega⟩ (by omega) ⟨_, rfl, ?_⟩
          refine qm_G.s1 rfl (qm_x_if_ne_t ⟨by decide, by decide⟩ (by decide)) ?_
          refine qm_G.sp (lv1 := [(0, qm_R (some (0, 61, 0))), (1, qm_I (qm_i 1)), (2, qm_I (qm_i a2)), (3, qm_L (((qm_l a3) <<< ((qm_i 32).toInt64 &&& 63)) ||| ((qm_l a4) &&& (qm_l 4294967295))))]) rfl rfl (qm_x_aload rfl) ?_
          refine qm_G.s1 rfl (qm_x_getfR (q := (some (0, 73, 0))) (hS 61 rfl) (hR 61 20 73 rfl rfl)) ?_
          refine qm_G.s1 rfl (qm_x_iload rfl) ?_
          refine qm_G.s1 rfl (qm_x_iald (v := (J 73 0 1)) (qm_arS hS rfl rfl) rfl (by decide) (by decide) (by decide) rfl) ?_
          refine qm_G.s1 rfl (qm_x_istore (lv' := [(5, qm_I (qm_i (J 73 0 1))), (0, qm_R (some (0, 61, 0))), (1, qm_I (qm_i 1)), (2, qm_I (qm_i a2)), (3, qm_L (((qm_l a3) <<< ((qm_i 32).toInt64 &&& 63)) ||| ((qm_l a4) &&& (qm_l 4294967295))))]) rfl) ?_
          refine qm_G.s1 rfl (qm_x_aload rfl) ?_
          refine qm_G.s1 rfl (qm_x_getfR (q := (some (0, 75, 0))) (hS 61 rfl) (hR 61 22 75 rfl rfl)) ?_
          refine qm_G.s1 rfl (qm_x_pushI 60 rfl) ?_
          refine qm_G.s1 rfl (qm_x_iload rfl) ?_
          refine qm_G.s1 rfl (qm_x_imul) ?_
          refine qm_G.s1 rfl (qm_x_iload rfl) ?_
          refine qm_G.s1 rfl (qm_x_iadd) ?_
          refine qm_G.s1 rfl (qm_x_iload rfl) ?_
          refine qm_G.s1 rfl (qm_x_pushI 1 rfl) ?_
          refine qm_G.s1 rfl (qm_x_icmp_ne_f ⟨by omega, by omega⟩ ⟨by decide, by decide⟩ (by omega)) ?_
          refine qm_G.s1 rfl (qm_x_lload rfl) ?_
          refine qm_G.s1 rfl (qm_x_l2ir) ?_
          have g42 : qm_sm ((((qm_l a3) <<< ((qm_i 32).toInt64 &&& 63)) ||| ((qm_l a4) &&& (qm_l 4294967295))).toInt32.toInt) := qm_i_sml _
          refine qm_G.s1 rfl (qm_x_i2br) ?_
          have g43 : qm_sm ((qm_i ((((qm_l a3) <<< ((qm_i 32).toInt64 &&& 63)) ||| ((qm_l a4) &&& (qm_l 4294967295))).toInt32.toInt)).toInt8.toInt) := qm_sm8 _
          refine qm_G.s1 rfl (qm_x_i2l ⟨by omega, by omega⟩) ?_
          refine qm_G.s1 rfl (qm_x_goto) ?_
          refine qm_G.sp (lv1 := []) rfl rfl (qm_x_last (qm_arS hS rfl rfl) rfl (by omega) (by omega) (by decide)) ?_
          refine qm_G.s1 rfl (qm_x_pushI 1 rfl) ?_
          refine qm_G.ret rfl rfl ⟨_, rfl, ?_⟩
          refine qm_G.s1 rfl (qm_x_icmp_eq_t ⟨by decide, by decide⟩ ⟨by decide, by decide⟩ (by decide)) ?_
          rw [show (Int.toNat ((60 * 1) + a2)) = 60 + (Int.toNat a2) by omega]
          exact ih _ _ _ _ _ _ (qm_U_itm1 (by omega) hI)
        · refine qm_G.s1 rfl (qm_x_tsweq (v := 1) (t := 41) c37 rfl) ?_
          refine qm_G.sp (lv1 := [(1, qm_L (((qm_l a3) <<< ((qm_i 32).toInt64 &&& 63)) ||| ((qm_l a4) &&& (qm_l 4294967295))))]) rfl rfl (qm_x_lload rfl) ?_
          refine qm_G.s1 rfl (qm_x_l2ir) ?_
          have g44 : qm_sm ((((qm_l a3) <<< ((qm_i 32).toInt64 &&& 63)) ||| ((qm_l a4) &&& (qm_l 4294967295))).toInt32.toInt) := qm_i_sml _
          refine qm_G.s1 rfl (qm_x_i2sr) ?_
          have g45 : qm_sm ((qm_i ((((qm_l a3) <<< ((qm_i 32).toInt64 &&& 63)) ||| ((qm_l a4) &&& (qm_l 4294967295))).toInt32.toInt)).toInt16.toInt) := qm_sm16 _
          refine qm_G.s1 rfl (qm_x_i2l ⟨by omega, by omega⟩) ?_
          refine qm_G.ret rfl rfl ⟨_, rfl, ?_⟩
          refine qm_G.s1 rfl (qm_x_last (qm_arS hS rfl rfl) rfl (by omega) (by omega) (by decide)) ?_
          refine qm_G.s1 rfl (qm_x_pushI 1 rfl) ?_
          refine qm_G.ret rfl rfl ⟨_, rfl, ?_⟩
          refine qm_G.s1 rfl (qm_x_aload rfl) ?_
          refine qm_G.s1 rfl (qm_x_aload rfl) ?_
          refine qm_G.s1 rfl (qm_x_iload rfl) ?_
          refine qm_G.s1 rfl (qm_x_pushI 1 rfl) ?_
          refine qm_G.s1 rfl (qm_x_iadd) ?_
          refine qm_G.s1 rfl (qm_x_iald2v (v := 1) (by omega) (by omega) hX e1) ?_
          refine qm_G.s1 rfl (qm_x_aload rfl) ?_
          refine qm_G.s1 rfl (qm_x_iload rfl) ?_
          refine qm_G.s1 rfl (qm_x_pushI 2 rfl) ?_
          refine qm_G.s1 rfl (qm_x_iadd) ?_
          refine qm_G.s1 rfl (qm_x_iald2v (v := a2) (by omega) (by omega) hX e2) ?_
          refine qm_G.s1 rfl (qm_x_aload rfl) ?_
          refine qm_G.s1 rfl (qm_x_iload rfl) ?_
          refine qm_G.s1 rfl (qm_x_pushI 3 rfl) ?_
          refine qm_G.s1 rfl (qm_x_iadd) ?_
          refine qm_G.s1 rfl (qm_x_iald2v (v := a3) (by omega) (by omega) hX e3) ?_
          refine qm_G.s1 rfl (qm_x_i2l ⟨by omega, by omega⟩) ?_
          refine qm_G.s1 rfl (qm_x_pushI 32 rfl) ?_
          refine qm_G.s1 rfl (qm_x_lshl) ?_
          refine qm_G.s1 rfl (qm_x_aload rfl) ?_
          refine qm_G.s1 rfl (qm_x_iload rfl) ?_
          refine qm_G.s1 rfl (qm_x_pushI 4 rfl) ?_
          refine qm_G.s1 rfl (qm_x_iadd) ?_
          refine qm_G.s1 rfl (qm_x_iald2v (v := a4) (by omega) (by omega) hX e4) ?_
          refine qm_G.s1 rfl (qm_x_i2l ⟨by omega, by omega⟩) ?_
          refine qm_G.s1 rfl (qm_x_pushL 4294967295 rfl) ?_
          refine qm_G.s1 rfl (qm_x_land) ?_
          refine qm_G.s1 rfl (qm_x_lor) ?_
          refine qm_G.cm rfl rfl (hS 61 rfl) rfl ?_
          refine qm_C.go (cd := qm_P125) (lv := [(0, qm_R (some (0, 61, 0))), (1, qm_I (qm_i 1)), (2, qm_I (qm_i a2)), (3, qm_L (((qm_l a3) <<< ((qm_i 32).toInt64 &&& 63)) ||| ((qm_l a4) &&& (qm_l 4294967295))))]) rfl rfl ?_
          refine qm_G.s1 rfl (qm_x_iload rfl) ?_
          refine qm_G.cs rfl rfl rfl ?_
          refine qm_C.go (cd := qm_P86) (lv := [(0, qm_I (qm_i 1))]) rfl rfl ?_
          refine qm_G.s1 rfl (qm_x_iload rfl) ?_
          refine qm_G.s1 rfl (qm_x_pushI 0 rfl) ?_
          refine qm_G.s1 rfl (qm_x_pushI 5 rfl) ?_
          refine qm_G.cs rfl rfl rfl ?_
          refine qm_v_within11_t ⟨by decide, by decide⟩ ⟨by decide, by decide⟩ ⟨by decide, by decide⟩ (by decide) ⟨_, rfl, ?_⟩
          refine qm_G.ret rfl rfl ⟨_, rfl, ?_⟩
          refine qm_G.s1 rfl (qm_x_if_ne_t ⟨by decide, by decide⟩ (by decide)) ?_
          refine qm_G.sp (lv1 := [(0, qm_R (some (0, 61, 0))), (1, qm_I (qm_i 1)), (2, qm_I (qm_i a2)), (3, qm_L (((qm_l a3) <<< ((qm_i 32).toInt64 &&& 63)) ||| ((qm_l a4) &&& (qm_l 4294967295))))]) rfl rfl (qm_x_aload rfl) ?_
          refine qm_G.s1 rfl (qm_x_getfR (q := (some (0, 73, 0))) (hS 61 rfl) (hR 61 20 73 rfl rfl)) ?_
          refine qm_G.s1 rfl (qm_x_iload rfl) ?_
          refine qm_G.s1 rfl (qm_x_iald (v := (J 73 0 1)) (qm_arS hS rfl rfl) rfl (by decide) (by decide) (by decide) rfl) ?_
          refine qm_G.s1 rfl (qm_x_if_ne_t ⟨by omega, by omega⟩ (by omega)) ?_
          refine qm_G.sp (lv1 := [(0, qm_R (some (0, 61, 0))), (1, qm_I (qm_i 1)), (2, qm_I (qm_i a2)), (3, qm_L (((qm_l a3) <<< ((qm_i 32).toInt64 &&& 63)) ||| ((qm_l a4) &&& (qm_l 4294967295))))]) rfl rfl (qm_x_iload rfl) ?_
          refine qm_G.s1 rfl (qm_x_pushI 0 rfl) ?_
          refine qm_G.s1 rfl (qm_x_aload rfl) ?_
          refine qm_G.s1 rfl (qm_x_getfR (q := (some (0, 74, 0))) (hS 61 rfl) (hR 61 21 74 rfl rfl)) ?_
          refine qm_G.s1 rfl (qm_x_iload rfl) ?_
          refine qm_G.s1 rfl (qm_x_iald (v := (J 74 0 1)) (qm_arS hS rfl rfl) rfl (by decide) (by decide) (by decide) rfl) ?_
          refine qm_G.s1 rfl (qm_x_pushI 1 rfl) ?_
          refine qm_G.s1 rfl (qm_x_isub) ?_
          refine qm_G.cs rfl rfl rfl ?_
          refine qm_v_within11_t ⟨by omega, by omega⟩ ⟨by decide, by decide⟩ ⟨by omega, by omega⟩ (by omega) ⟨_, rfl, ?_⟩
          refine qm_G.s1 rfl (qm_x_if_ne_t ⟨by decide, by decide⟩ (by decide)) ?_
          refine qm_G.sp (lv1 := [(0, qm_R (some (0, 61, 0))), (1, qm_I (qm_i 1)), (2, qm_I (qm_i a2)), (3, qm_L (((qm_l a3) <<< ((qm_i 32).toInt64 &&& 63)) ||| ((qm_l a4) &&& (qm_l 4294967295))))]) rfl rfl (qm_x_aload rfl) ?_
          refine qm_G.s1 rfl (qm_x_getfR (q := (some (0, 73, 0))) (hS 61 rfl) (hR 61 20 73 rfl rfl)) ?_
          refine qm_G.s1 rfl (qm_x_iload rfl) ?_
          refine qm_G.s1 rfl (qm_x_iald (v := (J 73 0 1)) (qm_arS hS rfl rfl) rfl (by decide) (by decide) (by decide) rfl) ?_
          refine qm_G.s1 rfl (qm_x_istore (lv' := [(5, qm_I (qm_i (J 73 0 1))), (0, qm_R (some (0, 61, 0))), (1, qm_I (qm_i 1)), (2, qm_I (qm_i a2)), (3, qm_L (((qm_l a3) <<< ((qm_i 32).toInt64 &&& 63)) ||| ((qm_l a4) &&& (qm_l 4294967295))))]) rfl) ?_
          refine qm_G.s1 rfl (qm_x_aload rfl) ?_
          refine qm_G.s1 rfl (qm_x_getfR (q := (some (0, 75, 0))) (hS 61 rfl) (hR 61 22 75 rfl rfl)) ?_
          refine qm_G.s1 rfl (qm_x_pushI 60 rfl) ?_
          refine qm_G.s1 rfl (qm_x_iload rfl) ?_
          refine qm_G.s1 rfl (qm_x_imul) ?_
          refine qm_G.s1 rfl (qm_x_iload rfl) ?_
          refine qm_G.s1 rfl (qm_x_iadd) ?_
          refine qm_G.s1 rfl (qm_x_iload rfl) ?_
          refine qm_G.s1 rfl (qm_x_pushI 1 rfl) ?_
          refine qm_G.s1 rfl (qm_x_icmp_ne_t ⟨by omega, by omega⟩ ⟨by decide, by decide⟩ (by omega)) ?_
          refine qm_G.sp (lv1 := [(3, qm_L (((qm_l a3) <<< ((qm_i 32).toInt64 &&& 63)) ||| ((qm_l a4) &&& (qm_l 4294967295)))), (5, qm_I (qm_i (J 73 0 1)))]) rfl rfl (qm_x_iload rfl) ?_
          refine qm_G.s1 rfl (qm_x_pushI 2 rfl) ?_
          refine qm_G.s1 rfl (qm_x_icmp_ne_f ⟨by omega, by omega⟩ ⟨by decide, by decide⟩ (by omega)) ?_
          refine qm_G.s1 rfl (qm_x_lload rfl) ?_
          refine qm_G.s1 rfl (qm_x_l2ir) ?_
          have g48 : qm_sm ((((qm_l a3) <<< ((qm_i 32).toInt64 &&& 63)) ||| ((qm_l a4) &&& (qm_l 4294967295))).toInt32.toInt) := qm_i_sml _
          refine qm_G.s1 rfl (qm_x_i2sr) ?_
          have g49 : qm_sm ((qm_i ((((qm_l a3) <<< ((qm_i 32).toInt64 &&& 63)) ||| ((qm_l a4) &&& (qm_l 4294967295))).toInt32.toInt)).toInt16.toInt) := qm_sm16 _
          refine qm_G.s1 rfl (qm_x_i2l ⟨by omega, by omega⟩) ?_
          refine qm_G.s1 rfl (qm_x_goto) ?_
          refine qm_G.sp (lv1 := []) rfl rfl (qm_x_last (qm_arS hS rfl rfl) rfl (by omega) (by omega) (by decide)) ?_
          refine qm_G.s1 rfl (qm_x_pushI 1 rfl) ?_
          refine qm_G.ret rfl rfl ⟨_, rfl, ?_⟩
          refine qm_G.s1 rfl (qm_x_icmp_eq_t ⟨by decide, by decide⟩ ⟨by decide, by decide⟩ (by decide)) ?_
          rw [show (Int.toNat ((60 * 1) + a2)) = 60 + (Int.toNat a2) by omega]
          exact ih _ _ _ _ _ _ (qm_U_itm1 (by omega) hI)
        · refine qm_G.s1 rfl (qm_x_tsweq (v := 2) (t := 46) c37 rfl) ?_
          refine qm_G.sp (lv1 := [(1, qm_L (((qm_l a3) <<< ((qm_i 32).toInt64 &&& 63)) ||| ((qm_l a4) &&& (qm_l 4294967295))))]) rfl rfl (qm_x_lload rfl) ?_
          refine qm_G.s1 rfl (qm_x_l2ir) ?_
          have g50 : qm_sm ((((qm_l a3) <<< ((qm_i 32).toInt64 &&& 63)) ||| ((qm_l a4) &&& (qm_l 4294967295))).toInt32.toInt) := qm_i_sml _
          refine qm_G.s1 rfl (qm_x_i2l ⟨by omega, by omega⟩) ?_
          refine qm_G.ret rfl rfl ⟨_, rfl, ?_⟩
          refine qm_G.s1 rfl (qm_x_last (qm_arS hS rfl rfl) rfl (by omega) (by omega) (by decide)) ?_
          refine qm_G.s1 rfl (qm_x_pushI 1 rfl) ?_
          refine qm_G.ret rfl rfl ⟨_, rfl, ?_⟩
          refine qm_G.s1 rfl (qm_x_aload rfl) ?_
          refine qm_G.s1 rfl (qm_x_aload rfl) ?_
          refine qm_G.s1 rfl (qm_x_iload rfl) ?_
          refine qm_G.s1 rfl (qm_x_pushI 1 rfl) ?_
          refine qm_G.s1 rfl (qm_x_iadd) ?_
          refine qm_G.s1 rfl (qm_x_iald2v (v := 1) (by omega) (by omega) hX e1) ?_
          refine qm_G.s1 rfl (qm_x_aload rfl) ?_
          refine qm_G.s1 rfl (qm_x_iload rfl) ?_
          refine qm_G.s1 rfl (qm_x_pushI 2 rfl) ?_
          refine qm_G.s1 rfl (qm_x_iadd) ?_
          refine qm_G.s1 rfl (qm_x_iald2v (v := a2) (by omega) (by omega) hX e2) ?_
          refine qm_G.s1 rfl (qm_x_aload rfl) ?_
          refine qm_G.s1 rfl (qm_x_iload rfl) ?_
          refine qm_G.s1 rfl (qm_x_pushI 3 rfl) ?_
          refine qm_G.s1 rfl (qm_x_iadd) ?_
          refine qm_G.s1 rfl (qm_x_iald2v (v := a3) (by omega) (by omega) hX e3) ?_
          refine qm_G.s1 rfl (qm_x_i2l ⟨by omega, by omega⟩) ?_
          refine qm_G.s1 rfl (qm_x_pushI 32 rfl) ?_
          refine qm_G.s1 rfl (qm_x_lshl) ?_
          refine qm_G.s1 rfl (qm_x_aload rfl) ?_
          refine qm_G.s1 rfl (qm_x_iload rfl) ?_
          refine qm_G.s1 rfl (qm_x_pushI 4 rfl) ?_
          refine qm_G.s1 rfl (qm_x_iadd) ?_
          refine qm_G.s1 rfl (qm_x_iald2v (v := a4) (by omega) (by omega) hX e4) ?_
          refine qm_G.s1 rfl (qm_x_i2l ⟨by omega, by omega⟩) ?_
          refine qm_G.s1 rfl (qm_x_pushL 4294967295 rfl) ?_
          refine qm_G.s1 rfl (qm_x_land) ?_
          refine qm_G.s1 rfl (qm_x_lor) ?_
          refine qm_G.cm rfl rfl (hS 61 rfl) rfl ?_
          refine qm_C.go (cd := qm_P125) (lv := [(0, qm_R (some (0, 61, 0))), (1, qm_I (qm_i 1)), (2, qm_I (qm_i a2)), (3, qm_L (((qm_l a3) <<< ((qm_i 32).toInt64 &&& 63)) ||| ((qm_l a4) &&& (qm_l 4294967295))))]) rfl rfl ?_
          refine qm_G.s1 rfl (qm_x_iload rfl) ?_
          refine qm_G.cs rfl rfl rfl ?_
          refine qm_C.go (cd := qm_P86) (lv := [(0, qm_I (qm_i 1))]) rfl rfl ?_
          refine qm_G.s1 rfl (qm_x_iload rfl) ?_
          refine qm_G.s1 rfl (qm_x_pushI 0 rfl) ?_
          refine qm_G.s1 rfl (qm_x_pushI 5 rfl) ?_
          refine qm_G.cs rfl rfl rfl ?_
          refine qm_v_within11_t ⟨by decide, by decide⟩ ⟨by decide, by decide⟩ ⟨by decide, by decide⟩ (by decide) ⟨_, rfl, ?_⟩
          refine qm_G.ret rfl rfl ⟨_, rfl, ?_⟩
          refine qm_G.s1 rfl (qm_x_if_ne_t ⟨by decide, by decide⟩ (by decide)) ?_
          refine qm_G.sp (lv1 := [(0, qm_R (some (0, 61, 0))), (1, qm_I (qm_i 1)), (2, qm_I (qm_i a2)), (3, qm_L (((qm_l a3) <<< ((qm_i 32).toInt64 &&& 63)) ||| ((qm_l a4) &&& (qm_l 4294967295))))]) rfl rfl (qm_x_aload rfl) ?_
          refine qm_G.s1 rfl (qm_x_getfR (q := (some (0, 73, 0))) (hS 61 rfl) (hR 61 20 73 rfl rfl)) ?_
          refine qm_G.s1 rfl (qm_x_iload rfl) ?_
          refine qm_G.s1 rfl (qm_x_iald (v := (J 73 0 1)) (qm_arS hS rfl rfl) rfl (by decide) (by decide) (by decide) rfl) ?_
          refine qm_G.s1 rfl (qm_x_if_ne_t ⟨by omega, by omega⟩ (by omega)) ?_
          refine qm_G.sp (lv1 := [(0, qm_R (some (0, 61, 0))), (1, qm_I (qm_i 1)), (2, qm_I (qm_i a2)), (3, qm_L (((qm_l a3) <<< ((qm_i 32).toInt64 &&& 63)) ||| ((qm_l a4) &&& (qm_l 4294967295))))]) rfl rfl (qm_x_iload rfl) ?_
          refine qm_G.s1 rfl (qm_x_pushI 0 rfl) ?_
          refine qm_G.s1 rfl (qm_x_aload rfl) ?_
          refine qm_G.s1 rfl (qm_x_getfR (q := (some (0, 74, 0))) (hS 61 rfl) (hR 61 21 74 rfl rfl)) ?_
          refine qm_G.s1 rfl (qm_x_iload rfl) ?_
          refine qm_G.s1 rfl (qm_x_iald (v := (J 74 0 1)) (qm_arS hS rfl rfl) rfl (by decide) (by decide) (by decide) rfl) ?_
          refine qm_G.s1 rfl (qm_x_pushI 1 rfl) ?_
          refine qm_G.s1 rfl (qm_x_isub) ?_
          refine qm_G.cs rfl rfl rfl ?_
          refine qm_v_within11_t ⟨by omega, by omega⟩ ⟨by decide, by decide⟩ ⟨by omega, by omega⟩ (by omega) ⟨_, rfl, ?_⟩
          refine qm_G.s1 rfl (qm_x_if_ne_t ⟨by decide, by decide⟩ (by decide)) ?_
          refine qm_G.sp (lv1 := [(0, qm_R (some (0, 61, 0))), (1, qm_I (qm_i 1)), (2, qm_I (qm_i a2)), (3, qm_L (((qm_l a3) <<< ((qm_i 32).toInt64 &&& 63)) ||| ((qm_l a4) &&& (qm_l 4294967295))))]) rfl rfl (qm_x_aload rfl) ?_
          refine qm_G.s1 rfl (qm_x_getfR (q := (some (0, 73, 0))) (hS 61 rfl) (hR 61 20 73 rfl rfl)) ?_
          refine qm_G.s1 rfl (qm_x_iload rfl) ?_
          refine qm_G.s1 rfl (qm_x_iald (v := (J 73 0 1)) (qm_arS hS rfl rfl) rfl (by decide) (by decide) (by decide) rfl) ?_
          refine qm_G.s1 rfl (qm_x_istore (lv' := [(5, qm_I (qm_i (J 73 0 1))), (0, qm_R (some (0, 61, 0))), (1, qm_I (qm_i 1)), (2, qm_I (qm_i a2)), (3, qm_L (((qm_l a3) <<< ((qm_i 32).toInt64 &&& 63)) ||| ((qm_l a4) &&& (qm_l 4294967295))))]) rfl) ?_
          refine qm_G.s1 rfl (qm_x_aload rfl) ?_
          refine qm_G.s1 rfl (qm_x_getfR (q := (some (0, 75, 0))) (hS 61 rfl) (hR 61 22 75 rfl rfl)) ?_
          refine qm_G.s1 rfl (qm_x_pushI 60 rfl) ?_
          refine qm_G.s1 rfl (qm_x_iload rfl) ?_
          refine qm_G.s1 rfl (qm_x_imul) ?_
          refine qm_G.s1 rfl (qm_x_iload rfl) ?_
          refine qm_G.s1 rfl (qm_x_iadd) ?_
          refine qm_G.s1 rfl (qm_x_iload rfl) ?_
          refine qm_G.s1 rfl (qm_x_pushI 1 rfl) ?_
          refine qm_G.s1 rfl (qm_x_icmp_ne_t ⟨by omega, by omega⟩ ⟨by decide, by decide⟩ (by omega)) ?_
          refine qm_G.sp (lv1 := [(3, qm_L (((qm_l a3) <<< ((qm_i 32).toInt64 &&& 63)) ||| ((qm_l a4) &&& (qm_l 4294967295)))), (5, qm_I (qm_i (J 73 0 1)))]) rfl rfl (qm_x_iload rfl) ?_
          refine qm_G.s1 rfl (qm_x_pushI 2 rfl) ?_
          refine qm_G.s1 rfl (qm_x_icmp_ne_t ⟨by omega, by omega⟩ ⟨by decide, by decide⟩ (by omega)) ?_
          refine qm_G.sp (lv1 := [(3, qm_L (((qm_l a3) <<< ((qm_i 32).toInt64 &&& 63)) ||| ((qm_l a4) &&& (qm_l 4294967295)))), (5, qm_I (qm_i (J 73 0 1)))]) rfl rfl (qm_x_iload rfl) ?_
          refine qm_G.s1 rfl (qm_x_pushI 3 rfl) ?_
          refine qm_G.s1 rfl (qm_x_icmp_ne_f ⟨by omega, by omega⟩ ⟨by decide, by decide⟩ (by omega)) ?_
          refine qm_G.s1 rfl (qm_x_lload rfl) ?_
          refine qm_G.s1 rfl (qm_x_l2ir) ?_
          have g53 : qm_sm ((((qm_l a3) <<< ((qm_i 32).toInt64 &&& 63)) ||| ((qm_l a4) &&& (qm_l 4294967295))).toInt32.toInt) := qm_i_sml _
          refine qm_G.s1 rfl (qm_x_i2l ⟨by omega, by omega⟩) ?_
          refine qm_G.s1 rfl (qm_x_goto) ?_
          refine qm_G.sp (lv1 := []) rfl rfl (qm_x_last (qm_arS hS rfl rfl) rfl (by omega) (by omega) (by decide)) ?_
          refine qm_G.s1 rfl (qm_x_pushI 1 rfl) ?_
          refine qm_G.ret rfl rfl ⟨_, rfl, ?_⟩
          refine qm_G.s1 rfl (qm_x_icmp_eq_t ⟨by decide, by decide⟩ ⟨by decide, by decide⟩ (by decide)) ?_
          rw [show (Int.toNat ((60 * 1) + a2)) = 60 + (Int.toNat a2) by omega]
          exact ih _ _ _ _ _ _ (qm_U_itm1 (by omega) hI)
        · refine qm_G.s1 rfl (qm_x_tsweq (v := 3) (t := 50) c37 rfl) ?_
          refine qm_G.sp (lv1 := [(1, qm_L (((qm_l a3) <<< ((qm_i 32).toInt64 &&& 63)) ||| ((qm_l a4) &&& (qm_l 4294967295))))]) rfl rfl (qm_x_lload rfl) ?_
          refine qm_G.ret rfl rfl ⟨_, rfl, ?_⟩
          refine qm_G.s1 rfl (qm_x_last (qm_arS hS rfl rfl) rfl (by omega) (by omega) (by decide)) ?_
          refine qm_G.s1 rfl (qm_x_pushI 1 rfl) ?_
          refine qm_G.ret rfl rfl ⟨_, rfl, ?_⟩
          refine qm_G.s1 rfl (qm_x_aload rfl) ?_
          refine qm_G.s1 rfl (qm_x_aload rfl) ?_
          refine qm_G.s1 rfl (qm_x_iload rfl) ?_
          refine qm_G.s1 rfl (qm_x_pushI 1 rfl) ?_
          refine qm_G.s1 rfl (qm_x_iadd) ?_
          refine qm_G.s1 rfl (qm_x_iald2v (v := 1) (by omega) (by omega) hX e1) ?_
          refine qm_G.s1 rfl (qm_x_aload rfl) ?_
          refine qm_G.s1 rfl (qm_x_iload rfl) ?_
          refine qm_G.s1 rfl (qm_x_pushI 2 rfl) ?_
          refine qm_G.s1 rfl (qm_x_iadd) ?_
          refine qm_G.s1 rfl (qm_x_iald2v (v := a2) (by omega) (by omega) hX e2) ?_
          refine qm_G.s1 rfl (qm_x_aload rfl) ?_
          refine qm_G.s1 rfl (qm_x_iload rfl) ?_
          refine qm_G.s1 rfl (qm_x_pushI 3 rfl) ?_
          refine qm_G.s1 rfl (qm_x_iadd) ?_
          refine qm_G.s1 rfl (qm_x_iald2v (v := a3) (by omega) (by omega) hX e3) ?_
          refine qm_G.s1 rfl (qm_x_i2l ⟨by omega, by omega⟩) ?_
          refine qm_G.s1 rfl (qm_x_pushI 32 rfl) ?_
          refine qm_G.s1 rfl (qm_x_lshl) ?_
          refine qm_G.s1 rfl (qm_x_aload rfl) ?_
          refine qm_G.s1 rfl (qm_x_iload rfl) ?_
          refine qm_G.s1 rfl (qm_x_pushI 4 rfl) ?_
          refine qm_G.s1 rfl (qm_x_iadd) ?_
          refine qm_G.s1 rfl (qm_x_iald2v (v := a4) (by omega) (by omega) hX e4) ?_
          refine qm_G.s1 rfl (qm_x_i2l ⟨by omega, by omega⟩) ?_
          refine qm_G.s1 rfl (qm_x_pushL 4294967295 rfl) ?_
          refine qm_G.s1 rfl (qm_x_land) ?_
          refine qm_G.s1 rfl (qm_x_lor) ?_
          refine qm_G.cm rfl rfl (hS 61 rfl) rfl ?_
          refine qm_C.go (cd := qm_P125) (lv := [(0, qm_R (some (0, 61, 0))), (1, qm_I (qm_i 1)), (2, qm_I (qm_i a2)), (3, qm_L (((qm_l a3) <<< ((qm_i 32).toInt64 &&& 63)) ||| ((qm_l a4) &&& (qm_l 4294967295))))]) rfl rfl ?_
          refine qm_G.s1 rfl (qm_x_iload rfl) ?_
          refine qm_G.cs rfl rfl rfl ?_
          refine qm_C.go (cd := qm_P86) (lv := [(0, qm_I (qm_i 1))]) rfl rfl ?_
          refine qm_G.s1 rfl (qm_x_iload rfl) ?_
          refine qm_G.s1 rfl (qm_x_pushI 0 rfl) ?_
          refine qm_G.s1 rfl (qm_x_pushI 5 rfl) ?_
          refine qm_G.cs rfl rfl rfl ?_
          refine qm_v_within11_t ⟨by decide, by decide⟩ ⟨by decide, by decide⟩ ⟨by decide, by decide⟩ (by decide) ⟨_, rfl, ?_⟩
          refine qm_G.ret rfl rfl ⟨_, rfl, ?_⟩
          refine qm_G.s1 rfl (qm_x_if_ne_t ⟨by decide, by decide⟩ (by decide)) ?_
          refine qm_G.sp (lv1 := [(0, qm_R (some (0, 61, 0))), (1, qm_I (qm_i 1)), (2, qm_I (qm_i a2)), (3, qm_L (((qm_l a3) <<< ((qm_i 32).toInt64 &&& 63)) ||| ((qm_l a4) &&& (qm_l 4294967295))))]) rfl rfl (qm_x_aload rfl) ?_
          refine qm_G.s1 rfl (qm_x_getfR (q := (some (0, 73, 0))) (hS 61 rfl) (hR 61 20 73 rfl rfl)) ?_
          refine qm_G.s1 rfl (qm_x_iload rfl) ?_
          refine qm_G.s1 rfl (qm_x_iald (v := (J 73 0 1)) (qm_arS hS rfl rfl) rfl (by decide) (by decide) (by decide) rfl) ?_
          refine qm_G.s1 rfl (qm_x_if_ne_t ⟨by omega, by omega⟩ (by omega)) ?_
          refine qm_G.sp (lv1 := [(0, qm_R (some (0, 61, 0))), (1, qm_I (qm_i 1)), (2, qm_I (qm_i a2)), (3, qm_L (((qm_l a3) <<< ((qm_i 32).toInt64 &&& 63)) ||| ((qm_l a4) &&& (qm_l 4294967295))))]) rfl rfl (qm_x_iload rfl) ?_
          refine qm_G.s1 rfl (qm_x_pushI 0 rfl) ?_
          refine qm_G.s1 rfl (qm_x_aload rfl) ?_
          refine qm_G.s1 rfl (qm_x_getfR (q := (some (0, 74, 0))) (hS 61 rfl) (hR 61 21 74 rfl rfl)) ?_
          refine qm_G.s1 rfl (qm_x_iload rfl) ?_
          refine qm_G.s1 rfl (qm_x_iald (v := (J 74 0 1)) (qm_arS hS rfl rfl) rfl (by decide) (by decide) (by decide) rfl) ?_
          refine qm_G.s1 rfl (qm_x_pushI 1 rfl) ?_
          refine qm_G.s1 rfl (qm_x_isub) ?_
          refine qm_G.cs rfl rfl rfl ?_
          refine qm_v_within11_t ⟨by omega, by omega⟩ ⟨by decide, by decide⟩ ⟨by omega, by omega⟩ (by omega) ⟨_, rfl, ?_⟩
          refine qm_G.s1 rfl (qm_x_if_ne_t ⟨by decide, by decide⟩ (by decide)) ?_
          refine qm_G.sp (lv1 := [(0, qm_R (some (0, 61, 0))), (1, qm_I (qm_i 1)), (2, qm_I (qm_i a2)), (3, qm_L (((qm_l a3) <<< ((qm_i 32).toInt64 &&& 63)) ||| ((qm_l a4) &&& (qm_l 4294967295))))]) rfl rfl (qm_x_aload rfl) ?_
          refine qm_G.s1 rfl (qm_x_getfR (q := (some (0, 73, 0))) (hS 61 rfl) (hR 61 20 73 rfl rfl)) ?_
          refine qm_G.s1 rfl (qm_x_iload rfl) ?_
          refine qm_G.s1 rfl (qm_x_iald (v := (J 73 0 1)) (qm_arS hS rfl rfl) rfl (by decide) (by decide) (by decide) rfl) ?_
          refine qm_G.s1 rfl (qm_x_istore (lv' := [(5, qm_I (qm_i (J 73 0 1))), (0, qm_R (some (0, 61, 0))), (1, qm_I (qm_i 1)), (2, qm_I (qm_i a2)), (3, qm_L (((qm_l a3) <<< ((qm_i 32).toInt64 &&& 63)) ||| ((qm_l a4) &&& (qm_l 4294967295))))]) rfl) ?_
          refine qm_G.s1 rfl (qm_x_aload rfl) ?_
          refine qm_G.s1 rfl (qm_x_getfR (q := (some (0, 75, 0))) (hS 61 rfl) (hR 61 22 75 rfl rfl)) ?_
          refine qm_G.s1 rfl (qm_x_pushI 60 rfl) ?_
          refine qm_G.s1 rfl (qm_x_iload rfl) ?_
          refine qm_G.s1 rfl (qm_x_imul) ?_
          refine qm_G.s1 rfl (qm_x_iload rfl) ?_
          refine qm_G.s1 rfl (qm_x_iadd) ?_
          refine qm_G.s1 rfl (qm_x_iload rfl) ?_
          refine qm_G.s1 rfl (qm_x_pushI 1 rfl) ?_
          refine qm_G.s1 rfl (qm_x_icmp_ne_t ⟨by omega, by omega⟩ ⟨by decide, by decide⟩ (by omega)) ?_
          refine qm_G.sp (lv1 := [(3, qm_L (((qm_l a3) <<< ((qm_i 32).toInt64 &&& 63)) ||| ((qm_l a4) &&& (qm_l 4294967295)))), (5, qm_I (qm_i (J 73 0 1)))]) rfl rfl (qm_x_iload rfl) ?_
          refine qm_G.s1 rfl (qm_x_pushI 2 rfl) ?_
          refine qm_G.s1 rfl (qm_x_icmp_ne_t ⟨by omega, by omega⟩ ⟨by decide, by decide⟩ (by omega)) ?_
          refine qm_G.sp (lv1 := [(3, qm_L (((qm_l a3) <<< ((qm_i 32).toInt64 &&& 63)) ||| ((qm_l a4) &&& (qm_l 4294967295)))), (5, qm_I (qm_i (J 73 0 1)))]) rfl rfl (qm_x_iload rfl) ?_
          refine qm_G.s1 rfl (qm_x_pushI 3 rfl) ?_
          refine qm_G.s1 rfl (qm_x_icmp_ne_t ⟨by omega, by omega⟩ ⟨by decide, by decide⟩ (by omega)) ?_
          refine qm_G.sp (lv1 := [(3, qm_L (((qm_l a3) <<< ((qm_i 32).toInt64 &&& 63)) ||| ((qm_l a4) &&& (qm_l 4294967295)))), (5, qm_I (qm_i (J 73 0 1)))]) rfl rfl (qm_x_iload rfl) ?_
          refine qm_G.s1 rfl (qm_x_pushI 4 rfl) ?_
          refine qm_G.s1 rfl (qm_x_icmp_ne_f ⟨by omega, by omega⟩ ⟨by decide, by decide⟩ (by omega)) ?_
          refine qm_G.s1 rfl (qm_x_lload rfl) ?_
          refine qm_G.s1 rfl (qm_x_goto) ?_
          refine qm_G.sp (lv1 := []) rfl rfl (qm_x_last (qm_arS hS rfl rfl) rfl (by omega) (by omega) (by decide)) ?_
          refine qm_G.s1 rfl (qm_x_pushI 1 rfl) ?_
          refine qm_G.ret rfl rfl ⟨_, rfl, ?_⟩
          refine qm_G.s1 rfl (qm_x_icmp_eq_t ⟨by decide, by decide⟩ ⟨by decide, by decide⟩ (by decide)) ?_
          rw [show (Int.toNat ((60 * 1) + a2)) = 60 + (Int.toNat a2) by omega]
          exact ih _ _ _ _ _ _ (qm_U_itm1 (by omega) hI)
        · refine qm_G.s1 rfl (qm_x_tswd (m := 4) rfl ⟨by omega, by omega⟩ (by omega) (by omega) (by decide)) ?_
          refine qm_G.sp (lv1 := [(1, qm_L (((qm_l a3) <<< ((qm_i 32).toInt64 &&& 63)) ||| ((qm_l a4) &&& (qm_l 4294967295))))]) rfl rfl (qm_x_lload rfl) ?_
          refine qm_G.s1 rfl (qm_x_pushL 0 rfl) ?_
          refine qm_y_lcmpr rfl (fun c56 => ?_) (fun c56 => ?_) (fun c56 => ?_)
          · refine qm_G.s1 rfl (qm_x_if_eq_f ⟨by decide, by decide⟩ (by decide)) ?_
            refine qm_G.s1 rfl (qm_x_pushL 1 rfl) ?_
            refine qm_G.s1 rfl (qm_x_goto) ?_
            refine qm_G.ret rfl rfl ⟨_, rfl, ?_⟩
            refine qm_G.s1 rfl (qm_x_last (qm_arS hS rfl rfl) rfl (by omega) (by omega) (by decide)) ?_
            refine qm_G.s1 rfl (qm_x_pushI 1 rfl) ?_
            refine qm_G.ret rfl rfl ⟨_, rfl, ?_⟩
            refine qm_G.s1 rfl (qm_x_aload rfl) ?_
            refine qm_G.s1 rfl (qm_x_aload rfl) ?_
            refine qm_G.s1 rfl (qm_x_iload rfl) ?_
            refine qm_G.s1 rfl (qm_x_pushI 1 rfl) ?_
            refine qm_G.s1 rfl (qm_x_iadd) ?_
            refine qm_G.s1 rfl (qm_x_iald2v (v := 1) (by omega) (by omega) hX e1) ?_
            refine qm_G.s1 rfl (qm_x_aload rfl) ?_
            refine qm_G.s1 rfl (qm_x_iload rfl) ?_
            refine qm_G.s1 rfl (qm_x_pushI 2 rfl) ?_
            refine qm_G.s1 rfl (qm_x_iadd) ?_
            refine qm_G.s1 rfl (qm_x_iald2v (v := a2) (by omega) (by omega) hX e2) ?_
            refine qm_G.s1 rfl (qm_x_aload rfl) ?_
            refine qm_G.s1 rfl (qm_x_iload rfl) ?_
            refine qm_G.s1 rfl (qm_x_pushI 3 rfl) ?_
            refine qm_G.s1 rfl (qm_x_iadd) ?_
            refine qm_G.s1 rfl (qm_x_iald2v (v := a3) (by omega) (by omega) hX e3) ?_
            refine qm_G.s1 rfl (qm_x_i2l ⟨by omega, by omega⟩) ?_
            refine qm_G.s1 rfl (qm_x_pushI 32 rfl) ?_
            refine qm_G.s1 rfl (qm_x_lshl) ?_
            refine qm_G.s1 rfl (qm_x_aload rfl) ?_
            refine qm_G.s1 rfl (qm_x_iload rfl) ?_
            refine qm_G.s1 rfl (qm_x_pushI 4 rfl) ?_
            refine qm_G.s1 rfl (qm_x_iadd) ?_
            refine qm_G.s1 rfl (qm_x_iald2v (v := a4) (by omega) (by omega) hX e4) ?_
            refine qm_G.s1 rfl (qm_x_i2l ⟨by omega, by omega⟩) ?_
            refine qm_G.s1 rfl (qm_x_pushL 4294967295 rfl) ?_
            refine qm_G.s1 rfl (qm_x_land) ?_
            refine qm_G.s1 rfl (qm_x_lor) ?_
            refine qm_G.cm rfl rfl (hS 61 rfl) rfl ?_
            refine qm_C.go (cd := qm_P125) (lv := [(0, qm_R (some (0, 61, 0))), (1, qm_I (qm_i 1)), (2, qm_I (qm_i a2)), (3, qm_L (((qm_l a3) <<< ((qm_i 32).toInt64 &&& 63)) ||| ((qm_l a4) &&& (qm_l 4294967295))))]) rfl rfl ?_
            refine qm_G.s1 rfl (qm_x_iload rfl) ?_
            refine qm_G.cs rfl rfl rfl ?_
            refine qm_C.go (cd := qm_P86) (lv := [(0, qm_I (qm_i 1))]) rfl rfl ?_
            refine qm_G.s1 rfl (qm_x_iload rfl) ?_
            refine qm_G.s1 rfl (qm_x_pushI 0 rfl) ?_
            refine qm_G.s1 rfl (qm_x_pushI 5 rfl) ?_
            refine qm_G.cs rfl rfl rfl ?_
            refine qm_v_within11_t ⟨by decide, by decide⟩ ⟨by decide, by decide⟩ ⟨by decide, by decide⟩ (by decide) ⟨_, rfl, ?_⟩
            refine qm_G.ret rfl rfl ⟨_, rfl, ?_⟩
            refine qm_G.s1 rfl (qm_x_if_ne_t ⟨by decide, by decide⟩ (by decide)) ?_
            refine qm_G.sp (lv1 := [(0, qm_R (some (0, 61, 0))), (1, qm_I (qm_i 1)), (2, qm_I (qm_i a2)), (3, qm_L (((qm_l a3) <<< ((qm_i 32).toInt64 &&& 63)) ||| ((qm_l a4) &&& (qm_l 4294967295))))]) rfl rfl (qm_x_aload rfl) ?_
            refine qm_G.s1 rfl (qm_x_getfR (q := (some (0, 73, 0))) (hS 61 rfl) (hR 61 20 73 rfl rfl)) ?_
            refine qm_G.s1 rfl (qm_x_iload rfl) ?_
            refine qm_G.s1 rfl (qm_x_iald (v := (J 73 0 1)) (qm_arS hS rfl rfl) rfl (by decide) (by decide) (by decide) rfl) ?_
            refine qm_G.s1 rfl (qm_x_if_ne_t ⟨by omega, by omega⟩ (by omega)) ?_
            refine qm_G.sp (lv1 := [(0, qm_R (some (0, 61, 0))), (1, qm_I (qm_i 1)), (2, qm_I (qm_i a2)), (3, qm_L (((qm_l a3) <<< ((qm_i 32).toInt64 &&& 63)) ||| ((qm_l a4) &&& (qm_l 4294967295))))]) rfl rfl (qm_x_iload rfl) ?_
            refine qm_G.s1 rfl (qm_x_pushI 0 rfl) ?_
            refine qm_G.s1 rfl (qm_x_aload rfl) ?_
            refine qm_G.s1 rfl (qm_x_getfR (q := (some (0, 74, 0))) (hS 61 rfl) (hR 61 21 74 rfl rfl)) ?_
            refine qm_G.s1 rfl (qm_x_iload rfl) ?_
            refine qm_G.s1 rfl (qm_x_iald (v := (J 74 0 1)) (qm_arS hS rfl rfl) rfl (by decide) (by decide) (by decide) rfl) ?_
            refine qm_G.s1 rfl (qm_x_pushI 1 rfl) ?_
            refine qm_G.s1 rfl (qm_x_isub) ?_
            refine qm_G.cs rfl rfl rfl ?_
            refine qm_v_within11_t ⟨by omega, by omega⟩ ⟨by decide, by decide⟩ ⟨by omega, by omega⟩ (by omega) ⟨_, rfl, ?_⟩
            refine qm_G.s1 rfl (qm_x_if_ne_t ⟨by decide, by decide⟩ (by decide)) ?_
            refine qm_G.sp (lv1 := [(0, qm_R (some (0, 61, 0))), (1, qm_I (qm_i 1)), (2, qm_I (qm_i a2)), (3, qm_L (((qm_l a3) <<< ((qm_i 32).toInt64 &&& 63)) ||| ((qm_l a4) &&& (qm_l 4294967295))))]) rfl rfl (qm_x_aload rfl) ?_
            refine qm_G.s1 rfl (qm_x_getfR (q := (some (0, 73, 0))) (hS 61 rfl) (hR 61 20 73 rfl rfl)) ?_
            refine qm_G.s1 rfl (qm_x_iload rfl) ?_
            refine qm_G.s1 rfl (qm_x_iald (v := (J 73 0 1)) (qm_arS hS rfl rfl) rfl (by decide) (by decide) (by decide) rfl) ?_
            refine qm_G.s1 rfl (qm_x_istore (lv' := [(5, qm_I (qm_i (J 73 0 1))), (0, qm_R (some (0, 61, 0))), (1, qm_I (qm_i 1)), (2, qm_I (qm_i a2)), (3, qm_L (((qm_l a3) <<< ((qm_i 32).toInt64 &&& 63)) ||| ((qm_l a4) &&& (qm_l 4294967295))))]) rfl) ?_
            refine qm_G.s1 rfl (qm_x_aload rfl) ?_
            refine qm_G.s1 rfl (qm_x_getfR (q := (some (0, 75, 0))) (hS 61 rfl) (hR 61 22 75 rfl rfl)) ?_
            refine qm_G.s1 rfl (qm_x_pushI 60 rfl) ?_
            refine qm_G.s1 rfl (qm_x_iload rfl) ?_
            refine qm_G.s1 rfl (qm_x_imul) ?_
            refine qm_G.s1 rfl (qm_x_iload rfl) ?_
            refine qm_G.s1 rfl (qm_x_iadd) ?_
            refine qm_G.s1 rfl (qm_x_iload rfl) ?_
            refine qm_G.s1 rfl (qm_x_pushI 1 rfl) ?_
            refine qm_G.s1 rfl (qm_x_icmp_ne_t ⟨by omega, by omega⟩ ⟨by decide, by decide⟩ (by omega)) ?_
            refine qm_G.sp (lv1 := [(3, qm_L (((qm_l a3) <<< ((qm_i 32).toInt64 &&& 63)) ||| ((qm_l a4) &&& (qm_l 4294967295)))), (5, qm_I (qm_i (J 73 0 1)))]) rfl rfl (qm_x_iload rfl) ?_
            refine qm_G.s1 rfl (qm_x_pushI 2 rfl) ?_
            refine qm_G.s1 rfl (qm_x_icmp_ne_t ⟨by omega, by omega⟩ ⟨by decide, by decide⟩ (by omega)) ?_
            refine qm_G.sp (lv1 := [(3, qm_L (((qm_l a3) <<< ((qm_i 32).toInt64 &&& 63)) ||| ((qm_l a4) &&& (qm_l 4294967295)))), (5, qm_I (qm_i (J 73 0 1)))]) rfl rfl (qm_x_iload rfl) ?_
            refine qm_G.s1 rfl (qm_x_pushI 3 rfl) ?_
            refine qm_G.s1 rfl (qm_x_icmp_ne_t ⟨by omega, by omega⟩ ⟨by decide, by decide⟩ (by omega)) ?_
            refine qm_G.sp (lv1 := [(3, qm_L (((qm_l a3) <<< ((qm_i 32).toInt64 &&& 63)) ||| ((qm_l a4) &&& (qm_l 4294967295)))), (5, qm_I (qm_i (J 73 0 1)))]) rfl rfl (qm_x_iload rfl) ?_
            refine qm_G.s1 rfl (qm_x_pushI 4 rfl) ?_
            refine qm_G.s1 rfl (qm_x_icmp_ne_t ⟨by omega, by omega⟩ ⟨by decide, by decide⟩ (by omega)) ?_
            refine qm_G.sp (lv1 := [(3, qm_L (((qm_l a3) <<< ((qm_i 32).toInt64 &&& 63)) ||| ((qm_l a4) &&& (qm_l 4294967295))))]) rfl rfl (qm_x_lload rfl) ?_
            refine qm_G.s1 rfl (qm_x_pushL 0 rfl) ?_
            refine qm_G.s1 rfl (qm_x_lcmp_lt c56) ?_
            refine qm_G.s1 rfl (qm_x_if_eq_f ⟨by decide, by decide⟩ (by decide)) ?_
            refine qm_G.s1 rfl (qm_x_pushL 1 rfl) ?_
            refine qm_G.s1 rfl (qm_x_goto) ?_
            refine qm_G.sp (lv1 := []) rfl rfl (qm_x_last (qm_arS hS rfl rfl) rfl (by omega) (by omega) (by decide)) ?_
            refine qm_G.s1 rfl (qm_x_pushI 1 rfl) ?_
            refine qm_G.ret rfl rfl ⟨_, rfl, ?_⟩
            refine qm_G.s1 rfl (qm_x_icmp_eq_t ⟨by decide, by decide⟩ ⟨by decide, by decide⟩ (by decide)) ?_
            rw [show (Int.toNat ((60 * 1) + a2)) = 60 + (Int.toNat a2) by omega]
            exact ih _ _ _ _ _ _ (qm_U_itm1 (by omega) hI)
          · refine qm_G.s1 rfl (qm_x_if_eq_t ⟨by decide, by decide⟩ (by decide)) ?_
            refine qm_G.sp (lv1 := []) rfl rfl (qm_x_pushL 0 rfl) ?_
            refine qm_G.ret rfl rfl ⟨_, rfl, ?_⟩
            refine qm_G.s1 rfl (qm_x_last (qm_arS hS rfl rfl) rfl (by omega) (by omega) (by decide)) ?_
            refine qm_G.s1 rfl (qm_x_pushI 1 rfl) ?_
            refine qm_G.ret rfl rfl ⟨_, rfl, ?_⟩
            refine qm_G.s1 rfl (qm_x_aload rfl) ?_
            refine qm_G.s1 rfl (qm_x_aload rfl) ?_
            refine qm_G.s1 rfl (qm_x_iload rfl) ?_
            refine qm_G.s1 rfl (qm_x_pushI 1 rfl) ?_
            refine qm_G.s1 rfl (qm_x_iadd) ?_
            refine qm_G.s1 rfl (qm_x_iald2v (v := 1) (by omega) (by omega) hX e1) ?_
            refine qm_G.s1 rfl (qm_x_aload rfl) ?_
            refine qm_G.s1 rfl (qm_x_iload rfl) ?_
            refine qm_G.s1 rfl (qm_x_pushI 2 rfl) ?_
            refine qm_G.s1 rfl (qm_x_iadd) ?_
            refine qm_G.s1 rfl (qm_x_iald2v (v := a2) (by omega) (by omega) hX e2) ?_
            refine qm_G.s1 rfl (qm_x_aload rfl) ?_
            refine qm_G.s1 rfl (qm_x_iload rfl) ?_
            refine qm_G.s1 rfl (qm_x_pushI 3 rfl) ?_
            refine qm_G.s1 rfl (qm_x_iadd) ?_
            refine qm_G.s1 rfl (qm_x_iald2v (v := a3) (by omega) (by omega) hX e3) ?_
            refine qm_G.s1 rfl (qm_x_i2l ⟨by omega, by omega⟩) ?_
            refine qm_G.s1 rfl (qm_x_pushI 32 rfl) ?_
            refine qm_G.s1 rfl (qm_x_lshl) ?_
            refine qm_G.s1 rfl (qm_x_aload rfl) ?_
            refine qm_G.s1 rfl (qm_x_iload rfl) ?_
            refine qm_G.s1 rfl (qm_x_pushI 4 rfl) ?_
            refine qm_G.s1 rfl (qm_x_iadd) ?_
            refine qm_G.s1 rfl (qm_x_iald2v (v := a4) (by omega) (by omega) hX e4) ?_
            refine qm_G.s1 rfl (qm_x_i2l ⟨by omega, by omega⟩) ?_
            refine qm_G.s1 rfl (qm_x_pushL 4294967295 rfl) ?_
            refine qm_G.s1 rfl (qm_x_land) ?_
            refine qm_G.s1 rfl (qm_x_lor) ?_
            refine qm_G.cm rfl rfl (hS 61 rfl) rfl ?_
            refine qm_C.go (cd := qm_P125) (lv := [(0, qm_R (some (0, 61, 0))), (1, qm_I (qm_i 1)), (2, qm_I (qm_i a2)), (3, qm_L (((qm_l a3) <<< ((qm_i 32).toInt64 &&& 63)) ||| ((qm_l a4) &&& (qm_l 4294967295))))]) rfl rfl ?_
            refine qm_G.s1 rfl (qm_x_iload rfl) ?_
            refine qm_G.cs rfl rfl rfl ?_
            refine qm_C.go (cd := qm_P86) (lv := [(0, qm_I (qm_i 1))]) rfl rfl ?_
            refine qm_G.s1 rfl (qm_x_iload rfl) ?_
            refine qm_G.s1 rfl (qm_x_pushI 0 rfl) ?_
            refine qm_G.s1 rfl (qm_x_pushI 5 rfl) ?_
            refine qm_G.cs rfl rfl rfl ?_
            refine qm_v_within11_t ⟨by decide, by decide⟩ ⟨by decide, by decide⟩ ⟨by decide, by decide⟩ (by decide) ⟨_, rfl, ?_⟩
            refine qm_G.ret rfl rfl ⟨_, rfl, ?_⟩
            refine qm_G.s1 rfl (qm_x_if_ne_t ⟨by decide, by decide⟩ (by decide)) ?_
            refine qm_G.sp (lv1 := [(0, qm_R (some (0, 61, 0))), (1, qm_I (qm_i 1)), (2, qm_I (qm_i a2)), (3, qm_L (((qm_l a3) <<< ((qm_i 32).toInt64 &&& 63)) ||| ((qm_l a4) &&& (qm_l 4294967295))))]) rfl rfl (qm_x_aload rfl) ?_
            refine qm_G.s1 rfl (qm_x_getfR (q := (some (0, 73, 0))) (hS 61 rfl) (hR 61 20 73 rfl rfl)) ?_
            refine qm_G.s1 rfl (qm_x_iload rfl) ?_
            refine qm_G.s1 rfl (qm_x_iald (v := (J 73 0 1)) (qm_arS hS rfl rfl) rfl (by decide) (by decide) (by decide) rfl) ?_
            refine qm_G.s1 rfl (qm_x_if_ne_t ⟨by omega, by omega⟩ (by omega)) ?_
            refine qm_G.sp (lv1 := [(0, qm_R (some (0, 61, 0))), (1, qm_I (qm_i 1)), (2, qm_I (qm_i a2)), (3, qm_L (((qm_l a3) <<< ((qm_i 32).toInt64 &&& 63)) ||| ((qm_l a4) &&& (qm_l 4294967295))))]) rfl rfl (qm_x_iload rfl) ?_
            refine qm_G.s1 rfl (qm_x_pushI 0 rfl) ?_
            refine qm_G.s1 rfl (qm_x_aload rfl) ?_
            refine qm_G.s1 rfl (qm_x_getfR (q := (some (0, 74, 0))) (hS 61 rfl) (hR 61 21 74 rfl rfl)) ?_
            refine qm_G.s1 rfl (qm_x_iload rfl) ?_
            refine qm_G.s1 rfl (qm_x_iald (v := (J 74 0 1)) (qm_arS hS rfl rfl) rfl (by decide) (by decide) (by decide) rfl) ?_
            refine qm_G.s1 rfl (qm_x_pushI 1 rfl) ?_
            refine qm_G.s1 rfl (qm_x_isub) ?_
            refine qm_G.cs rfl rfl rfl ?_
            refine qm_v_within11_t ⟨by omega, by omega⟩ ⟨by decide, by decide⟩ ⟨by omega, by omega⟩ (by omega) ⟨_, rfl, ?_⟩
            refine qm_G.s1 rfl (qm_x_if_ne_t ⟨by decide, by decide⟩ (by decide)) ?_
            refine qm_G.sp (lv1 := [(0, qm_R (some (0, 61, 0))), (1, qm_I (qm_i 1)), (2, qm_I (qm_i a2)), (3, qm_L (((qm_l a3) <<< ((qm_i 32).toInt64 &&& 63)) ||| ((qm_l a4) &&& (qm_l 4294967295))))]) rfl rfl (qm_x_aload rfl) ?_
            refine qm_G.s1 rfl (qm_x_getfR (q := (some (0, 73, 0))) (hS 61 rfl) (hR 61 20 73 rfl rfl)) ?_
            refine qm_G.s1 rfl (qm_x_iload rfl) ?_
            refine qm_G.s1 rfl (qm_x_iald (v := (J 73 0 1)) (qm_arS hS rfl rfl) rfl (by decide) (by decide) (by decide) rfl) ?_
            refine qm_G.s1 rfl (qm_x_istore (lv' := [(5, qm_I (qm_i (J 73 0 1))), (0, qm_R (some (0, 61, 0))), (1, qm_I (qm_i 1)), (2, qm_I (qm_i a2)), (3, qm_L (((qm_l a3) <<< ((qm_i 32).toInt64 &&& 63)) ||| ((qm_l a4) &&& (qm_l 4294967295))))]) rfl) ?_
            refine qm_G.s1 rfl (qm_x_aload rfl) ?_
            refine qm_G.s1 rfl (qm_x_getfR (q := (some (0, 75, 0))) (hS 61 rfl) (hR 61 22 75 rfl rfl)) ?_
            refine qm_G.s1 rfl (qm_x_pushI 60 rfl) ?_
            refine qm_G.s1 rfl (qm_x_iload rfl) ?_
            refine qm_G.s1 rfl (qm_x_imul) ?_
            refine qm_G.s1 rfl (qm_x_iload rfl) ?_
            refine qm_G.s1 rfl (qm_x_iadd) ?_
            refine qm_G.s1 rfl (qm_x_iload rfl) ?_
            refine qm_G.s1 rfl (qm_x_pushI 1 rfl) ?_
            refine qm_G.s1 rfl (qm_x_icmp_ne_t ⟨by omega, by omega⟩ ⟨by decide, by decide⟩ (by omega)) ?_
            refine qm_G.sp (lv1 := [(3, qm_L (((qm_l a3) <<< ((qm_i 32).toInt64 &&& 63)) ||| ((qm_l a4) &&& (qm_l 4294967295)))), (5, qm_I (qm_i (J 73 0 1)))]) rfl rfl (qm_x_iload rfl) ?_
            refine qm_G.s1 rfl (qm_x_pushI 2 rfl) ?_
            refine qm_G.s1 rfl (qm_x_icmp_ne_t ⟨by omega, by omega⟩ ⟨by decide, by decide⟩ (by omega)) ?_
            refine qm_G.sp (lv1 := [(3, qm_L (((qm_l a3) <<< ((qm_i 32).toInt64 &&& 63)) ||| ((qm_l a4) &&& (qm_l 4294967295)))), (5, qm_I (qm_i (J 73 0 1)))]) rfl rfl (qm_x_iload rfl) ?_
            refine qm_G.s1 rfl (qm_x_pushI 3 rfl) ?_
            refine qm_G.s1 rfl (qm_x_icmp_ne_t ⟨by omega, by omega⟩ ⟨by decide, by decide⟩ (by omega)) ?_
            refine qm_G.sp (lv1 := [(3, qm_L (((qm_l a3) <<< ((qm_i 32).toInt64 &&& 63)) ||| ((qm_l a4) &&& (qm_l 4294967295)))), (5, qm_I (qm_i (J 73 0 1)))]) rfl rfl (qm_x_iload rfl) ?_
            refine qm_G.s1 rfl (qm_x_pushI 4 rfl) ?_
            refine qm_G.s1 rfl (qm_x_icmp_ne_t ⟨by omega, by omega⟩ ⟨by decide, by decide⟩ (by omega)) ?_
            refine qm_G.sp (lv1 := [(3, qm_L (((qm_l a3) <<< ((qm_i 32).toInt64 &&& 63)) ||| ((qm_l a4) &&& (qm_l 4294967295))))]) rfl rfl (qm_x_lload rfl) ?_
            refine qm_G.s1 rfl (qm_x_pushL 0 rfl) ?_
            refine qm_G.s1 rfl (qm_x_lcmp_eq c56) ?_
            refine qm_G.s1 rfl (qm_x_if_eq_t ⟨by decide, by decide⟩ (by decide)) ?_
            refine qm_G.sp (lv1 := []) rfl rfl (qm_x_pushL 0 rfl) ?_
            refine qm_G.sp (lv1 := []) rfl rfl (qm_x_last (qm_arS hS rfl rfl) rfl (by omega) (by omega) (by decide)) ?_
            refine qm_G.s1 rfl (qm_x_pushI 1 rfl) ?_
            refine qm_G.ret rfl rfl ⟨_, rfl, ?_⟩
            refine qm_G.s1 rfl (qm_x_icmp_eq_t ⟨by decide, by decide⟩ ⟨by decide, by decide⟩ (by decide)) ?_
            rw [show (Int.toNat ((60 * 1) + a2)) = 60 + (Int.toNat a2) by omega]
            exact ih _ _ _ _ _ _ (qm_U_itm1 (by omega) hI)
          · refine qm_G.s1 rfl (qm_x_if_eq_f ⟨by decide, by decide⟩ (by decide)) ?_
            refine qm_G.s1 rfl (qm_x_pushL 1 rfl) ?_
            refine qm_G.s1 rfl (qm_x_goto) ?_
            refine qm_G.ret rfl rfl ⟨_, rfl, ?_⟩
            refine qm_G.s1 rfl (qm_x_last (qm_arS hS rfl rfl) rfl (by omega) (by omega) (by decide)) ?_
            refine qm_G.s1 rfl (qm_x_pushI 1 rfl) ?_
            refine qm_G.ret rfl rfl ⟨_, rfl, ?_⟩
            refine qm_G.s1 rfl (qm_x_aload rfl) ?_
            refine qm_G.s1 rfl (qm_x_aload rfl) ?_
            refine qm_G.s1 rfl (qm_x_iload rfl) ?_
            refine qm_G.s1 rfl (qm_x_pushI 1 rfl) ?_
            refine qm_G.s1 rfl (qm_x_iadd) ?_
            refine qm_G.s1 rfl (qm_x_iald2v (v := 1) (by omega) (by omega) hX e1) ?_
            refine qm_G.s1 rfl (qm_x_aload rfl) ?_
            refine qm_G.s1 rfl (qm_x_iload rfl) ?_
            refine qm_G.s1 rfl (qm_x_pushI 2 rfl) ?_
            refine qm_G.s1 rfl (qm_x_iadd) ?_
            refine qm_G.s1 rfl (qm_x_iald2v (v := a2) (by omega) (by omega) hX e2) ?_
            refine qm_G.s1 rfl (qm_x_aload rfl) ?_
            refine qm_G.s1 rfl (qm_x_iload rfl) ?_
            refine qm_G.s1 rfl (qm_x_pushI 3 rfl) ?_
            refine qm_G.s1 rfl (qm_x_iadd) ?_
            refine qm_G.s1 rfl (qm_x_iald2v (v := a3) (by omega) (by omega) hX e3) ?_
            refine qm_G.s1 rfl (qm_x_i2l ⟨by omega, by omega⟩) ?_
            refine qm_G.s1 rfl (qm_x_pushI 32 rfl) ?_
            refine qm_G.s1 rfl (qm_x_lshl) ?_
            refine qm_G.s1 rfl (qm_x_aload rfl) ?_
            refine qm_G.s1 rfl (qm_x_iload rfl) ?_
            refine qm_G.s1 rfl (qm_x_pushI 4 rfl) ?_
            refine qm_G.s1 rfl (qm_x_iadd) ?_
            refine qm_G.s1 rfl (qm_x_iald2v (v := a4) (by omega) (by omega) hX e4) ?_
            refine qm_G.s1 rfl (qm_x_i2l ⟨by omega, by omega⟩) ?_
            refine qm_G.s1 rfl (qm_x_pushL 4294967295 rfl) ?_
            refine qm_G.s1 rfl (qm_x_land) ?_
            refine qm_G.s1 rfl (qm_x_lor) ?_
            refine qm_G.cm rfl rfl (hS 61 rfl) rfl ?_
            refine qm_C.go (cd := qm_P125) (lv := [(0, qm_R (some (0, 61, 0))), (1, qm_I (qm_i 1)), (2, qm_I (qm_i a2)), (3, qm_L (((qm_l a3) <<< ((qm_i 32).toInt64 &&& 63)) ||| ((qm_l a4) &&& (qm_l 4294967295))))]) rfl rfl ?_
            refine qm_G.s1 rfl (qm_x_iload rfl) ?_
            refine qm_G.cs rfl rfl rfl ?_
            refine qm_C.go (cd := qm_P86) (lv := [(0, qm_I (qm_i 1))]) rfl rfl ?_
            refine qm_G.s1 rfl (qm_x_iload rfl) ?_
            refine qm_G.s1 rfl (qm_x_pushI 0 rfl) ?_
            refine qm_G.s1 rfl (qm_x_pushI 5 rfl) ?_
            refine qm_G.cs rfl rfl rfl ?_
            refine qm_v_within11_t ⟨by decide, by decide⟩ ⟨by decide, by decide⟩ ⟨by decide, by decide⟩ (by decide) ⟨_, rfl, ?_⟩
            refine qm_G.ret rfl rfl ⟨_, rfl, ?_⟩
            refine qm_G.s1 rfl (qm_x_if_ne_t ⟨by decide, by decide⟩ (by decide)) ?_
            refine qm_G.sp (lv1 := [(0, qm_R (some (0, 61, 0))), (1, qm_I (qm_i 1)), (2, qm_I (qm_i a2)), (3, qm_L (((qm_l a3) <<< ((qm_i 32).toInt64 &&& 63)) ||| ((qm_l a4) &&& (qm_l 4294967295))))]) rfl rfl (qm_x_aload rfl) ?_
            refine qm_G.s1 rfl (qm_x_getfR (q := (some (0, 73, 0))) (hS 61 rfl) (hR 61 20 73 rfl rfl)) ?_
            refine qm_G.s1 rfl (qm_x_iload rfl) ?_
            refine qm_G.s1 rfl (qm_x_iald (v := (J 73 0 1)) (qm_arS hS rfl rfl) rfl (by decide) (by decide) (by decide) rfl) ?_
            refine qm_G.s1 rfl (qm_x_if_ne_t ⟨by omega, by omega⟩ (by omega)) ?_
            refine qm_G.sp (lv1 := [(0, qm_R (some (0, 61, 0))), (1, qm_I (qm_i 1)), (2, qm_I (qm_i a2)), (3, qm_L (((qm_l a3) <<< ((qm_i 32).toInt64 &&& 63)) ||| ((qm_l a4) &&& (qm_l 4294967295))))]) rfl rfl (qm_x_iload rfl) ?_
            refine qm_G.s1 rfl (qm_x_pushI 0 rfl) ?_
            refine qm_G.s1 rfl (qm_x_aload rfl) ?_
            refine qm_G.s1 rfl (qm_x_getfR (q := (some (0, 74, 0))) (hS 61 rfl) (hR 61 21 74 rfl rfl)) ?_
            refine qm_G.s1 rfl (qm_x_iload rfl) ?_
            refine qm_G.s1 rfl (qm_x_iald (v := (J 74 0 1)) (qm_arS hS rfl rfl) rfl (by decide) (by decide) (by decide) rfl) ?_
            refine qm_G.s1 rfl (qm_x_pushI 1 rfl) ?_
            refine qm_G.s1 rfl (qm_x_isub) ?_
            refine qm_G.cs rfl rfl rfl ?_
            refine qm_v_within11_t ⟨by omega, by omega⟩ ⟨by decide, by decide⟩ ⟨by omega, by omega⟩ (by omega) ⟨_, rfl, ?_⟩
            refine qm_G.s1 rfl (qm_x_if_ne_t ⟨by decide, by decide⟩ (by decide)) ?_
            refine qm_G.sp (lv1 := [(0, qm_R (some (0, 61, 0))), (1, qm_I (qm_i 1)), (2, qm_I (qm_i a2)), (3, qm_L (((qm_l a3) <<< ((qm_i 32).toInt64 &&& 63)) ||| ((qm_l a4) &&& (qm_l 4294967295))))]) rfl rfl (qm_x_aload rfl) ?_
            refine qm_G.s1 rfl (qm_x_getfR (q := (some (0, 73, 0))) (hS 61 rfl) (hR 61 20 73 rfl rfl)) ?_
            refine qm_G.s1 rfl (qm_x_iload rfl) ?_
            refine qm_G.s1 rfl (qm_x_iald (v := (J 73 0 1)) (qm_arS hS rfl rfl) rfl (by decide) (by decide) (by decide) rfl) ?_
            refine qm_G.s1 rfl (qm_x_istore (lv' := [(5, qm_I (qm_i (J 73 0 1))), (0, qm_R (some (0, 61, 0))), (1, qm_I (qm_i 1)), (2, qm_I (qm_i a2)), (3, qm_L (((qm_l a3) <<< ((qm_i 32).toInt64 &&& 63)) ||| ((qm_l a4) &&& (qm_l 4294967295))))]) rfl) ?_
            refine qm_G.s1 rfl (qm_x_aload rfl) ?_
            refine qm_G.s1 rfl (qm_x_getfR (q := (some (0, 75, 0))) (hS 61 rfl) (hR 61 22 75 rfl rfl)) ?_
            refine qm_G.s1 rfl (qm_x_pushI 60 rfl) ?_
            refine qm_G.s1 rfl (qm_x_iload rfl) ?_
            refine qm_G.s1 rfl (qm_x_imul) ?_
            refine qm_G.s1 rfl (qm_x_iload rfl) ?_
            refine qm_G.s1 rfl (qm_x_iadd) ?_
            refine qm_G.s1 rfl (qm_x_iload rfl) ?_
            refine qm_G.s1 rfl (qm_x_pushI 1 rfl) ?_
            refine qm_G.s1 rfl (qm_x_icmp_ne_t ⟨by omega, by omega⟩ ⟨by decide, by decide⟩ (by omega)) ?_
            refine qm_G.sp (lv1 := [(3, qm_L (((qm_l a3) <<< ((qm_i 32).toInt64 &&& 63)) ||| ((qm_l a4) &&& (qm_l 4294967295)))), (5, qm_I (qm_i (J 73 0 1)))]) rfl rfl (qm_x_iload rfl) ?_
            refine qm_G.s1 rfl (qm_x_pushI 2 rfl) ?_
            refine qm_G.s1 rfl (qm_x_icmp_ne_t ⟨by omega, by omega⟩ ⟨by decide, by decide⟩ (by omega)) ?_
            refine qm_G.sp (lv1 := [(3, qm_L (((qm_l a3) <<< ((qm_i 32).toInt64 &&& 63)) ||| ((qm_l a4) &&& (qm_l 4294967295)))), (5, qm_I (qm_i (J 73 0 1)))]) rfl rfl (qm_x_iload rfl) ?_
            refine qm_G.s1 rfl (qm_x_pushI 3 rfl) ?_
            refine qm_G.s1 rfl (qm_x_icmp_ne_t ⟨by omega, by omega⟩ ⟨by decide, by decide⟩ (by omega)) ?_
            refine qm_G.sp (lv1 := [(3, qm_L (((qm_l a3) <<< ((qm_i 32).toInt64 &&& 63)) ||| ((qm_l a4) &&& (qm_l 4294967295)))), (5, qm_I (qm_i (J 73 0 1)))]) rfl rfl (qm_x_iload rfl) ?_
            refine qm_G.s1 rfl (qm_x_pushI 4 rfl) ?_
            refine qm_G.s1 rfl (qm_x_icmp_ne_t ⟨by omega, by omega⟩ ⟨by decide, by decide⟩ (by omega)) ?_
            refine qm_G.sp (lv1 := [(3, qm_L (((qm_l a3) <<< ((qm_i 32).toInt64 &&& 63)) ||| ((qm_l a4) &&& (qm_l 4294967295))))]) rfl rfl (qm_x_lload rfl) ?_
            refine qm_G.s1 rfl (qm_x_pushL 0 rfl) ?_
            refine qm_G.s1 rfl (qm_x_lcmp_gt c56) ?_
            refine qm_G.s1 rfl (qm_x_if_eq_f ⟨by decide, by decide⟩ (by decide)) ?_
            refine qm_G.s1 rfl (qm_x_pushL 1 rfl) ?_
            refine qm_G.s1 rfl (qm_x_goto) ?_
            refine qm_G.sp (lv1 := []) rfl rfl (qm_x_last (qm_arS hS rfl rfl) rfl (by omega) (by omega) (by decide)) ?_
            refine qm_G.s1 rfl (qm_x_pushI 1 rfl) ?_
            refine qm_G.ret rfl rfl ⟨_, rfl, ?_⟩
            refine qm_G.s1 rfl (qm_x_icmp_eq_t ⟨by decide, by decide⟩ ⟨by decide, by decide⟩ (by decide)) ?_
            rw [show (Int.toNat ((60 * 1) + a2)) = 60 + (Int.toNat a2) by omega]
            exact ih _ _ _ _ _ _ (qm_U_itm1 (by omega) hI)
      · refine qm_G.s1 rfl (qm_x_if_ne_f ⟨by decide, by decide⟩ (by decide)) ?_
        refine qm_G.s1 rfl (qm_x_pushI (-13) rfl) ?_
        refine qm_G.ret rfl rfl ⟨_, rfl, ?_⟩
        refine qm_G.s1 rfl (qm_x_aload rfl) ?_
        refine qm_G.s1 rfl (qm_x_aload rfl) ?_
        refine qm_G.s1 rfl (qm_x_iload rfl) ?_
        refine qm_G.s1 rfl (qm_x_pushI 1 rfl) ?_
        refine qm_G.s1 rfl (qm_x_iadd) ?_
        refine qm_G.s1 rfl (qm_x_iald2v (v := 1) (by omega) (by omega) hX e1) ?_
        refine qm_G.s1 rfl (qm_x_aload rfl) ?_
        refine qm_G.s1 rfl (qm_x_iload rfl) ?_
        refine qm_G.s1 rfl (qm_x_pushI 2 rfl) ?_
        refine qm_G.s1 rfl (qm_x_iadd) ?_
        refine qm_G.s1 rfl (qm_x_iald2v (v := a2) (by omega) (by omega) hX e2) ?_
        refine qm_G.s1 rfl (qm_x_aload rfl) ?_
        refine qm_G.s1 rfl (qm_x_iload rfl) ?_
        refine qm_G.s1 rfl (qm_x_pushI 3 rfl) ?_
        refine qm_G.s1 rfl (qm_x_iadd) ?_
        refine qm_G.s1 rfl (qm_x_iald2v (v := a3) (by omega) (by omega) hX e3) ?_
        refine qm_G.s1 rfl (qm_x_i2l ⟨by omega, by omega⟩) ?_
        refine qm_G.s1 rfl (qm_x_pushI 32 rfl) ?_
        refine qm_G.s1 rfl (qm_x_lshl) ?_
        refine qm_G.s1 rfl (qm_x_aload rfl) ?_
        refine qm_G.s1 rfl (qm_x_iload rfl) ?_
        refine qm_G.s1 rfl (qm_x_pushI 4 rfl) ?_
        refine qm_G.s1 rfl (qm_x_iadd) ?_
        refine qm_G.s1 rfl (qm_x_iald2v (v := a4) (by omega) (by omega) hX e4) ?_
        refine qm_G.s1 rfl (qm_x_i2l ⟨by omega, by omega⟩) ?_
        refine qm_G.s1 rfl (qm_x_pushL 4294967295 rfl) ?_
        refine qm_G.s1 rfl (qm_x_land) ?_
        refine qm_G.s1 rfl (qm_x_lor) ?_
        refine qm_G.cm rfl rfl (hS 61 rfl) rfl ?_
        refine qm_C.go (cd := qm_P125) (lv := [(0, qm_R (some (0, 61, 0))), (1, qm_I (qm_i 1)), (2, qm_I (qm_i a2)), (3, qm_L (((qm_l a3) <<< ((qm_i 32).toInt64 &&& 63)) ||| ((qm_l a4) &&& (qm_l 4294967295))))]) rfl rfl ?_
        refine qm_G.s1 rfl (qm_x_iload rfl) ?_
        refine qm_G.cs rfl rfl rfl ?_
        refine qm_C.go (cd := qm_P86) (lv := [(0, qm_I (qm_i 1))]) rfl rfl ?_
        refine qm_G.s1 rfl (qm_x_iload rfl) ?_
        refine qm_G.s1 rfl (qm_x_pushI 0 rfl) ?_
        refine qm_G.s1 rfl (qm_x_pushI 5 rfl) ?_
        refine qm_G.cs rfl rfl rfl ?_
        refine qm_v_within11_t ⟨by decide, by decide⟩ ⟨by decide, by decide⟩ ⟨by decide, by decide⟩ (by decide) ⟨_, rfl, ?_⟩
        refine qm_G.ret rfl rfl ⟨_, rfl, ?_⟩
        refine qm_G.s1 rfl (qm_x_if_ne_t ⟨by decide, by decide⟩ (by decide)) ?_
        refine qm_G.sp (lv1 := [(0, qm_R (some (0, 61, 0))), (1, qm_I (qm_i 1)), (2, qm_I (qm_i a2)), (3, qm_L (((qm_l a3) <<< ((qm_i 32).toInt64 &&& 63)) ||| ((qm_l a4) &&& (qm_l 4294967295))))]) rfl rfl (qm_x_aload rfl) ?_
        refine qm_G.s1 rfl (qm_x_getfR (q := (some (0, 73, 0))) (hS 61 rfl) (hR 61 20 73 rfl rfl)) ?_
        refine qm_G.s1 rfl (qm_x_iload rfl) ?_
        refine qm_G.s1 rfl (qm_x_iald (v := (J 73 0 1)) (qm_arS hS rfl rfl) rfl (by decide) (by decide) (by decide) rfl) ?_
        refine qm_G.s1 rfl (qm_x_if_ne_t ⟨by omega, by omega⟩ (by omega)) ?_
        refine qm_G.sp (lv1 := [(0, qm_R (some (0, 61, 0))), (1, qm_I (qm_i 1)), (2, qm_I (qm_i a2)), (3, qm_L (((qm_l a3) <<< ((qm_i 32).toInt64 &&& 63)) ||| ((qm_l a4) &&& (qm_l 4294967295))))]) rfl rfl (qm_x_iload rfl) ?_
        refine qm_G.s1 rfl (qm_x_pushI 0 rfl) ?_
        refine qm_G.s1 rfl (qm_x_aload rfl) ?_
        refine qm_G.s1 rfl (qm_x_getfR (q := (some (0, 74, 0))) (hS 61 rfl) (hR 61 21 74 rfl rfl)) ?_
        refine qm_G.s1 rfl (qm_x_iload rfl) ?_
        refine qm_G.s1 rfl (qm_x_iald (v := (J 74 0 1)) (qm_arS hS rfl rfl) rfl (by decide) (by decide) (by decide) rfl) ?_
        refine qm_G.s1 rfl (qm_x_pushI 1 rfl) ?_
        refine qm_G.s1 rfl (qm_x_isub) ?_
        refine qm_G.cs rfl rfl rfl ?_
        refine qm_v_within11_f ⟨by omega, by omega⟩ ⟨by decide, by decide⟩ ⟨by omega, by omega⟩ (by omega) ⟨_, rfl, ?_⟩
        refine qm_G.s1 rfl (qm_x_if_ne_f ⟨by decide, by decide⟩ (by decide)) ?_
        refine qm_G.s1 rfl (qm_x_pushI (-13) rfl) ?_
        refine qm_G.ret rfl rfl ⟨_, rfl, ?_⟩
        refine qm_G.s1 rfl (qm_x_icmp_eq_t ⟨by decide, by decide⟩ ⟨by decide, by decide⟩ (by decide)) ?_
        exact ih _ _ _ _ _ _ hI.next
    · refine qm_G.s1 rfl (qm_x_pushI (-11) rfl) ?_
      refine qm_G.ret rfl rfl ⟨_, rfl, ?_⟩
      refine qm_G.s1 rfl (qm_x_aload rfl) ?_
      refine qm_G.s1 rfl (qm_x_aload rfl) ?_
      refine qm_G.s1 rfl (qm_x_iload rfl) ?_
      refine qm_G.s1 rfl (qm_x_pushI 1 rfl) ?_
      refine qm_G.s1 rfl (qm_x_iadd) ?_
      refine qm_G.s1 rfl (qm_x_iald2v (v := 1) (by omega) (by omega) hX e1) ?_
      refine qm_G.s1 rfl (qm_x_aload rfl) ?_
      refine qm_G.s1 rfl (qm_x_iload rfl) ?_
      refine qm_G.s1 rfl (qm_x_pushI 2 rfl) ?_
      refine qm_G.s1 rfl (qm_x_iadd) ?_
      refine qm_G.s1 rfl (qm_x_iald2v (v := a2) (by omega) (by omega) hX e2) ?_
      refine qm_G.s1 rfl (qm_x_aload rfl) ?_
      refine qm_G.s1 rfl (qm_x_iload rfl) ?_
      refine qm_G.s1 rfl (qm_x_pushI 3 rfl) ?_
      refine qm_G.s1 rfl (qm_x_iadd) ?_
      refine qm_G.s1 rfl (qm_x_iald2v (v := a3) (by omega) (by omega) hX e3) ?_
      refine qm_G.s1 rfl (qm_x_i2l ⟨by omega, by omega⟩) ?_
      refine qm_G.s1 rfl (qm_x_pushI 32 rfl) ?_
      refine qm_G.s1 rfl (qm_x_lshl) ?_
      refine qm_G.s1 rfl (qm_x_aload rfl) ?_
      refine qm_G.s1 rfl (qm_x_iload rfl) ?_
      refine qm_G.s1 rfl (qm_x_pushI 4 rfl) ?_
      refine qm_G.s1 rfl (qm_x_iadd) ?_
      refine qm_G.s1 rfl (qm_x_iald2v (v := a4) (by omega) (by omega) hX e4) ?_
      refine qm_G.s1 rfl (qm_x_i2l ⟨by omega, by omega⟩) ?_
      refine qm_G.s1 rfl (qm_x_pushL 4294967295 rfl) ?_
      refine qm_G.s1 rfl (qm_x_land) ?_
      refine qm_G.s1 rfl (qm_x_lor) ?_
      refine qm_G.cm rfl rfl (hS 61 rfl) rfl ?_
      refine qm_C.go (cd := qm_P125) (lv := [(0, qm_R (some (0, 61, 0))), (1, qm_I (qm_i 1)), (2, qm_I (qm_i a2)), (3, qm_L (((qm_l a3) <<< ((qm_i 32).toInt64 &&& 63)) ||| ((qm_l a4) &&& (qm_l 4294967295))))]) rfl rfl ?_
      refine qm_G.s1 rfl (qm_x_iload rfl) ?_
      refine qm_G.cs rfl rfl rfl ?_
      refine qm_C.go (cd := qm_P86) (lv := [(0, qm_I (qm_i 1))]) rfl rfl ?_
      refine qm_G.s1 rfl (qm_x_iload rfl) ?_
      refine qm_G.s1 rfl (qm_x_pushI 0 rfl) ?_
      refine qm_G.s1 rfl (qm_x_pushI 5 rfl) ?_
      refine qm_G.cs rfl rfl rfl ?_
      refine qm_v_within11_t ⟨by decide, by decide⟩ ⟨by decide, by decide⟩ ⟨by decide, by decide⟩ (by decide) ⟨_, rfl, ?_⟩
      refine qm_G.ret rfl rfl ⟨_, rfl, ?_⟩
      refine qm_G.s1 rfl (qm_x_if_ne_t ⟨by decide, by decide⟩ (by decide)) ?_
      refine qm_G.sp (lv1 := [(0, qm_R (some (0, 61, 0))), (1, qm_I (qm_i 1)), (2, qm_I (qm_i a2)), (3, qm_L (((qm_l a3) <<< ((qm_i 32).toInt64 &&& 63)) ||| ((qm_l a4) &&& (qm_l 4294967295))))]) rfl rfl (qm_x_aload rfl) ?_
      refine qm_G.s1 rfl (qm_x_getfR (q := (some (0, 73, 0))) (hS 61 rfl) (hR 61 20 73 rfl rfl)) ?_
      refine qm_G.s1 rfl (qm_x_iload rfl) ?_
      refine qm_G.s1 rfl (qm_x_iald (v := (J 73 0 1)) (qm_arS hS rfl rfl) rfl (by decide) (by decide) (by decide) rfl) ?_
      refine qm_G.s1 rfl (qm_x_if_ne_f ⟨by omega, by omega⟩ (by omega)) ?_
      refine qm_G.s1 rfl (qm_x_pushI (-11) rfl) ?_
      refine qm_G.ret rfl rfl ⟨_, rfl, ?_⟩
      refine qm_G.s1 rfl (qm_x_icmp_eq_t ⟨by decide, by decide⟩ ⟨by decide, by decide⟩ (by decide)) ?_
      exact ih _ _ _ _ _ _ hI.next
  · subst d1
    refine qm_G.sp (lv1 := [(0, qm_R (some (2, 0, 0))), (1, qm_R (some (0, 0, 0))), (2, qm_R (some (0, 61, 0))), (3, qm_I (qm_i z))]) rfl rfl (qm_x_aload rfl) ?_
    refine qm_G.s1 rfl (qm_x_aload rfl) ?_
    refine qm_G.s1 rfl (qm_x_iload rfl) ?_
    refine qm_G.s1 rfl (qm_x_pushI 1 rfl) ?_
    refine qm_G.s1 rfl (qm_x_iadd) ?_
    refine qm_G.s1 rfl (qm_x_iald2v (v := 2) (by omega) (by omega) hX e1) ?_
    refine qm_G.s1 rfl (qm_x_aload rfl) ?_
    refine qm_G.s1 rfl (qm_x_iload rfl) ?_
    refine qm_G.s1 rfl (qm_x_pushI 2 rfl) ?_
    refine qm_G.s1 rfl (qm_x_iadd) ?_
    refine qm_G.s1 rfl (qm_x_iald2v (v := a2) (by omega) (by omega) hX e2) ?_
    refine qm_G.s1 rfl (qm_x_aload rfl) ?_
    refine qm_G.s1 rfl (qm_x_iload rfl) ?_
    refine qm_G.s1 rfl (qm_x_pushI 3 rfl) ?_
    refine qm_G.s1 rfl (qm_x_iadd) ?_
    refine qm_G.s1 rfl (qm_x_iald2v (v := a3) (by omega) (by omega) hX e3) ?_
    refine qm_G.s1 rfl (qm_x_i2l ⟨by omega, by omega⟩) ?_
    refine qm_G.s1 rfl (qm_x_pushI 32 rfl) ?_
    refine qm_G.s1 rfl (qm_x_lshl) ?_
    refine qm_G.s1 rfl (qm_x_aload rfl) ?_
    refine qm_G.s1 rfl (qm_x_iload rfl) ?_
    refine qm_G.s1 rfl (qm_x_pushI 4 rfl) ?_
    refine qm_G.s1 rfl (qm_x_iadd) ?_
    refine qm_G.s1 rfl (qm_x_iald2v (v := a4) (by omega) (by omega) hX e4) ?_
    refine qm_G.s1 rfl (qm_x_i2l ⟨by omega, by omega⟩) ?_
    refine qm_G.s1 rfl (qm_x_pushL 4294967295 rfl) ?_
    refine qm_G.s1 rfl (qm_x_land) ?_
    refine qm_G.s1 rfl (qm_x_lor) ?_
    refine qm_G.cm rfl rfl (hS 0 rfl) rfl ?_
    refine qm_C.go (cd := qm_P114) (lv := [(0, qm_R (some (0, 0, 0))), (1, qm_I (qm_i 2)), (2, qm_I (qm_i a2)), (3, qm_L (((qm_l a3) <<< ((qm_i 32).toInt64 &&& 63)) ||| ((qm_l a4) &&& (qm_l 4294967295))))]) rfl rfl ?_
    refine qm_G.s1 rfl (qm_x_iload rfl) ?_
    refine qm_G.cs rfl rfl rfl ?_
    refine qm_C.go (cd := qm_P76) (lv := [(0, qm_I (qm_i 2))]) rfl rfl ?_
    refine qm_G.s1 rfl (qm_x_iload rfl) ?_
    refine qm_G.s1 rfl (qm_x_pushI 0 rfl) ?_
    refine qm_G.s1 rfl (qm_x_pushI 5 rfl) ?_
    refine qm_G.cs rfl rfl rfl ?_
    refine qm_v_within10_t ⟨by decide, by decide⟩ ⟨by decide, by decide⟩ ⟨by decide, by decide⟩ (by decide) ⟨_, rfl, ?_⟩
    refine qm_G.ret rfl rfl ⟨_, rfl, ?_⟩
    refine qm_G.s1 rfl (qm_x_if_ne_t ⟨by decide, by decide⟩ (by decide)) ?_
    refine qm_G.sp (lv1 := [(0, qm_R (some (0, 0, 0))), (1, qm_I (qm_i 2)), (2, qm_I (qm_i a2)), (3, qm_L (((qm_l a3) <<< ((qm_i 32).toInt64 &&& 63)) ||| ((qm_l a4) &&& (qm_l 4294967295))))]) rfl rfl (qm_x_aload rfl) ?_
    refine qm_G.s1 rfl (qm_x_getfR (q := (some (0, 46, 0))) (hS 0 rfl) (hR 0 5 46 rfl rfl)) ?_
    refine qm_G.s1 rfl (qm_x_iload rfl) ?_
    refine qm_G.s1 rfl (qm_x_aaldr (q := (some (0, 53, 0))) (hS 46 rfl) rfl rfl (by decide) (by decide) (hR 46 2 53 rfl rfl)) ?_
    refine qm_G.s1 rfl (qm_x_astore (lv' := [(5, qm_R (some (0, 53, 0))), (0, qm_R (some (0, 0, 0))), (1, qm_I (qm_i 2)), (2, qm_I (qm_i a2)), (3, qm_L (((qm_l a3) <<< ((qm_i 32).toInt64 &&& 63)) ||| ((qm_l a4) &&& (qm_l 4294967295))))]) rfl) ?_
    refine qm_G.s1 rfl (qm_x_aload rfl) ?_
    have f73_2 : 0 ≤ J 73 0 2 ∧ J 73 0 2 ≤ 5 := (hI.srt 2 (by decide)).2
    have f53_1 : J 53 0 1 = J 73 0 2 - 1 := (hI.srt 2 (by decide)).1
    refine qm_G.s1 rfl (qm_x_getfI (v := (J 53 0 1)) (hS 53 rfl) rfl) ?_
    refine qm_G.s1 rfl (qm_x_pushI (-1) rfl) ?_
    refine qm_y_icmp_ne rfl ⟨by omega, by omega⟩ ⟨by decide, by decide⟩ (fun c67 => ?_) (fun c67 => ?_)
    · refine qm_G.sp (lv1 := [(2, qm_I (qm_i a2)), (3, qm_L (((qm_l a3) <<< ((qm_i 32).toInt64 &&& 63)) ||| ((qm_l a4) &&& (qm_l 4294967295)))), (5, qm_R (some (0, 53, 0)))]) rfl rfl (qm_x_iload rfl) ?_
      refine qm_G.s1 rfl (qm_x_pushI 0 rfl) ?_
      refine qm_G.s1 rfl (qm_x_aload rfl) ?_
      have f74_2 : 0 ≤ J 74 0 2 ∧ J 74 0 2 ≤ 60 := ⟨(hI.len 2 (by decide)).2.1, (hI.len 2 (by decide)).2.2.1⟩
      have f53_2 : J 53 0 2 = J 74 0 2 := (hI.len 2 (by decide)).1
      refine qm_G.s1 rfl (qm_x_getfI (v := (J 53 0 2)) (hS 53 rfl) rfl) ?_
      refine qm_G.s1 rfl (qm_x_pushI 1 rfl) ?_
      refine qm_G.s1 rfl (qm_x_isub) ?_
      refine qm_G.cs rfl rfl rfl ?_
      refine qm_v_within10 ⟨by omega, by omega⟩ ⟨by decide, by decide⟩ ⟨by omega, by omega⟩ (fun c68 => ⟨_, rfl, ?_⟩) (fun c68 => ⟨_, rfl, ?_⟩)
      · refine qm_G.s1 rfl (qm_x_if_ne_t ⟨by decide, by decide⟩ (by decide)) ?_
        refine qm_G.sp (lv1 := [(2, qm_I (qm_i a2)), (3, qm_L (((qm_l a3) <<< ((qm_i 32).toInt64 &&& 63)) ||| ((qm_l a4) &&& (qm_l 4294967295)))), (5, qm_R (some (0, 53, 0)))]) rfl rfl (qm_x_aload rfl) ?_
        refine qm_G.s1 rfl (qm_x_getfR (q := (some (0, 54, 0))) (hS 53 rfl) (hR 53 0 54 rfl rfl)) ?_
        refine qm_G.s1 rfl (qm_x_iload rfl) ?_
        refine qm_G.s1 rfl (qm_x_aload rfl) ?_
        refine qm_G.s1 rfl (qm_x_lload rfl) ?_
        refine qm_G.cm rfl rfl (hS 53 rfl) rfl ?_
        refine qm_C.go (cd := qm_P49) (lv := [(0, qm_R (some (0, 53, 0))), (1, qm_L (((qm_l a3) <<< ((qm_i 32).toInt64 &&& 63)) ||| ((qm_l a4) &&& (qm_l 4294967295))))]) rfl rfl ?_
        refine qm_G.s1 rfl (qm_x_aload rfl) ?_
        refine qm_G.s1 rfl (qm_x_getfI (v := (J 53 0 1)) (hS 53 rfl) rfl) ?_
        rcases (show J 53 0 1 = 0 ∨ J 53 0 1 = 1 ∨ J 53 0 1 = 2 ∨ J 53 0 1 = 3 ∨ (J 53 0 1 < 0 ∨ 4 ≤ J 53 0 1) by omega) with c69 | c69 | c69 | c69 | c69
        · refine qm_G.s1 rfl (qm_x_tsweq (v := 0) (t := 36) c69 rfl) ?_
          refine qm_G.sp (lv1 := [(1, qm_L (((qm_l a3) <<< ((qm_i 32).toInt64 &&& 63)) ||| ((qm_l a4) &&& (qm_l 4294967295))))]) rfl rfl (qm_x_lload rfl) ?_
          refine qm_G.s1 rfl (qm_x_l2ir) ?_
          have g70 : qm_sm ((((qm_l a3) <<< ((qm_i 32).toInt64 &&& 63)) ||| ((qm_l a4) &&& (qm_l 4294967295))).toInt32.toInt) := qm_i_sml _
          refine qm_G.s1 rfl (qm_x_i2br) ?_
          have g71 : qm_sm ((qm_i ((((qm_l a3) <<< ((qm_i 32).toInt64 &&& 63)) ||| ((qm_l a4) &&& (qm_l 4294967295))).toInt32.toInt)).toInt8.toInt) := qm_sm8 _
          refine qm_G.s1 rfl (qm_x_i2l ⟨by omega, by omega⟩) ?_
          refine qm_G.ret rfl rfl ⟨_, rfl, ?_⟩
          refine qm_G.s1 rfl (qm_x_last (qm_arS hS rfl rfl) rfl (by omega) (by omega) (by decide)) ?_
          refine qm_G.s1 rfl (qm_x_pushI 1 rfl) ?_
          refine qm_G.ret rfl rfl ⟨_, rfl, ?_⟩
          refine qm_G.s1 rfl (qm_x_aload rfl) ?_
          refine qm_G.s1 rfl (qm_x_aload rfl) ?_
          refine qm_G.s1 rfl (qm_x_iload rfl) ?_
          refine qm_G.s1 rfl (qm_x_pushI 1 rfl) ?_
          refine qm_G.s1 rfl (qm_x_iadd) ?_
          refine qm_G.s1 rfl (qm_x_iald2v (v := 2) (by omega) (by omega) hX e1) ?_
          refine qm_G.s1 rfl (qm_x_aload rfl) ?_
          refine qm_G.s1 rfl (qm_x_iload rfl) ?_
          refine qm_G.s1 rfl (qm_x_pushI 2 rfl) ?_
          refine qm_G.s1 rfl (qm_x_iadd) ?_
          refine qm_G.s1 rfl (qm_x_iald2v (v := a2) (by omega) (by omega) hX e2) ?_
          refine qm_G.s1 rfl (qm_x_aload rfl) ?_
          refine qm_G.s1 rfl (qm_x_iload rfl) ?_
          refine qm_G.s1 rfl (qm_x_pushI 3 rfl) ?_
          refine qm_G.s1 rfl (qm_x_iadd) ?_
          refine qm_G.s1 rfl (qm_x_iald2v (v := a3) (by omega) (by omega) hX e3) ?_
          refine qm_G.s1 rfl (qm_x_i2l ⟨by omega, by omega⟩) ?_
          refine qm_G.s1 rfl (qm_x_pushI 32 rfl) ?_
          refine qm_G.s1 rfl (qm_x_lshl) ?_
          refine qm_G.s1 rfl (qm_x_aload rfl) ?_
          refine qm_G.s1 rfl (qm_x_iload rfl) ?_
          refine qm_G.s1 rfl (qm_x_pushI 4 rfl) ?_
          refine qm_G.s1 rfl (qm_x_iadd) ?_
          refine qm_G.s1 rfl (qm_x_iald2v (v := a4) (by omega) (by omega) hX e4) ?_
          refine qm_G.s1 rfl (qm_x_i2l ⟨by omega, by omega⟩) ?_
          refine qm_G.s1 rfl (qm_x_pushL 4294967295 rfl) ?_
          refine qm_G.s1 rfl (qm_x_land) ?_
          refine qm_G.s1 rfl (qm_x_lor) ?_
          refine qm_G.cm rfl rfl (hS 61 rfl) rfl ?_
          refine qm_C.go (cd := qm_P125) (lv := [(0, qm_R (some (0, 61, 0))), (1, qm_I (qm_i 2)), (2, qm_I (qm_i a2)), (3, qm_L (((qm_l a3) <<< ((qm_i 32).toInt64 &&& 63)) ||| ((qm_l a4) &&& (qm_l 4294967295))))]) rfl rfl ?_
          refine qm_G.s1 rfl (qm_x_iload rfl) ?_
          refine qm_G.cs rfl rfl rfl ?_
          refine qm_C.go (cd := qm_P86) (lv := [(0, qm_I (qm_i 2))]) rfl rfl ?_
          refine qm_G.s1 rfl (qm_x_iload rfl) ?_
          refine qm_G.s1 rfl (qm_x_pushI 0 rfl) ?_
          refine qm_G.s1 rfl (qm_x_pushI 5 rfl) ?_
          refine qm_G.cs rfl rfl rfl ?_
          refine qm_v_within11_t ⟨by decide, by decide⟩ ⟨by decide, by decide⟩ ⟨by decide, by decide⟩ (by decide) ⟨_, rfl, ?_⟩
          refine qm_G.ret rfl rfl ⟨_, rfl, ?_⟩
          refine qm_G.s1 rfl (qm_x_if_ne_t ⟨by decide, by decide⟩ (by decide)) ?_
          refine qm_G.sp (lv1 := [(0, qm_R (some (0, 61, 0))), (1, qm_I (qm_i 2)), (2, qm_I (qm_i a2)), (3, qm_L (((qm_l a3) <<< ((qm_i 32).toInt64 &&& 63)) ||| ((qm_l a4) &&& (qm_l 4294967295))))]) rfl rfl (qm_x_aload rfl) ?_
          refine qm_G.s1 rfl (qm_x_getfR (q := (some (0, 73, 0))) (hS 61 rfl) (hR 61 20 73 rfl rfl)) ?_
          refine qm_G.s1 rfl (qm_x_iload rfl) ?_
          refine qm_G.s1 rfl (qm_x_iald (v := (J 73 0 2)) (qm_arS hS rfl rfl) rfl (by decide) (by decide) (by decide) rfl) ?_
          refine qm_G.s1 rfl (qm_x_if_ne_t ⟨by omega, by omega⟩ (by omega)) ?_
          refine qm_G.sp (lv1 := [(0, qm_R (some (0, 61, 0))), (1, qm_I (qm_i 2)), (2, qm_I (qm_i a2)), (3, qm_L (((qm_l a3) <<< ((qm_i 32).toInt64 &&& 63)) ||| ((qm_l a4) &&& (qm_l 4294967295))))]) rfl rfl (qm_x_iload rfl) ?_
          refine qm_G.s1 rfl (qm_x_pushI 0 rfl) ?_
          refine qm_G.s1 rfl (qm_x_aload rfl) ?_
          refine qm_G.s1 rfl (qm_x_getfR (q := (some (0, 74, 0))) (hS 61 rfl) (hR 61 21 74 rfl rfl)) ?_
          refine qm_G.s1 rfl (qm_x_iload rfl) ?_
          refine qm_G.s1 rfl (qm_x_iald (v := (J 74 0 2)) (qm_arS hS rfl rfl) rfl (by decide) (by decide) (by decide) rfl) ?_
          refine qm_G.s1 rfl (qm_x_pushI 1 rfl) ?_
          refine qm_G.s1 rfl (qm_x_isub) ?_
          refine qm_G.cs rfl rfl rfl ?_
          refine qm_v_within11_t ⟨by omega, by omega⟩ ⟨by decide, by decide⟩ ⟨by omega, by omega⟩ (by omega) ⟨_, rfl, ?_⟩
          refine qm_G.s1 rfl (qm_x_if_ne_t ⟨by decide, by decide⟩ (by decide)) ?_
          refine qm_G.sp (lv1 := [(0, qm_R (some (0, 61, 0))), (1, qm_I (qm_i 2)), (2, qm_I (qm_i a2)), (3, qm_L (((qm_l a3) <<< ((qm_i 32).toInt64 &&& 63)) ||| ((qm_l a4) &&& (qm_l 4294967295))))]) rfl rfl (qm_x_aload rfl) ?_
          refine qm_G.s1 rfl (qm_x_getfR (q := (some (0, 73, 0))) (hS 61 rfl) (hR 61 20 73 rfl rfl)) ?_
          refine qm_G.s1 rfl (qm_x_iload rfl) ?_
          refine qm_G.s1 rfl (qm_x_iald (v := (J 73 0 2)) (qm_arS hS rfl rfl) rfl (by decide) (by decide) (by decide) rfl) ?_
          refine qm_G.s1 rfl (qm_x_istore (lv' := [(5, qm_I (qm_i (J 73 0 2))), (0, qm_R (some (0, 61, 0))), (1, qm_I (qm_i 2)), (2, qm_I (qm_i a2)), (3, qm_L (((qm_l a3) <<< ((qm_i 32).toInt64 &&& 63)) ||| ((qm_l a4) &&& (qm_l 4294967295))))]) rfl) ?_
          refine qm_G.s1 rfl (qm_x_aload rfl) ?_
          refine qm_G.s1 rfl (qm_x_getfR (q := (some (0, 75, 0))) (hS 61 rfl) (hR 61 22 75 rfl rfl)) ?_
          refine qm_G.s1 rfl (qm_x_pushI 60 rfl) ?_
          refine qm_G.s1 rfl (qm_x_iload rfl) ?_
          refine qm_G.s1 rfl (qm_x_imul) ?_
          refine qm_G.s1 rfl (qm_x_iload rfl) ?_
          refine qm_G.s1 rfl (qm_x_iadd) ?_
          refine qm_G.s1 rfl (qm_x_iload rfl) ?_
          refine qm_G.s1 rfl (qm_x_pushI 1 rfl) ?_
          refine qm_G.s1 rfl (qm_x_icmp_ne_f ⟨by omega, by omega⟩ ⟨by decide, by decide⟩ (by omega)) ?_
          refine qm_G.s1 rfl (qm_x_lload rfl) ?_
          refine qm_G.s1 rfl (qm_x_l2ir) ?_
          have g74 : qm_sm ((((qm_l a3) <<< ((qm_i 32).toInt64 &&& 63)) ||| ((qm_l a4) &&& (qm_l 4294967295))).toInt32.toInt) := qm_i_sml _
          refine qm_G.s1 rfl (qm_x_i2br) ?_
          have g75 : qm_sm ((qm_i ((((qm_l a3) <<< ((qm_i 32).toInt64 &&& 63)) ||| ((qm_l a4) &&& (qm_l 4294967295))).toInt32.toInt)).toInt8.toInt) := qm_sm8 _
          refine qm_G.s1 rfl (qm_x_i2l ⟨by omega, by omega⟩) ?_
          refine qm_G.s1 rfl (qm_x_goto) ?_
          refine qm_G.sp (lv1 := []) rfl rfl (qm_x_last (qm_arS hS rfl rfl) rfl (by omega) (by omega) (by decide)) ?_
          refine qm_G.s1 rfl (qm_x_pushI 1 rfl) ?_
          refine qm_G.ret rfl rfl ⟨_, rfl, ?_⟩
          refine qm_G.s1 rfl (qm_x_icmp_eq_t ⟨by decide, by decide⟩ ⟨by decide, by decide⟩ (by decide)) ?_
          rw [show (Int.toNat ((60 * 2) + a2)) = 120 + (Int.toNat a2) by omega]
          exact ih _ _ _ _ _ _ (qm_U_itm2 (by omega) hI)
        · refine qm_G.s1 rfl (qm_x_tsweq (v := 1) (t := 41) c69 rfl) ?_
          refine qm_G.sp (lv1 := [(1, qm_L (((qm_l a3) <<< ((qm_i 32).toInt64 &&& 63)) ||| ((qm_l a4) &&& (qm_l 4294967295))))]) rfl rfl (qm_x_lload rfl) ?_
          refine qm_G.s1 rfl (qm_x_l2ir) ?_
          have g76 : qm_sm ((((qm_l a3) <<< ((qm_i 32).toInt64 &&& 63)) ||| ((qm_l a4) &&& (qm_l 4294967295))).toInt32.toInt) := qm_i_sml _
          refine qm_G.s1 rfl (qm_x_i2sr) ?_
          have g77 : qm_sm ((qm_i ((((qm_l a3) <<< ((qm_i 32).toInt64 &&& 63)) ||| ((qm_l a4) &&& (qm_l 4294967295))).toInt32.toInt)).toInt16.toInt) := qm_sm16 _
          refine qm_G.s1 rfl (qm_x_i2l ⟨by omega, by omega⟩) ?_
          refine qm_G.ret rfl rfl ⟨_, rfl, ?_⟩
          refine qm_G.s1 rfl (qm_x_last (qm_arS hS rfl rfl) rfl (by omega) (by omega) (by decide)) ?_
          refine qm_G.s1 rfl (qm_x_pushI 1 rfl) ?_
          refine qm_G.ret rfl rfl ⟨_, rfl, ?_⟩
          refine qm_G.s1 rfl (qm_x_aload rfl) ?_
          refine qm_G.s1 rfl (qm_x_aload rfl) ?_
          refine qm_G.s1 rfl (qm_x_iload rfl) ?_
          refine qm_G.s1 rfl (qm_x_pushI 1 rfl) ?_
          refine qm_G.s1 rfl (qm_x_iadd) ?_
          refine qm_G.s1 rfl (qm_x_iald2v (v := 2) (by omega) (by omega) hX e1) ?_
          refine qm_G.s1 rfl (qm_x_aload rfl) ?_
          refine qm_G.s1 rfl (qm_x_iload rfl) ?_
          refine qm_G.s1 rfl (qm_x_pushI 2 rfl) ?_
          refine qm_G.s1 rfl (qm_x_iadd) ?_
          refine qm_G.s1 rfl (qm_x_iald2v (v := a2) (by omega) (by omega) hX e2) ?_
          refine qm_G.s1 rfl (qm_x_aload rfl) ?_
          refine qm_G.s1 rfl (qm_x_iload rfl) ?_
          refine qm_G.s1 rfl (qm_x_pushI 3 rfl) ?_
          refine qm_G.s1 rfl (qm_x_iadd) ?_
          refine qm_G.s1 rfl (qm_x_iald2v (v := a3) (by omega) (by omega) hX e3) ?_
          refine qm_G.s1 rfl (qm_x_i2l ⟨by omega, by omega⟩) ?_
          refine qm_G.s1 rfl (qm_x_pushI 32 rfl) ?_
          refine qm_G.s1 rfl (qm_x_lshl) ?_
          refine qm_G.s1 rfl (qm_x_aload rfl) ?_
          refine qm_G.s1 rfl (qm_x_iload rfl) ?_
          refine qm_G.s1 rfl (qm_x_pushI 4 rfl) ?_
          refine qm_G.s1 rfl (qm_x_iadd) ?_
          refine qm_G.s1 rfl (qm_x_iald2v (v := a4) (by omega) (by omega) hX e4) ?_
          refine qm_G.s1 rfl (qm_x_i2l ⟨by omega, by omega⟩) ?_
          refine qm_G.s1 rfl (qm_x_pushL 4294967295 rfl) ?_
          refine qm_G.s1 rfl (qm_x_land) ?_
          refine qm_G.s1 rfl (qm_x_lor) ?_
          refine qm_G.cm rfl rfl (hS 61 rfl) rfl ?_
          refine qm_C.go (cd := qm_P125) (lv := [(0, qm_R (some (0, 61, 0))), (1, qm_I (qm_i 2)), (2, qm_I (qm_i a2)), (3, qm_L (((qm_l a3) <<< ((qm_i 32).toInt64 &&& 63)) ||| ((qm_l a4) &&& (qm_l 4294967295))))]) rfl rfl ?_
          refine qm_G.s1 rfl (qm_x_iload rfl) ?_
          refine qm_G.cs rfl rfl rfl ?_
          refine qm_C.go (cd := qm_P86) (lv := [(0, qm_I (qm_i 2))]) rfl rfl ?_
          refine qm_G.s1 rfl (qm_x_iload rfl) ?_
          refine qm_G.s1 rfl (qm_x_pushI 0 rfl) ?_
          refine qm_G.s1 rfl (qm_x_pushI 5 rfl) ?_
          refine qm_G.cs rfl rfl rfl ?_
          refine qm_v_within11_t ⟨by decide, by decide⟩ ⟨by decide, by decide⟩ ⟨by decide, by decide⟩ (by decide) ⟨_, rfl, ?_⟩
          refine qm_G.ret rfl rfl ⟨_, rfl, ?_⟩
          refine qm_G.s1 rfl (qm_x_if_ne_t ⟨by decide, by decide⟩ (by decide)) ?_
          refine qm_G.sp (lv1 := [(0, qm_R (some (0, 61, 0))), (1, qm_I (qm_i 2)), (2, qm_I (qm_i a2)), (3, qm_L (((qm_l a3) <<< ((qm_i 32).toInt64 &&& 63)) ||| ((qm_l a4) &&& (qm_l 4294967295))))]) rfl rfl (qm_x_aload rfl) ?_
          refine qm_G.s1 rfl (qm_x_getfR (q := (some (0, 73, 0))) (hS 61 rfl) (hR 61 20 73 rfl rfl)) ?_
          refine qm_G.s1 rfl (qm_x_iload rfl) ?_
          refine qm_G.s1 rfl (qm_x_iald (v := (J 73 0 2)) (qm_arS hS rfl rfl) rfl (by decide) (by decide) (by decide) rfl) ?_
          refine qm_G.s1 rfl (qm_x_if_ne_t ⟨by omega, by omega⟩ (by omega)) ?_
          refine qm_G.sp (lv1 := [(0, qm_R (some (0, 61, 0))), (1, qm_I (qm_i 2)), (2, qm_I (qm_i a2)), (3, qm_L (((qm_l a3) <<< ((qm_i 32).toInt64 &&& 63)) ||| ((qm_l a4) &&& (qm_l 4294967295))))]) rfl rfl (qm_x_iload rfl) ?_
          refine qm_G.s1 rfl (qm_x_pushI 0 rfl) ?_
          refine qm_G.s1 rfl (qm_x_aload rfl) ?_
          refine qm_G.s1 rfl (qm_x_getfR (q := (some (0, 74, 0))) (hS 61 rfl) (hR 61 21 74 rfl rfl)) ?_
          refine qm_G.s1 rfl (qm_x_iload rfl) ?_
          refine qm_G.s1 rfl (qm_x_iald (v := (J 74 0 2)) (qm_arS hS rfl rfl) rfl (by decide) (by decide) (by decide) rfl) ?_
          refine qm_G.s1 rfl (qm_x_pushI 1 rfl) ?_
          refine qm_G.s1 rfl (qm_x_isub) ?_
          refine qm_G.cs rfl rfl rfl ?_
          refine qm_v_within11_t ⟨by omega, by omega⟩ ⟨by decide, by decide⟩ ⟨by omega, by omega⟩ (by omega) ⟨_, rfl, ?_⟩
          refine qm_G.s1 rfl (qm_x_if_ne_t ⟨by decide, by decide⟩ (by decide)) ?_
          refine qm_G.sp (lv1 := [(0, qm_R (some (0, 61, 0))), (1, qm_I (qm_i 2)), (2, qm_I (qm_i a2)), (3, qm_L (((qm_l a3) <<< ((qm_i 32).toInt64 &&& 63)) ||| ((qm_l a4) &&& (qm_l 4294967295))))]) rfl rfl (qm_x_aload rfl) ?_
          refine qm_G.s1 rfl (qm_x_getfR (q := (some (0, 73, 0))) (hS 61 rfl) (hR 61 20 73 rfl rfl)) ?_
          refine qm_G.s1 rfl (qm_x_iload rfl) ?_
          refine qm_G.s1 rfl (qm_x_iald (v := (J 73 0 2)) (qm_arS hS rfl rfl) rfl (by decide) (by decide) (by decide) rfl) ?_
          refine qm_G.s1 rfl (qm_x_istore (lv' := [(5, qm_I (qm_i (J 73 0 2))), (0, qm_R (some (0, 61, 0))), (1, qm_I (qm_i 2)), (2, qm_I (qm_i a2)), (3, qm_L (((qm_l a3) <<< ((qm_i 32).toInt64 &&& 63)) ||| ((qm_l a4) &&& (qm_l 4294967295))))]) rfl) ?_
          refine qm_G.s1 rfl (qm_x_aload rfl) ?_
          refine qm_G.s1 rfl (qm_x_getfR (q := (some (0, 75, 0))) (hS 61 rfl) (hR 61 22 75 rfl rfl)) ?_
          refine qm_G.s1 rfl (qm_x_pushI 60 rfl) ?_
          refine qm_G.s1 rfl (qm_x_iload rfl) ?_
          refine qm_G.s1 rfl (qm_x_imul) ?_
          refine qm_G.s1 rfl (qm_x_iload rfl) ?_
          refine qm_G.s1 rfl (qm_x_iadd) ?_
          refine qm_G.s1 rfl (qm_x_iload rfl) ?_
          refine qm_G.s1 rfl (qm_x_pushI 1 rfl) ?_
          refine qm_G.s1 rfl (qm_x_icmp_ne_t ⟨by omega, by omega⟩ ⟨by decide, by decide⟩ (by omega)) ?_
          refine qm_G.sp (lv1 := [(3, qm_L (((qm_l a3) <<< ((qm_i 32).toInt64 &&& 63)) ||| ((qm_l a4) &&& (qm_l 4294967295)))), (5, qm_I (qm_i (J 73 0 2)))]) rfl rfl (qm_x_iload rfl) ?_
          refine qm_G.s1 rfl (qm_x_pushI 2 rfl) ?_
          refine qm_G.s1 rfl (qm_x_icmp_ne_f ⟨by omega, by omega⟩ ⟨by decide, by decide⟩ (by omega)) ?_
          refine qm_G.s1 rfl (qm_x_lload rfl) ?_
          refine qm_G.s1 rfl (qm_x_l2ir) ?_
          have g80 : qm_sm ((((qm_l a3) <<< ((qm_i 32).toInt64 &&& 63)) ||| ((qm_l a4) &&& (qm_l 4294967295))).toInt32.toInt) := qm_i_sml _
          refine qm_G.s1 rfl (qm_x_i2sr) ?_
          have g81 : qm_sm ((qm_i ((((qm_l a3) <<< ((qm_i 32).toInt64 &&& 63)) ||| ((qm_l a4) &&& (qm_l 4294967295))).toInt32.toInt)).toInt16.toInt) := qm_sm16 _
          refine qm_G.s1 rfl (qm_x_i2l ⟨by omega, by omega⟩) ?_
          refine qm_G.s1 rfl (qm_x_goto) ?_
          refine qm_G.sp (lv1 := []) rfl rfl (qm_x_last (qm_arS hS rfl rfl) rfl (by omega) (by omega) (by decide)) ?_
          refine qm_G.s1 rfl (qm_x_pushI 1 rfl) ?_
          refine qm_G.ret rfl rfl ⟨_, rfl, ?_⟩
          refine qm_G.s1 rfl (qm_x_icmp_eq_t ⟨by decide, by decide⟩ ⟨by decide, by decide⟩ (by decide)) ?_
          rw [show (Int.toNat ((60 * 2) + a2)) = 120 + (Int.toNat a2) by omega]
          exact ih _ _ _ _ _ _ (qm_U_itm2 (by omega) hI)
        · refine qm_G.s1 rfl (qm_x_tsweq (v := 2) (t := 46) c69 rfl) ?_
          refine qm_G.sp (lv1 := [(1, qm_L (((qm_l a3) <<< ((qm_i 32).toInt64 &&& 63)) ||| ((qm_l a4) &&& (qm_l 4294967295))))]) rfl rfl (qm_x_lload rfl) ?_
          refine qm_G.s1 rfl (qm_x_l2ir) ?_
          have g82 : qm_sm ((((qm_l a3) <<< ((qm_i 32).toInt64 &&& 63)) ||| ((qm_l a4) &&& (qm_l 4294967295))).toInt32.toInt) := qm_i_sml _
          refine qm_G.s1 rfl (qm_x_i2l ⟨by omega, by omega⟩) ?_
          refine qm_G.ret rfl rfl ⟨_, rfl, ?_⟩
          refine qm_G.s1 rfl (qm_x_last (qm_arS hS rfl rfl) rfl (by omega) (by omega) (by decide)) ?_
          refine qm_G.s1 rfl (qm_x_pushI 1 rfl) ?_
          refine qm_G.ret rfl rfl ⟨_, rfl, ?_⟩
          refine qm_G.s1 rfl (qm_x_aload rfl) ?_
          refine qm_G.s1 rfl (qm_x_aload rfl) ?_
          refine qm_G.s1 rfl (qm_x_iload rfl) ?_
          refine qm_G.s1 rfl (qm_x_pushI 1 rfl) ?_
          refine qm_G.s1 rfl (qm_x_iadd) ?_
          refine qm_G.s1 rfl (qm_x_iald2v (v := 2) (by omega) (by omega) hX e1) ?_
          refine qm_G.s1 rfl (qm_x_aload rfl) ?_
          refine qm_G.s1 rfl (qm_x_iload rfl) ?_
          refine qm_G.s1 rfl (qm_x_pushI 2 rfl) ?_
          refine qm_G.s1 rfl (qm_x_iadd) ?_
          refine qm_G.s1 rfl (qm_x_iald2v (v := a2) (by omega) (by omega) hX e2) ?_
          refine qm_G.s1 rfl (qm_x_aload rfl) ?_
          refine qm_G.s1 rfl (qm_x_iload rfl) ?_
          refine qm_G.s1 rfl (qm_x_pushI 3 rfl) ?_
          refine qm_G.s1 rfl (qm_x_iadd) ?_
          refine qm_G.s1 rfl (qm_x_iald2v (v := a3) (by omega) (by omega) hX e3) ?_
          refine qm_G.s1 rfl (qm_x_i2l ⟨by omega, by omega⟩) ?_
          refine qm_G.s1 rfl (qm_x_pushI 32 rfl) ?_
          refine qm_G.s1 rfl (qm_x_lshl) ?_
          refine qm_G.s1 rfl (qm_x_aload rfl) ?_
          refine qm_G.s1 rfl (qm_x_iload rfl) ?_
          refine qm_G.s1 rfl (qm_x_pushI 4 rfl) ?_
          refine qm_G.s1 rfl (qm_x_iadd) ?_
          refine qm_G.s1 rfl (qm_x_iald2v (v := a4) (by omega) (by omega) hX e4) ?_
          refine qm_G.s1 rfl (qm_x_i2l ⟨by omega, by omega⟩) ?_
          refine qm_G.s1 rfl (qm_x_pushL 4294967295 rfl) ?_
          refine qm_G.s1 rfl (qm_x_land) ?_
          refine qm_G.s1 rfl (qm_x_lor) ?_
          refine qm_G.cm rfl rfl (hS 61 rfl) rfl ?_
          refine qm_C.go (cd := qm_P125) (lv := [(0, qm_R (some (0, 61, 0))), (1, qm_I (qm_i 2)), (2, qm_I (qm_i a2)), (3, qm_L (((qm_l a3) <<< ((qm_i 32).toInt64 &&& 63)) ||| ((qm_l a4) &&& (qm_l 4294967295))))]) rfl rfl ?_
          refine qm_G.s1 rfl (qm_x_iload rfl) ?_
          refine qm_G.cs rfl rfl rfl ?_
          refine qm_C.go (cd := qm_P86) (lv := [(0, qm_I (qm_i 2))]) rfl rfl ?_
          refine qm_G.s1 rfl (qm_x_iload rfl) ?_
          refine qm_G.s1 rfl (qm_x_pushI 0 rfl) ?_
          refine qm_G.s1 rfl (qm_x_pushI 5 rfl) ?_
          refine qm_G.cs rfl rfl rfl ?_
          refine qm_v_within11_t ⟨by decide, by decide⟩ ⟨by decide, by decide⟩ ⟨by decide, by decide⟩ (by decide) ⟨_, rfl, ?_⟩
          refine qm_G.ret rfl rfl ⟨_, rfl, ?_⟩
          refine qm_G.s1 rfl (qm_x_if_ne_t ⟨by decide, by decide⟩ (by decide)) ?_
          refine qm_G.sp (lv1 := [(0, qm_R (some (0, 61, 0))), (1, qm_I (qm_i 2)), (2, qm_I (qm_i a2)), (3, qm_L (((qm_l a3) <<< ((qm_i 32).toInt64 &&& 63)) ||| ((qm_l a4) &&& (qm_l 4294967295))))]) rfl rfl (qm_x_aload rfl) ?_
          refine qm_G.s1 rfl (qm_x_getfR (q := (some (0, 73, 0))) (hS 61 rfl) (hR 61 20 73 rfl rfl)) ?_
          refine qm_G.s1 rfl (qm_x_iload rfl) ?_
          refine qm_G.s1 rfl (qm_x_iald (v := (J 73 0 2)) (qm_arS hS rfl rfl) rfl (by decide) (by decide) (by decide) rfl) ?_
          refine qm_G.s1 rfl (qm_x_if_ne_t ⟨by omega, by omega⟩ (by omega)) ?_
          refine qm_G.sp (lv1 := [(0, qm_R (some (0, 61, 0))), (1, qm_I (qm_i 2)), (2, qm_I (qm_i a2)), (3, qm_L (((qm_l a3) <<< ((qm_i 32).toInt64 &&& 63)) ||| ((qm_l a4) &&& (qm_l 4294967295))))]) rfl rfl (qm_x_iload rfl) ?_
          refine qm_G.s1 rfl (qm_x_pushI 0 rfl) ?_
          refine qm_G.s1 rfl (qm_x_aload rfl) ?_
          refine qm_G.s1 rfl (qm_x_getfR (q := (some (0, 74, 0))) (hS 61 rfl) (hR 61 21 74 rfl rfl)) ?_
          refine qm_G.s1 rfl (qm_x_iload rfl) ?_
          refine qm_G.s1 rfl (qm_x_iald (v := (J 74 0 2)) (qm_arS hS rfl rfl) rfl (by decide) (by decide) (by decide) rfl) ?_
          refine qm_G.s1 rfl (qm_x_pushI 1 rfl) ?_
          refine qm_G.s1 rfl (qm_x_isub) ?_
          refine qm_G.cs rfl rfl rfl ?_
          refine qm_v_within11_t ⟨by omega, by omega⟩ ⟨by decide, by decide⟩ ⟨by omega, by omega⟩ (by omega) ⟨_, rfl, ?_⟩
          refine qm_G.s1 rfl (qm_x_if_ne_t ⟨by decide, by decide⟩ (by decide)) ?_
          refine qm_G.sp (lv1 := [(0, qm_R (some (0, 61, 0))), (1, qm_I (qm_i 2)), (2, qm_I (qm_i a2)), (3, qm_L (((qm_l a3) <<< ((qm_i 32).toInt64 &&& 63)) ||| ((qm_l a4) &&& (qm_l 4294967295))))]) rfl rfl (qm_x_aload rfl) ?_
          refine qm_G.s1 rfl (qm_x_getfR (q := (some (0, 73, 0))) (hS 61 rfl) (hR 61 20 73 rfl rfl)) ?_
          refine qm_G.s1 rfl (qm_x_iload rfl) ?_
          refine qm_G.s1 rfl (qm_x_iald (v := (J 73 0 2)) (qm_arS hS rfl rfl) rfl (by decide) (by decide) (by decide) rfl) ?_
          refine qm_G.s1 rfl (qm_x_istore (lv' := [(5, qm_I (qm_i (J 73 0 2))), (0, qm_R (some (0, 61, 0))), (1, qm_I (qm_i 2)), (2, qm_I (qm_i a2)), (3, qm_L (((qm_l a3) <<< ((qm_i 32).toInt64 &&& 63)) ||| ((qm_l a4) &&& (qm_l 4294967295))))]) rfl) ?_
          refine qm_G.s1 rfl (qm_x_aload rfl) ?_
          refine qm_G.s1 rfl (qm_x_getfR (q := (some (0, 75, 0))) (hS 61 rfl) (hR 61 22 75 rfl rfl)) ?_
          refine qm_G.s1 rfl (qm_x_pushI 60 rfl) ?_
          refine qm_G.s1 rfl (qm_x_iload rfl) ?_
          refine qm_G.s1 rfl (qm_x_imul) ?_
          refine qm_G.s1 rfl (qm_x_iload rfl) ?_
          refine qm_G.s1 rfl (qm_x_iadd) ?_
          refine qm_G.s1 rfl (qm_x_iload rfl) ?_
          refine qm_G.s1 rfl (qm_x_pushI 1 rfl) ?_
          refine qm_G.s1 rfl (qm_x_icmp_ne_t ⟨by omega, by omega⟩ ⟨by decide, by decide⟩ (by omega)) ?_
          refine qm_G.sp (lv1 := [(3, qm_L (((qm_l a3) <<< ((qm_i 32).toInt64 &&& 63)) ||| ((qm_l a4) &&& (qm_l 4294967295)))), (5, qm_I (qm_i (J 73 0 2)))]) rfl rfl (qm_x_iload rfl) ?_
          refine qm_G.s1 rfl (qm_x_pushI 2 rfl) ?_
          refine qm_G.s1 rfl (qm_x_icmp_ne_t ⟨by omega, by omega⟩ ⟨by decide, by decide⟩ (by omega)) ?_
          refine qm_G.sp (lv1 := [(3, qm_L (((qm_l a3) <<< ((qm_i 32).toInt64 &&& 63)) ||| ((qm_l a4) &&& (qm_l 4294967295)))), (5, qm_I (qm_i (J 73 0 2)))]) rfl rfl (qm_x_iload rfl) ?_
          refine qm_G.s1 rfl (qm_x_pushI 3 rfl) ?_
          refine qm_G.s1 rfl (qm_x_icmp_ne_f ⟨by omega, by omega⟩ ⟨by decide, by decide⟩ (by omega)) ?_
          refine qm_G.s1 rfl (qm_x_lload rfl) ?_
          refine qm_G.s1 rfl (qm_x_l2ir) ?_
          have g85 : qm_sm ((((qm_l a3) <<< ((qm_i 32).toInt64 &&& 63)) ||| ((qm_l a4) &&& (qm_l 4294967295))).toInt32.toInt) := qm_i_sml _
          refine qm_G.s1 rfl (qm_x_i2l ⟨by omega, by omega⟩) ?_
          refine qm_G.s1 rfl (qm_x_goto) ?_
          refine qm_G.sp (lv1 := []) rfl rfl (qm_x_last (qm_arS hS rfl rfl) rfl (by omega) (by omega) (by decide)) ?_
          refine qm_G.s1 rfl (qm_x_pushI 1 rfl) ?_
          refine qm_G.ret rfl rfl ⟨_, rfl, ?_⟩
          refine qm_G.s1 rfl (qm_x_icmp_eq_t ⟨by decide, by decide⟩ ⟨by decide, by decide⟩ (by decide)) ?_
          rw [show (Int.toNat ((60 * 2) + a2)) = 120 + (Int.toNat a2) by omega]
          exact ih _ _ _ _ _ _ (qm_U_itm2 (by omega) hI)
        · refine qm_G.s1 rfl (qm_x_tsweq (v := 3) (t := 50) c69 rfl) ?_
          refine qm_G.sp (lv1 := [(1, qm_L (((qm_l a3) <<< ((qm_i 32).toInt64 &&& 63)) ||| ((qm_l a4) &&& (qm_l 4294967295))))]) rfl rfl (qm_x_lload rfl) ?_
          refine qm_G.ret rfl rfl ⟨_, rfl, ?_⟩
          refine qm_G.s1 rfl (qm_x_last (qm_arS hS rfl rfl) rfl (by omega) (by omega) (by decide)) ?_
          refine qm_G.s1 rfl (qm_x_pushI 1 rfl) ?_
          refine qm_G.ret rfl rfl ⟨_, rfl, ?_⟩
          refine qm_G.s1 rfl (qm_x_aload rfl) ?_
          refine qm_G.s1 rfl (qm_x_aload rfl) ?_
          refine qm_G.s1 rfl (qm_x_iload rfl) ?_
          refine qm_G.s1 rfl (qm_x_pushI 1 rfl) ?_
          refine qm_G.s1 rfl (qm_x_iadd) ?_
          refine qm_G.s1 rfl (qm_x_iald2v (v := 2) (by omega) (by omega) hX e1) ?_
          refine qm_G.s1 rfl (qm_x_aload rfl) ?_
          refine qm_G.s1 rfl (qm_x_iload rfl) ?_
          refine qm_G.s1 rfl (qm_x_pushI 2 rfl) ?_
          refine qm_G.s1 rfl (qm_x_iadd) ?_
          refine qm_G.s1 rfl (qm_x_iald2v (v := a2) (by omega) (by omega) hX e2) ?_
          refine qm_G.s1 rfl (qm_x_aload rfl) ?_
          refine qm_G.s1 rfl (qm_x_iload rfl) ?_
          refine qm_G.s1 rfl (qm_x_pushI 3 rfl) ?_
          refine qm_G.s1 rfl (qm_x_iadd) ?_
          refine qm_G.s1 rfl (qm_x_iald2v (v := a3) (by omega) (by omega) hX e3) ?_
          refine qm_G.s1 rfl (qm_x_i2l ⟨by omega, by omega⟩) ?_
          refine qm_G.s1 rfl (qm_x_pushI 32 rfl) ?_
          refine qm_G.s1 rfl (qm_x_lshl) ?_
          refine qm_G.s1 rfl (qm_x_aload rfl) ?_
          refine qm_G.s1 rfl (qm_x_iload rfl) ?_
          refine qm_G.s1 rfl (qm_x_pushI 4 rfl) ?_
          refine qm_G.s1 rfl (qm_x_iadd) ?_
          refine qm_G.s1 rfl (qm_x_iald2v (v := a4) (by omega) (by omega) hX e4) ?_
          refine qm_G.s1 rfl (qm_x_i2l ⟨by omega, by omega⟩) ?_
          refine qm_G.s1 rfl (qm_x_pushL 4294967295 rfl) ?_
          refine qm_G.s1 rfl (qm_x_land) ?_
          refine qm_G.s1 rfl (qm_x_lor) ?_
          refine qm_G.cm rfl rfl (hS 61 rfl) rfl ?_
          refine qm_C.go (cd := qm_P125) (lv := [(0, qm_R (some (0, 61, 0))), (1, qm_I (qm_i 2)), (2, qm_I (qm_i a2)), (3, qm_L (((qm_l a3) <<< ((qm_i 32).toInt64 &&& 63)) ||| ((qm_l a4) &&& (qm_l 4294967295))))]) rfl rfl ?_
          refine qm_G.s1 rfl (qm_x_iload rfl) ?_
          refine qm_G.cs rfl rfl rfl ?_
          refine qm_C.go (cd := qm_P86) (lv := [(0, qm_I (qm_i 2))]) rfl rfl ?_
          refine qm_G.s1 rfl (qm_x_iload rfl) ?_
          refine qm_G.s1 rfl (qm_x_pushI 0 rfl) ?_
          refine qm_G.s1 rfl (qm_x_pushI 5 rfl) ?_
          refine qm_G.cs rfl rfl rfl ?_
          refine qm_v_within11_t ⟨by decide, by decide⟩ ⟨by decide, by decide⟩ ⟨by decide, by decide⟩ (by decide) ⟨_, rfl, ?_⟩
          refine qm_G.ret rfl rfl ⟨_, rfl, ?_⟩
          refine qm_G.s1 rfl (qm_x_if_ne_t ⟨by decide, by decide⟩ (by decide)) ?_
          refine qm_G.sp (lv1 := [(0, qm_R (some (0, 61, 0))), (1, qm_I (qm_i 2)), (2, qm_I (qm_i a2)), (3, qm_L (((qm_l a3) <<< ((qm_i 32).toInt64 &&& 63)) ||| ((qm_l a4) &&& (qm_l 4294967295))))]) rfl rfl (qm_x_aload rfl) ?_
          refine qm_G.s1 rfl (qm_x_getfR (q := (some (0, 73, 0))) (hS 61 rfl) (hR 61 20 73 rfl rfl)) ?_
          refine qm_G.s1 rfl (qm_x_iload rfl) ?_
          refine qm_G.s1 rfl (qm_x_iald (v := (J 73 0 2)) (qm_arS hS rfl rfl) rfl (by decide) (by decide) (by decide) rfl) ?_
          refine qm_G.s1 rfl (qm_x_if_ne_t ⟨by omega, by omega⟩ (by omega)) ?_
          refine qm_G.sp (lv1 := [(0, qm_R (some (0, 61, 0))), (1, qm_I (qm_i 2)), (2, qm_I (qm_i a2)), (3, qm_L (((qm_l a3) <<< ((qm_i 32).toInt64 &&& 63)) ||| ((qm_l a4) &&& (qm_l 4294967295))))]) rfl rfl (qm_x_iload rfl) ?_
          refine qm_G.s1 rfl (qm_x_pushI 0 rfl) ?_
          refine qm_G.s1 rfl (qm_x_aload rfl) ?_
          refine qm_G.s1 rfl (qm_x_getfR (q := (some (0, 74, 0))) (hS 61 rfl) (hR 61 21 74 rfl rfl)) ?_
          refine qm_G.s1 rfl (qm_x_iload rfl) ?_
          refine qm_G.s1 rfl (qm_x_iald (v := (J 74 0 2)) (qm_arS hS rfl rfl) rfl (by decide) (by decide) (by decide) rfl) ?_
          refine qm_G.s1 rfl (qm_x_pushI 1 rfl) ?_
          refine qm_G.s1 rfl (qm_x_isub) ?_
          refine qm_G.cs rfl rfl rfl ?_
          refine qm_v_within11_t ⟨by omega, by omega⟩ ⟨by decide, by decide⟩ ⟨by omega, by omega⟩ (by omega) ⟨_, rfl, ?_⟩
          refine qm_G.s1 rfl (qm_x_if_ne_t ⟨by decide, by decide⟩ (by decide)) ?_
          refine qm_G.sp (lv1 := [(0, qm_R (some (0, 61, 0))), (1, qm_I (qm_i 2)), (2, qm_I (qm_i a2)), (3, qm_L (((qm_l a3) <<< ((qm_i 32).toInt64 &&& 63)) ||| ((qm_l a4) &&& (qm_l 4294967295))))]) rfl rfl (qm_x_aload rfl) ?_
          refine qm_G.s1 rfl (qm_x_getfR (q := (some (0, 73, 0))) (hS 61 rfl) (hR 61 20 73 rfl rfl)) ?_
          refine qm_G.s1 rfl (qm_x_iload rfl) ?_
          refine qm_G.s1 rfl (qm_x_iald (v := (J 73 0 2)) (qm_arS hS rfl rfl) rfl (by decide) (by decide) (by decide) rfl) ?_
          refine qm_G.s1 rfl (qm_x_istore (lv' := [(5, qm_I (qm_i (J 73 0 2))), (0, qm_R (some (0, 61, 0))), (1, qm_I (qm_i 2)), (2, qm_I (qm_i a2)), (3, qm_L (((qm_l a3) <<< ((qm_i 32).toInt64 &&& 63)) ||| ((qm_l a4) &&& (qm_l 4294967295))))]) rfl) ?_
          refine qm_G.s1 rfl (qm_x_aload rfl) ?_
          refine qm_G.s1 rfl (qm_x_getfR (q := (some (0, 75, 0))) (hS 61 rfl) (hR 61 22 75 rfl rfl)) ?_
          refine qm_G.s1 rfl (qm_x_pushI 60 rfl) ?_
          refine qm_G.s1 rfl (qm_x_iload rfl) ?_
          refine qm_G.s1 rfl (qm_x_imul) ?_
          refine qm_G.s1 rfl (qm_x_iload rfl) ?_
          refine qm_G.s1 rfl (qm_x_iadd) ?_
          refine qm_G.s1 rfl (qm_x_iload rfl) ?_
          refine qm_G.s1 rfl (qm_x_pushI 1 rfl) ?_
          refine qm_G.s1 rfl (qm_x_icmp_ne_t ⟨by omega, by omega⟩ ⟨by decide, by decide⟩ (by omega)) ?_
          refine qm_G.sp (lv1 := [(3, qm_L (((qm_l a3) <<< ((qm_i 32).toInt64 &&& 63)) ||| ((qm_l a4) &&& (qm_l 4294967295)))), (5, qm_I (qm_i (J 73 0 2)))]) rfl rfl (qm_x_iload rfl) ?_
          refine qm_G.s1 rfl (qm_x_pushI 2 rfl) ?_
          refine qm_G.s1 rfl (qm_x_icmp_ne_t ⟨by omega, by omega⟩ ⟨by decide, by decide⟩ (by omega)) ?_
          refine qm_G.sp (lv1 := [(3, qm_L (((qm_l a3) <<< ((qm_i 32).toInt64 &&& 63)) ||| ((qm_l a4) &&& (qm_l 4294967295)))), (5, qm_I (qm_i (J 73 0 2)))]) rfl rfl (qm_x_iload rfl) ?_
          refine qm_G.s1 rfl (qm_x_pushI 3 rfl) ?_
          refine qm_G.s1 rfl (qm_x_icmp_ne_t ⟨by omega, by omega⟩ ⟨by decide, by decide⟩ (by omega)) ?_
          refine qm_G.sp (lv1 := [(3, qm_L (((qm_l a3) <<< ((qm_i 32).toInt64 &&& 63)) ||| ((qm_l a4) &&& (qm_l 4294967295)))), (5, qm_I (qm_i (J 73 0 2)))]) rfl rfl (qm_x_iload rfl) ?_
          refine qm_G.s1 rfl (qm_x_pushI 4 rfl) ?_
          refine qm_G.s1 rfl (qm_x_icmp_ne_f ⟨by omega, by omega⟩ ⟨by decide, by decide⟩ (by omega)) ?_
          refine qm_G.s1 rfl (qm_x_lload rfl) ?_
          refine qm_G.s1 rfl (qm_x_goto) ?_
          refine qm_G.sp (lv1 := []) rfl rfl (qm_x_last (qm_arS hS rfl rfl) rfl (by omega) (by omega) (by decide)) ?_
          refine qm_G.s1 rfl (qm_x_pushI 1 rfl) ?_
          refine qm_G.ret rfl rfl ⟨_, rfl, ?_⟩
          refine qm_G.s1 rfl (qm_x_icmp_eq_t ⟨by decide, by decide⟩ ⟨by decide, by decide⟩ (by decide)) ?_
          rw [show (Int.toNat ((60 * 2) + a2)) = 120 + (Int.toNat a2) by omega]
          exact ih _ _ _ _ _ _ (qm_U_itm2 (by omega) hI)
        · refine qm_G.s1 rfl (qm_x_tswd (m := 4) rfl ⟨by omega, by omega⟩ (by omega) (by omega) (by decide)) ?_
          refine qm_G.sp (lv1 := [(1, qm_L (((qm_l a3) <<< ((qm_i 32).toInt64 &&& 63)) ||| ((qm_l a4) &&& (qm_l 4294967295))))]) rfl rfl (qm_x_lload rfl) ?_
          refine qm_G.s1 rfl (qm_x_pushL 0 rfl) ?_
          refine qm_y_lcmpr rfl (fun c88 => ?_) (fun c88 => ?_) (fun c88 => ?_)
          · refine qm_G.s1 rfl (qm_x_if_eq_f ⟨by decide, by decide⟩ (by decide)) ?_
            refine qm_G.s1 rfl (qm_x_pushL 1 rfl) ?_
            refine qm_G.s1 rfl (qm_x_goto) ?_
            refine qm_G.ret rfl rfl ⟨_, rfl, ?_⟩
            refine qm_G.s1 rfl (qm_x_last (qm_arS hS rfl rfl) rfl (by omega) (by omega) (by decide)) ?_
            refine qm_G.s1 rfl (qm_x_pushI 1 rfl) ?_
            refine qm_G.ret rfl rfl ⟨_, rfl, ?_⟩
            refine qm_G.s1 rfl (qm_x_aload rfl) ?_
            refine qm_G.s1 rfl (qm_x_aload rfl) ?_
            refine qm_G.s1 rfl (qm_x_iload rfl) ?_
            refine qm_G.s1 rfl (qm_x_pushI 1 rfl) ?_
            refine qm_G.s1 rfl (qm_x_iadd) ?_
            refine qm_G.s1 rfl (qm_x_iald2v (v := 2) (by omega) (by omega) hX e1) ?_
            refine qm_G.s1 rfl (qm_x_aload rfl) ?_
            refine qm_G.s1 rfl (qm_x_iload rfl) ?_
            refine qm_G.s1 rfl (qm_x_pushI 2 rfl) ?_
            refine qm_G.s1 rfl (qm_x_iadd) ?_
            refine qm_G.s1 rfl (qm_x_iald2v (v := a2) (by omega) (by omega) hX e2) ?_
            refine qm_G.s1 rfl (qm_x_aload rfl) ?_
            refine qm_G.s1 rfl (qm_x_iload rfl) ?_
            refine qm_G.s1 rfl (qm_x_pushI 3 rfl) ?_
            refine qm_G.s1 rfl (qm_x_iadd) ?_
            refine qm_G.s1 rfl (qm_x_iald2v (v := a3) (by omega) (by omega) hX e3) ?_
            refine qm_G.s1 rfl (qm_x_i2l ⟨by omega, by omega⟩) ?_
            refine qm_G.s1 rfl (qm_x_pushI 32 rfl) ?_
            refine qm_G.s1 rfl (qm_x_lshl) ?_
            refine qm_G.s1 rfl (qm_x_aload rfl) ?_
            refine qm_G.s1 rfl (qm_x_iload rfl) ?_
            refine qm_G.s1 rfl (qm_x_pushI 4 rfl) ?_
            refine qm_G.s1 rfl (qm_x_iadd) ?_
            refine qm_G.s1 rfl (qm_x_iald2v (v := a4) (by omega) (by omega) hX e4) ?_
            refine qm_G.s1 rfl (qm_x_i2l ⟨by omega, by omega⟩) ?_
            refine qm_G.s1 rfl (qm_x_pushL 4294967295 rfl) ?_
            refine qm_G.s1 rfl (qm_x_land) ?_
            refine qm_G.s1 rfl (qm_x_lor) ?_
            refine qm_G.cm rfl rfl (hS 61 rfl) rfl ?_
            refine qm_C.go (cd := qm_P125) (lv := [(0, qm_R (some (0, 61, 0))), (1, qm_I (qm_i 2)), (2, qm_I (qm_i a2)), (3, qm_L (((qm_l a3) <<< ((qm_i 32).toInt64 &&& 63)) ||| ((qm_l a4) &&& (qm_l 4294967295))))]) rfl rfl ?_
            refine qm_G.s1 rfl (qm_x_iload rfl) ?_
            refine qm_G.cs rfl rfl rfl ?_
            refine qm_C.go (cd := qm_P86) (lv := [(0, qm_I (qm_i 2))]) rfl rfl ?_
            refine qm_G.s1 rfl (qm_x_iload rfl) ?_
            refine qm_G.s1 rfl (qm_x_pushI 0 rfl) ?_
            refine qm_G.s1 rfl (qm_x_pushI 5 rfl) ?_
            refine qm_G.cs rfl rfl rfl ?_
            refine qm_v_within11_t ⟨by decide, by decide⟩ ⟨by decide, by decide⟩ ⟨by decide, by decide⟩ (by decide) ⟨_, rfl, ?_⟩
            refine qm_G.ret rfl rfl ⟨_, rfl, ?_⟩
            refine qm_G.s1 rfl (qm_x_if_ne_t ⟨by decide, by decide⟩ (by decide)) ?_
            refine qm_G.sp (lv1 := [(0, qm_R (some (0, 61, 0))), (1, qm_I (qm_i 2)), (2, qm_I (qm_i a2)), (3, qm_L (((qm_l a3) <<< ((qm_i 32).toInt64 &&& 63)) ||| ((qm_l a4) &&& (qm_l 4294967295))))]) rfl rfl (qm_x_aload rfl) ?_
            refine qm_G.s1 rfl (qm_x_getfR (q := (some (0, 73, 0))) (hS 61 rfl) (hR 61 20 73 rfl rfl)) ?_
            refine qm_G.s1 rfl (qm_x_iload rfl) ?_
            refine qm_G.s1 rfl (qm_x_iald (v := (J 73 0 2)) (qm_arS hS rfl rfl) rfl (by decide) (by decide) (by decide) rfl) ?_
            refine qm_G.s1 rfl (qm_x_if_ne_t ⟨by omega, by omega⟩ (by omega)) ?_
            refine qm_G.sp (lv1 := [(0, qm_R (some (0, 61, 0))), (1, qm_I (qm_i 2)), (2, qm_I (qm_i a2)), (3, qm_L (((qm_l a3) <<< ((qm_i 32).toInt64 &&& 63)) ||| ((qm_l a4) &&& (qm_l 4294967295))))]) rfl rfl (qm_x_iload rfl) ?_
            refine qm_G.s1 rfl (qm_x_pushI 0 rfl) ?_
            refine qm_G.s1 rfl (qm_x_aload rfl) ?_
            refine qm_G.s1 rfl (qm_x_getfR (q := (some (0, 74, 0))) (hS 61 rfl) (hR 61 21 74 rfl rfl)) ?_
            refine qm_G.s1 rfl (qm_x_iload rfl) ?_
            refine qm_G.s1 rfl (qm_x_iald (v := (J 74 0 2)) (qm_arS hS rfl rfl) rfl (by decide) (by decide) (by decide) rfl) ?_
            refine qm_G.s1 rfl (qm_x_pushI 1 rfl) ?_
            refine qm_G.s1 rfl (qm_x_isub) ?_
            refine qm_G.cs rfl rfl rfl ?_
            refine qm_v_within11_t ⟨by omega, by omega⟩ ⟨by decide, by decide⟩ ⟨by omega, by omega⟩ (by omega) ⟨_, rfl, ?_⟩
            refine qm_G.s1 rfl (qm_x_if_ne_t ⟨by decide, by decide⟩ (by decide)) ?_
            refine qm_G.sp (lv1 := [(0, qm_R (some (0, 61, 0))), (1, qm_I (qm_i 2)), (2, qm_I (qm_i a2)), (3, qm_L (((qm_l a3) <<< ((qm_i 32).toInt64 &&& 63)) ||| ((qm_l a4) &&& (qm_l 4294967295))))]) rfl rfl (qm_x_aload rfl) ?_
            refine qm_G.s1 rfl (qm_x_getfR (q := (some (0, 73, 0))) (hS 61 rfl) (hR 61 20 73 rfl rfl)) ?_
            refine qm_G.s1 rfl (qm_x_iload rfl) ?_
            refine qm_G.s1 rfl (qm_x_iald (v := (J 73 0 2)) (qm_arS hS rfl rfl) rfl (by decide) (by decide) (by decide) rfl) ?_
            refine qm_G.s1 rfl (qm_x_istore (lv' := [(5, qm_I (qm_i (J 73 0 2))), (0, qm_R (some (0, 61, 0))), (1, qm_I (qm_i 2)), (2, qm_I (qm_i a2)), (3, qm_L (((qm_l a3) <<< ((qm_i 32).toInt64 &&& 63)) ||| ((qm_l a4) &&& (qm_l 4294967295))))]) rfl) ?_
            refine qm_G.s1 rfl (qm_x_aload rfl) ?_
            refine qm_G.s1 rfl (qm_x_getfR (q := (some (0, 75, 0))) (hS 61 rfl) (hR 61 22 75 rfl rfl)) ?_
            refine qm_G.s1 rfl (qm_x_pushI 60 rfl) ?_
            refine qm_G.s1 rfl (qm_x_iload rfl) ?_
            refine qm_G.s1 rfl (qm_x_imul) ?_
            refine qm_G.s1 rfl (qm_x_iload rfl) ?_
            refine qm_G.s1 rfl (qm_x_iadd) ?_
            refine qm_G.s1 rfl (qm_x_iload rfl) ?_
            refine qm_G.s1 rfl (qm_x_pushI 1 rfl) ?_
            refine qm_G.s1 rfl (qm_x_icmp_ne_t ⟨by omega, by omega⟩ ⟨by decide, by decide⟩ (by omega)) ?_
            refine qm_G.sp (lv1 := [(3, qm_L (((qm_l a3) <<< ((qm_i 32).toInt64 &&& 63)) ||| ((qm_l a4) &&& (qm_l 4294967295)))), (5, qm_I (qm_i (J 73 0 2)))]) rfl rfl (qm_x_iload rfl) ?_
            refine qm_G.s1 rfl (qm_x_pushI 2 rfl) ?_
            refine qm_G.s1 rfl (qm_x_icmp_ne_t ⟨by omega, by omega⟩ ⟨by decide, by decide⟩ (by omega)) ?_
            refine qm_G.sp (lv1 := [(3, qm_L (((qm_l a3) <<< ((qm_i 32).toInt64 &&& 63)) ||| ((qm_l a4) &&& (qm_l 4294967295)))), (5, qm_I (qm_i (J 73 0 2)))]) rfl rfl (qm_x_iload rfl) ?_
            refine qm_G.s1 rfl (qm_x_pushI 3 rfl) ?_
            refine qm_G.s1 rfl (qm_x_icmp_ne_t ⟨by omega, by omega⟩ ⟨by decide, by decide⟩ (by omega)) ?_
            refine qm_G.sp (lv1 := [(3, qm_L (((qm_l a3) <<< ((qm_i 32).toInt64 &&& 63)) ||| ((qm_l a4) &&& (qm_l 4294967295)))), (5, qm_I (qm_i (J 73 0 2)))]) rfl rfl (qm_x_iload rfl) ?_
            refine qm_G.s1 rfl (qm_x_pushI 4 rfl) ?_
            refine qm_G.s1 rfl (qm_x_icmp_ne_t ⟨by omega, by omega⟩ ⟨by decide, by decide⟩ (by omega)) ?_
            refine qm_G.sp (lv1 := [(3, qm_L (((qm_l a3) <<< ((qm_i 32).toInt64 &&& 63)) ||| ((qm_l a4) &&& (qm_l 4294967295))))]) rfl rfl (qm_x_lload rfl) ?_
            refine qm_G.s1 rfl (qm_x_pushL 0 rfl) ?_
            refine qm_G.s1 rfl (qm_x_lcmp_lt c88) ?_
            refine qm_G.s1 rfl (qm_x_if_eq_f ⟨by decide, by decide⟩ (by decide)) ?_
            refine qm_G.s1 rfl (qm_x_pushL 1 rfl) ?_
            refine qm_G.s1 rfl (qm_x_goto) ?_
            refine qm_G.sp (lv1 := []) rfl rfl (qm_x_last (qm_arS hS rfl rfl) rfl (by omega) (by omega) (by decide)) ?_
            refine qm_G.s1 rfl (qm_x_pushI 1 rfl) ?_
            refine qm_G.ret rfl rfl ⟨_, rfl, ?_⟩
            refine qm_G.s1 rfl (qm_x_icmp_eq_t ⟨by decide, by decide⟩ ⟨by decide, by decide⟩ (by decide)) ?_
            rw [show (Int.toNat ((60 * 2) + a2)) = 120 + (Int.toNat a2) by omega]
            exact ih _ _ _ _ _ _ (qm_U_itm2 (by omega) hI)
          · refine qm_G.s1 rfl (qm_x_if_eq_t ⟨by decide, by decide⟩ (by decide)) ?_
            refine qm_G.sp (lv1 := []) rfl rfl (qm_x_pushL 0 rfl) ?_
            refine qm_G.ret rfl rfl ⟨_, rfl, ?_⟩
            refine qm_G.s1 rfl (qm_x_last (qm_arS hS rfl rfl) rfl (by omega) (by omega) (by decide)) ?_
            refine qm_G.s1 rfl (qm_x_pushI 1 rfl) ?_
            refine qm_G.ret rfl rfl ⟨_, rfl, ?_⟩
            refine qm_G.s1 rfl (qm_x_aload rfl) ?_
            refine qm_G.s1 rfl (qm_x_aload rfl) ?_
            refine qm_G.s1 rfl (qm_x_iload rfl) ?_
            refine qm_G.s1 rfl (qm_x_pushI 1 rfl) ?_
            refine qm_G.s1 rfl (qm_x_iadd) ?_
            refine qm_G.s1 rfl (qm_x_iald2v (v := 2) (by omega) (by omega) hX e1) ?_
            refine qm_G.s1 rfl (qm_x_aload rfl) ?_
            refine qm_G.s1 rfl (qm_x_iload rfl) ?_
            refine qm_G.s1 rfl (qm_x_pushI 2 rfl) ?_
            refine qm_G.s1 rfl (qm_x_iadd) ?_
            refine qm_G.s1 rfl (qm_x_iald2v (v := a2) (by omega) (by omega) hX e2) ?_
            refine qm_G.s1 rfl (qm_x_aload rfl) ?_
            refine qm_G.s1 rfl (qm_x_iload rfl) ?_
            refine qm_G.s1 rfl (qm_x_pushI 3 rfl) ?_
            refine qm_G.s1 rfl (qm_x_iadd) ?_
            refine qm_G.s1 rfl (qm_x_iald2v (v := a3) (by omega) (by omega) hX e3) ?_
            refine qm_G.s1 rfl (qm_x_i2l ⟨by omega, by omega⟩) ?_
            refine qm_G.s1 rfl (qm_x_pushI 32 rfl) ?_
            refine qm_G.s1 rfl (qm_x_lshl) ?_
            refine qm_G.s1 rfl (qm_x_aload rfl) ?_
            refine qm_G.s1 rfl (qm_x_iload rfl) ?_
            refine qm_G.s1 rfl (qm_x_pushI 4 rfl) ?_
            refine qm_G.s1 rfl (qm_x_iadd) ?_
            refine qm_G.s1 rfl (qm_x_iald2v (v := a4) (by omega) (by omega) hX e4) ?_
            refine qm_G.s1 rfl (qm_x_i2l ⟨by omega, by omega⟩) ?_
            refine qm_G.s1 rfl (qm_x_pushL 4294967295 rfl) ?_
            refine qm_G.s1 rfl (qm_x_land) ?_
            refine qm_G.s1 rfl (qm_x_lor) ?_
            refine qm_G.cm rfl rfl (hS 61 rfl) rfl ?_
            refine qm_C.go (cd := qm_P125) (lv := [(0, qm_R (some (0, 61, 0))), (1, qm_I (qm_i 2)), (2, qm_I (qm_i a2)), (3, qm_L (((qm_l a3) <<< ((qm_i 32).toInt64 &&& 63)) ||| ((qm_l a4) &&& (qm_l 4294967295))))]) rfl rfl ?_
            refine qm_G.s1 rfl (qm_x_iload rfl) ?_
            refine qm_G.cs rfl rfl rfl ?_
            refine qm_C.go (cd := qm_P86) (lv := [(0, qm_I (qm_i 2))]) rfl rfl ?_
            refine qm_G.s1 rfl (qm_x_iload rfl) ?_
            refine qm_G.s1 rfl (qm_x_pushI 0 rfl) ?_
            refine qm_G.s1 rfl (qm_x_pushI 5 rfl) ?_
            refine qm_G.cs rfl rfl rfl ?_
            refine qm_v_within11_t ⟨by decide, by decide⟩ ⟨by decide, by decide⟩ ⟨by decide, by decide⟩ (by decide) ⟨_, rfl, ?_⟩
            refine qm_G.ret rfl rfl ⟨_, rfl, ?_⟩
            refine qm_G.s1 rfl (qm_x_if_ne_t ⟨by decide, by decide⟩ (by decide)) ?_
            refine qm_G.sp (lv1 := [(0, qm_R (some (0, 61, 0))), (1, qm_I (qm_i 2)), (2, qm_I (qm_i a2)), (3, qm_L (((qm_l a3) <<< ((qm_i 32).toInt64 &&& 63)) ||| ((qm_l a4) &&& (qm_l 4294967295))))]) rfl rfl (qm_x_aload rfl) ?_
            refine qm_G.s1 rfl (qm_x_getfR (q := (some (0, 73, 0))) (hS 61 rfl) (hR 61 20 73 rfl rfl)) ?_
            refine qm_G.s1 rfl (qm_x_iload rfl) ?_
            refine qm_G.s1 rfl (qm_x_iald (v := (J 73 0 2)) (qm_arS hS rfl rfl) rfl (by decide) (by decide) (by decide) rfl) ?_
            refine qm_G.s1 rfl (qm_x_if_ne_t ⟨by omega, by omega⟩ (by omega)) ?_
            refine qm_G.sp (lv1 := [(0, qm_R (some (0, 61, 0))), (1, qm_I (qm_i 2)), (2, qm_I (qm_i a2)), (3, qm_L (((qm_l a3) <<< ((qm_i 32).toInt64 &&& 63)) ||| ((qm_l a4) &&& (qm_l 4294967295))))]) rfl rfl (qm_x_iload rfl) ?_
            refine qm_G.s1 rfl (qm_x_pushI 0 rfl) ?_
            refine qm_G.s1 rfl (qm_x_aload rfl) ?_
            refine qm_G.s1 rfl (qm_x_getfR (q := (some (0, 74, 0))) (hS 61 rfl) (hR 61 21 74 rfl rfl)) ?_
            refine qm_G.s1 rfl (qm_x_iload rfl) ?_
            refine qm_G.s1 rfl (qm_x_iald (v := (J 74 0 2)) (qm_arS hS rfl rfl) rfl (by decide) (by decide) (by decide) rfl) ?_
            refine qm_G.s1 rfl (qm_x_pushI 1 rfl) ?_
            refine qm_G.s1 rfl (qm_x_isub) ?_
            refine qm_G.cs rfl rfl rfl ?_
            refine qm_v_within11_t ⟨by omega, by omega⟩ ⟨by decide, by decide⟩ ⟨by omega, by omega⟩ (by omega) ⟨_, rfl, ?_⟩
            refine qm_G.s1 rfl (qm_x_if_ne_t ⟨by decide, by decide⟩ (by decide)) ?_
            refine qm_G.sp (lv1 := [(0, qm_R (some (0, 61, 0))), (1, qm_I (qm_i 2)), (2, qm_I (qm_i a2)), (3, qm_L (((qm_l a3) <<< ((qm_i 32).toInt64 &&& 63)) ||| ((qm_l a4) &&& (qm_l 4294967295))))]) rfl rfl (qm_x_aload rfl) ?_
            refine qm_G.s1 rfl (qm_x_getfR (q := (some (0, 73, 0))) (hS 61 rfl) (hR 61 20 73 rfl rfl)) ?_
            refine qm_G.s1 rfl (qm_x_iload rfl) ?_
            refine qm_G.s1 rfl (qm_x_iald (v := (J 73 0 2)) (qm_arS hS rfl rfl) rfl (by decide) (by decide) (by decide) rfl) ?_
            refine qm_G.s1 rfl (qm_x_istore (lv' := [(5, qm_I (qm_i (J 73 0 2))), (0, qm_R (some (0, 61, 0))), (1, qm_I (qm_i 2)), (2, qm_I (qm_i a2)), (3, qm_L (((qm_l a3) <<< ((qm_i 32).toInt64 &&& 63)) ||| ((qm_l a4) &&& (qm_l 4294967295))))]) rfl) ?_
            refine qm_G.s1 rfl (qm_x_aload rfl) ?_
            refine qm_G.s1 rfl (qm_x_getfR (q := (some (0, 75, 0))) (hS 61 rfl) (hR 61 22 75 rfl rfl)) ?_
            refine qm_G.s1 rfl (qm_x_pushI 60 rfl) ?_
            refine qm_G.s1 rfl (qm_x_iload rfl) ?_
            refine qm_G.s1 rfl (qm_x_imul) ?_
            refine qm_G.s1 rfl (qm_x_iload rfl) ?_
            refine qm_G.s1 rfl (qm_x_iadd) ?_
            refine qm_G.s1 rfl (qm_x_iload rfl) ?_
            refine qm_G.s1 rfl (qm_x_pushI 1 rfl) ?_
            refine qm_G.s1 rfl (qm_x_icmp_ne_t ⟨by omega, by omega⟩ ⟨by decide, by decide⟩ (by omega)) ?_
            refine qm_G.sp (lv1 := [(3, qm_L (((qm_l a3) <<< ((qm_i 32).toInt64 &&& 63)) ||| ((qm_l a4) &&& (qm_l 4294967295)))), (5, qm_I (qm_i (J 73 0 2)))]) rfl rfl (qm_x_iload rfl) ?_
            refine qm_G.s1 rfl (qm_x_pushI 2 rfl) ?_
            refine qm_G.s1 rfl (qm_x_icmp_ne_t ⟨by omega, by omega⟩ ⟨by decide, by decide⟩ (by omega)) ?_
            refine qm_G.sp (lv1 := [(3, qm_L (((qm_l a3) <<< ((qm_i 32).toInt64 &&& 63)) ||| ((qm_l a4) &&& (qm_l 4294967295)))), (5, qm_I (qm_i (J 73 0 2)))]) rfl rfl (qm_x_iload rfl) ?_
            refine qm_G.s1 rfl (qm_x_pushI 3 rfl) ?_
            refine qm_G.s1 rfl (qm_x_icmp_ne_t ⟨by omega, by omega⟩ ⟨by decide, by decide⟩ (by omega)) ?_
            refine qm_G.sp (lv1 := [(3, qm_L (((qm_l a3) <<< ((qm_i 32).toInt64 &&& 63)) ||| ((qm_l a4) &&& (qm_l 4294967295)))), (5, qm_I (qm_i (J 73 0 2)))]) rfl rfl (qm_x_iload rfl) ?_
            refine qm_G.s1 rfl (qm_x_pushI 4 rfl) ?_
            refine qm_G.s1 rfl (qm_x_icmp_ne_t ⟨by omega, by omega⟩ ⟨by decide, by decide⟩ (by omega)) ?_
            refine qm_G.sp (lv1 := [(3, qm_L (((qm_l a3) <<< ((qm_i 32).toInt64 &&& 63)) ||| ((qm_l a4) &&& (qm_l 4294967295))))]) rfl rfl (qm_x_lload rfl) ?_
            refine qm_G.s1 rfl (qm_x_pushL 0 rfl) ?_
            refine qm_G.s1 rfl (qm_x_lcmp_eq c88) ?_
            refine qm_G.s1 rfl (qm_x_if_eq_t ⟨by decide, by decide⟩ (by decide)) ?_
            refine qm_G.sp (lv1 := []) rfl rfl (qm_x_pushL 0 rfl) ?_
            refine qm_G.sp (lv1 := []) rfl rfl (qm_x_last (qm_arS hS rfl rfl) rfl (by omega) (by omega) (by decide)) ?_
            refine qm_G.s1 rfl (qm_x_pushI 1 rfl) ?_
            refine qm_G.ret rfl rfl ⟨_, rfl, ?_⟩
            refine qm_G.s1 rfl (qm_x_icmp_eq_t ⟨by decide, by decide⟩ ⟨by decide, by decide⟩ (by decide)) ?_
            rw [show (Int.toNat ((60 * 2) + a2)) = 120 + (Int.toNat a2) by omega]
            exact ih _ _ _ _ _ _ (qm_U_itm2 (by omega) hI)
          · refine qm_G.s1 rfl (qm_x_if_eq_f ⟨by decide, by decide⟩ (by decide)) ?_
            refine qm_G.s1 rfl (qm_x_pushL 1 rfl) ?_
            refine qm_G.s1 rfl (qm_x_goto) ?_
            refine qm_G.ret rfl rfl ⟨_, rfl, ?_⟩
            refine qm_G.s1 rfl (qm_x_last (qm_arS hS rfl rfl) rfl (by omega) (by omega) (by decide)) ?_
            refine qm_G.s1 rfl (qm_x_pushI 1 rfl) ?_
            refine qm_G.ret rfl rfl ⟨_, rfl, ?_⟩
            refine qm_G.s1 rfl (qm_x_aload rfl) ?_
            refine qm_G.s1 rfl (qm_x_aload rfl) ?_
            refine qm_G.s1 rfl (qm_x_iload rfl) ?_
            refine qm_G.s1 rfl (qm_x_pushI 1 rfl) ?_
            refine qm_G.s1 rfl (qm_x_iadd) ?_
            refine qm_G.s1 rfl (qm_x_iald2v (v := 2) (by omega) (by omega) hX e1) ?_
            refine qm_G.s1 rfl (qm_x_aload rfl) ?_
            refine qm_G.s1 rfl (qm_x_iload rfl) ?_
            refine qm_G.s1 rfl (qm_x_pushI 2 rfl) ?_
            refine qm_G.s1 rfl (qm_x_iadd) ?_
            refine qm_G.s1 rfl (qm_x_iald2v (v := a2) (by omega) (by omega) hX e2) ?_
            refine qm_G.s1 rfl (qm_x_aload rfl) ?_
            refine qm_G.s1 rfl (qm_x_iload rfl) ?_
            refine qm_G.s1 rfl (qm_x_pushI 3 rfl) ?_
            refine qm_G.s1 rfl (qm_x_iadd) ?_
            refine qm_G.s1 rfl (qm_x_iald2v (v := a3) (by omega) (by omega) hX e3) ?_
            refine qm_G.s1 rfl (qm_x_i2l ⟨by omega, by omega⟩) ?_
            refine qm_G.s1 rfl (qm_x_pushI 32 rfl) ?_
            refine qm_G.s1 rfl (qm_x_lshl) ?_
            refine qm_G.s1 rfl (qm_x_aload rfl) ?_
            refine qm_G.s1 rfl (qm_x_iload rfl) ?_
            refine qm_G.s1 rfl (qm_x_pushI 4 rfl) ?_
            refine qm_G.s1 rfl (qm_x_iadd) ?_
            refine qm_G.s1 rfl (qm_x_iald2v (v := a4) (by omega) (by omega) hX e4) ?_
            refine qm_G.s1 rfl (qm_x_i2l ⟨by omega, by omega⟩) ?_
            refine qm_G.s1 rfl (qm_x_pushL 4294967295 rfl) ?_
            refine qm_G.s1 rfl (qm_x_land) ?_
            refine qm_G.s1 rfl (qm_x_lor) ?_
            refine qm_G.cm rfl rfl (hS 61 rfl) rfl ?_
            refine qm_C.go (cd := qm_P125) (lv := [(0, qm_R (some (0, 61, 0))), (1, qm_I (qm_i 2)), (2, qm_I (qm_i a2)), (3, qm_L (((qm_l a3) <<< ((qm_i 32).toInt64 &&& 63)) ||| ((qm_l a4) &&& (qm_l 4294967295))))]) rfl rfl ?_
            refine qm_G.s1 rfl (qm_x_iload rfl) ?_
            refine qm_G.cs rfl rfl rfl ?_
            refine qm_C.go (cd := qm_P86) (lv := [(0, qm_I (qm_i 2))]) rfl rfl ?_
            refine qm_G.s1 rfl (qm_x_iload rfl) ?_
            refine qm_G.s1 rfl (qm_x_pushI 0 rfl) ?_
            refine qm_G.s1 rfl (qm_x_pushI 5 rfl) ?_
            refine qm_G.cs rfl rfl rfl ?_
            refine qm_v_within11_t ⟨by decide, by decide⟩ ⟨by decide, by decide⟩ ⟨by decide, by decide⟩ (by decide) ⟨_, rfl, ?_⟩
            refine qm_G.ret rfl rfl ⟨_, rfl, ?_⟩
            refine qm_G.s1 rfl (qm_x_if_ne_t ⟨by decide, by decide⟩ (by decide)) ?_
            refine qm_G.sp (lv1 := [(0, qm_R (some (0, 61, 0))), (1, qm_I (qm_i 2)), (2, qm_I (qm_i a2)), (3, qm_L (((qm_l a3) <<< ((qm_i 32).toInt64 &&& 63)) ||| ((qm_l a4) &&& (qm_l 4294967295))))]) rfl rfl (qm_x_aload rfl) ?_
            refine qm_G.s1 rfl (qm_x_getfR (q := (some (0, 73, 0))) (hS 61 rfl) (hR 61 20 73 rfl rfl)) ?_
            refine qm_G.s1 rfl (qm_x_iload rfl) ?_
            refine qm_G.s1 rfl (qm_x_iald (v := (J 73 0 2)) (qm_arS hS rfl rfl) rfl (by decide) (by decide) (by decide) rfl) ?_
            refine qm_G.s1 rfl (qm_x_if_ne_t ⟨by omega, by omega⟩ (by omega)) ?_
            refine qm_G.sp (lv1 := [(0, qm_R (some (0, 61, 0))), (1, qm_I (qm_i 2)), (2, qm_I (qm_i a2)), (3, qm_L (((qm_l a3) <<< ((qm_i 32).toInt64 &&& 63)) ||| ((qm_l a4) &&& (qm_l 4294967295))))]) rfl rfl (qm_x_iload rfl) ?_
            refine qm_G.s1 rfl (qm_x_pushI 0 rfl) ?_
            refine qm_G.s1 rfl (qm_x_aload rfl) ?_
            refine qm_G.s1 rfl (qm_x_getfR (q := (some (0, 74, 0))) (hS 61 rfl) (hR 61 21 74 rfl rfl)) ?_
            refine qm_G.s1 rfl (qm_x_iload rfl) ?_
            refine qm_G.s1 rfl (qm_x_iald (v := (J 74 0 2)) (qm_arS hS rfl rfl) rfl (by decide) (by decide) (by decide) rfl) ?_
            refine qm_G.s1 rfl (qm_x_pushI 1 rfl) ?_
            refine qm_G.s1 rfl (qm_x_isub) ?_
            refine qm_G.cs rfl rfl rfl ?_
            refine qm_v_within11_t ⟨by omega, by omega⟩ ⟨by decide, by decide⟩ ⟨by omega, by omega⟩ (by omega) ⟨_, rfl, ?_⟩
            refine qm_G.s1 rfl (qm_x_if_ne_t ⟨by decide, by decide⟩ (by decide)) ?_
            refine qm_G.sp (lv1 := [(0, qm_R (some (0, 61, 0))), (1, qm_I (qm_i 2)), (2, qm_I (qm_i a2)), (3, qm_L (((qm_l a3) <<< ((qm_i 32).toInt64 &&& 63)) ||| ((qm_l a4) &&& (qm_l 4294967295))))]) rfl rfl (qm_x_aload rfl) ?_
            refine qm_G.s1 rfl (qm_x_getfR (q := (some (0, 73, 0))) (hS 61 rfl) (hR 61 20 73 rfl rfl)) ?_
            refine qm_G.s1 rfl (qm_x_iload rfl) ?_
            refine qm_G.s1 rfl (qm_x_iald (v := (J 73 0 2)) (qm_arS hS rfl rfl) rfl (by decide) (by decide) (by decide) rfl) ?_
            refine qm_G.s1 rfl (qm_x_istore (lv' := [(5, qm_I (qm_i (J 73 0 2))), (0, qm_R (some (0, 61, 0))), (1, qm_I (qm_i 2)), (2, qm_I (qm_i a2)), (3, qm_L (((qm_l a3) <<< ((qm_i 32).toInt64 &&& 63)) ||| ((qm_l a4) &&& (qm_l 4294967295))))]) rfl) ?_
            refine qm_G.s1 rfl (qm_x_aload rfl) ?_
            refine qm_G.s1 rfl (qm_x_getfR (q := (some (0, 75, 0))) (hS 61 rfl) (hR 61 22 75 rfl rfl)) ?_
            refine qm_G.s1 rfl (qm_x_pushI 60 rfl) ?_
            refine qm_G.s1 rfl (qm_x_iload rfl) ?_
            refine qm_G.s1 rfl (qm_x_imul) ?_
            refine qm_G.s1 rfl (qm_x_iload rfl) ?_
            refine qm_G.s1 rfl (qm_x_iadd) ?_
            refine qm_G.s1 rfl (qm_x_iload rfl) ?_
            refine qm_G.s1 rfl (qm_x_pushI 1 rfl) ?_
            refine qm_G.s1 rfl (qm_x_icmp_ne_t ⟨by omega, by omega⟩ ⟨by decide, by decide⟩ (by omega)) ?_
            refine qm_G.sp (lv1 := [(3, qm_L (((qm_l a3) <<< ((qm_i 32).toInt64 &&& 63)) ||| ((qm_l a4) &&& (qm_l 4294967295)))), (5, qm_I (qm_i (J 73 0 2)))]) rfl rfl (qm_x_iload rfl) ?_
            refine qm_G.s1 rfl (qm_x_pushI 2 rfl) ?_
            refine qm_G.s1 rfl (qm_x_icmp_ne_t ⟨by omega, by omega⟩ ⟨by decide, by decide⟩ (by omega)) ?_
            refine qm_G.sp (lv1 := [(3, qm_L (((qm_l a3) <<< ((qm_i 32).toInt64 &&& 63)) ||| ((qm_l a4) &&& (qm_l 4294967295)))), (5, qm_I (qm_i (J 73 0 2)))]) rfl rfl (qm_x_iload rfl) ?_
            refine qm_G.s1 rfl (qm_x_pushI 3 rfl) ?_
            refine qm_G.s1 rfl (qm_x_icmp_ne_t ⟨by omega, by omega⟩ ⟨by decide, by decide⟩ (by omega)) ?_
            refine qm_G.sp (lv1 := [(3, qm_L (((qm_l a3) <<< ((qm_i 32).toInt64 &&& 63)) ||| ((qm_l a4) &&& (qm_l 4294967295)))), (5, qm_I (qm_i (J 73 0 2)))]) rfl rfl (qm_x_iload rfl) ?_
            refine qm_G.s1 rfl (qm_x_pushI 4 rfl) ?_
            refine qm_G.s1 rfl (qm_x_icmp_ne_t ⟨by omega, by omega⟩ ⟨by decide, by decide⟩ (by omega)) ?_
            refine qm_G.sp (lv1 := [(3, qm_L (((qm_l a3) <<< ((qm_i 32).toInt64 &&& 63)) ||| ((qm_l a4) &&& (qm_l 4294967295))))]) rfl rfl (qm_x_lload rfl) ?_
            refine qm_G.s1 rfl (qm_x_pushL 0 rfl) ?_
            refine qm_G.s1 rfl (qm_x_lcmp_gt c88) ?_
            refine qm_G.s1 rfl (qm_x_if_eq_f ⟨by decide, by decide⟩ (by decide)) ?_
            refine qm_G.s1 rfl (qm_x_pushL 1 rfl) ?_
            refine qm_G.s1 rfl (qm_x_goto) ?_
            refine qm_G.sp (lv1 := []) rfl rfl (qm_x_last (qm_arS hS rfl rfl) rfl (by omega) (by omega) (by decide)) ?_
            refine qm_G.s1 rfl (qm_x_pushI 1 rfl) ?_
            refine qm_G.ret rfl rfl ⟨_, rfl, ?_⟩
            refine qm_G.s1 rfl (qm_x_icmp_eq_t ⟨by decide, by decide⟩ ⟨by decide, by decide⟩ (by decide)) ?_
            rw [show (Int.toNat ((60 * 2) + a2)) = 120 + (Int.toNat a2) by omega]
            exact ih _ _ _ _ _ _ (qm_U_itm2 (by omega) hI)
      · refine qm_G.s1 rfl (qm_x_if_ne_f ⟨by decide, by decide⟩ (by decide)) ?_
        refine qm_G.s1 rfl (qm_x_pushI (-13) rfl) ?_
        refine qm_G.ret rfl rfl ⟨_, rfl, ?_⟩
        refine qm_G.s1 rfl (qm_x_aload rfl) ?_
        refine qm_G.s1 rfl (qm_x_aload rfl) ?_
        refine qm_G.s1 rfl (qm_x_iload rfl) ?_
        refine qm_G.s1 rfl (qm_x_pushI 1 rfl) ?_
        refine qm_G.s1 rfl (qm_x_iadd) ?_
        refine qm_G.s1 rfl (qm_x_iald2v (v := 2) (by omega) (by omega) hX e1) ?_
        refine qm_G.s1 rfl (qm_x_aload rfl) ?_
        refine qm_G.s1 rfl (qm_x_iload rfl) ?_
        refine qm_G.s1 rfl (qm_x_pushI 2 rfl) ?_
        refine qm_G.s1 rfl (qm_x_iadd) ?_
        refine qm_G.s1 rfl (qm_x_iald2v (v := a2) (by omega) (by omega) hX e2) ?_
        refine qm_G.s1 rfl (qm_x_aload rfl) ?_
        refine qm_G.s1 rfl (qm_x_iload rfl) ?_
        refine qm_G.s1 rfl (qm_x_pushI 3 rfl) ?_
        refine qm_G.s1 rfl (qm_x_iadd) ?_
        refine qm_G.s1 rfl (qm_x_iald2v (v := a3) (by omega) (by omega) hX e3) ?_
        refine qm_G.s1 rfl (qm_x_i2l ⟨by omega, by omega⟩) ?_
        refine qm_G.s1 rfl (qm_x_pushI 32 rfl) ?_
        refine qm_G.s1 rfl (qm_x_lshl) ?_
        refine qm_G.s1 rfl (qm_x_aload rfl) ?_
        refine qm_G.s1 rfl (qm_x_iload rfl) ?_
        refine qm_G.s1 rfl (qm_x_pushI 4 rfl) ?_
        refine qm_G.s1 rfl (qm_x_iadd) ?_
        refine qm_G.s1 rfl (qm_x_iald2v (v := a4) (by omega) (by omega) hX e4) ?_
        refine qm_G.s1 rfl (qm_x_i2l ⟨by omega, by omega⟩) ?_
        refine qm_G.s1 rfl (qm_x_pushL 4294967295 rfl) ?_
        refine qm_G.s1 rfl (qm_x_land) ?_
        refine qm_G.s1 rfl (qm_x_lor) ?_
        refine qm_G.cm rfl rfl (hS 61 rfl) rfl ?_
        refine qm_C.go (cd := qm_P125) (lv := [(0, qm_R (some (0, 61, 0))), (1, qm_I (qm_i 2)), (2, qm_I (qm_i a2)), (3, qm_L (((qm_l a3) <<< ((qm_i 32).toInt64 &&& 63)) ||| ((qm_l a4) &&& (qm_l 4294967295))))]) rfl rfl ?_
        refine qm_G.s1 rfl (qm_x_iload rfl) ?_
        refine qm_G.cs rfl rfl rfl ?_
        refine qm_C.go (cd := qm_P86) (lv := [(0, qm_I (qm_i 2))]) rfl rfl ?_
        refine qm_G.s1 rfl (qm_x_iload rfl) ?_
        refine qm_G.s1 rfl (qm_x_pushI 0 rfl) ?_
        refine qm_G.s1 rfl (qm_x_pushI 5 rfl) ?_
        refine qm_G.cs rfl rfl rfl ?_
        refine qm_v_within11_t ⟨by decide, by decide⟩ ⟨by decide, by decide⟩ ⟨by decide, by decide⟩ (by decide) ⟨_, rfl, ?_⟩
        refine qm_G.ret rfl rfl ⟨_, rfl, ?_⟩
        refine qm_G.s1 rfl (qm_x_if_ne_t ⟨by decide, by decide⟩ (by decide)) ?_
        refine qm_G.sp (lv1 := [(0, qm_R (some (0, 61, 0))), (1, qm_I (qm_i 2)), (2, qm_I (qm_i a2)), (3, qm_L (((qm_l a3) <<< ((qm_i 32).toInt64 &&& 63)) ||| ((qm_l a4) &&& (qm_l 4294967295))))]) rfl rfl (qm_x_aload rfl) ?_
        refine qm_G.s1 rfl (qm_x_getfR (q := (some (0, 73, 0))) (hS 61 rfl) (hR 61 20 73 rfl rfl)) ?_
        refine qm_G.s1 rfl (qm_x_iload rfl) ?_
        refine qm_G.s1 rfl (qm_x_iald (v := (J 73 0 2)) (qm_arS hS rfl rfl) rfl (by decide) (by decide) (by decide) rfl) ?_
        refine qm_G.s1 rfl (qm_x_if_ne_t ⟨by omega, by omega⟩ (by omega)) ?_
        refine qm_G.sp (lv1 := [(0, qm_R (some (0, 61, 0))), (1, qm_I (qm_i 2)), (2, qm_I (qm_i a2)), (3, qm_L (((qm_l a3) <<< ((qm_i 32).toInt64 &&& 63)) ||| ((qm_l a4) &&& (qm_l 4294967295))))]) rfl rfl (qm_x_iload rfl) ?_
        refine qm_G.s1 rfl (qm_x_pushI 0 rfl) ?_
        refine qm_G.s1 rfl (qm_x_aload rfl) ?_
        refine qm_G.s1 rfl (qm_x_getfR (q := (some (0, 74, 0))) (hS 61 rfl) (hR 61 21 74 rfl rfl)) ?_
        refine qm_G.s1 rfl (qm_x_iload rfl) ?_
        refine qm_G.s1 rfl (qm_x_iald (v := (J 74 0 2)) (qm_arS hS rfl rfl) rfl (by decide) (by decide) (by decide) rfl) ?_
        refine qm_G.s1 rfl (qm_x_pushI 1 rfl) ?_
        refine qm_G.s1 rfl (qm_x_isub) ?_
        refine qm_G.cs rfl rfl rfl ?_
        refine qm_v_within11_f ⟨by omega, by omega⟩ ⟨by decide, by decide⟩ ⟨by omega, by omega⟩ (by omega) ⟨_, rfl, ?_⟩
        refine qm_G.s1 rfl (qm_x_if_ne_f ⟨by decide, by decide⟩ (by decide)) ?_
        refine qm_G.s1 rfl (qm_x_pushI (-13) rfl) ?_
        refine qm_G.ret rfl rfl ⟨_, rfl, ?_⟩
        refine qm_G.s1 rfl (qm_x_icmp_eq_t ⟨by decide, by decide⟩ ⟨by decide, by decide⟩ (by decide)) ?_
        exact ih _ _ _ _ _ _ hI.next
    · refine qm_G.s1 rfl (qm_x_pushI (-11) rfl) ?_
      refine qm_G.ret rfl rfl ⟨_, rfl, ?_⟩
      refine qm_G.s1 rfl (qm_x_aload rfl) ?_
      refine qm_G.s1 rfl (qm_x_aload rfl) ?_
      refine qm_G.s1 rfl (qm_x_iload rfl) ?_
      refine qm_G.s1 rfl (qm_x_pushI 1 rfl) ?_
      refine qm_G.s1 rfl (qm_x_iadd) ?_
      refine qm_G.s1 rfl (qm_x_iald2v (v := 2) (by omega) (by omega) hX e1) ?_
      refine qm_G.s1 rfl (qm_x_aload rfl) ?_
      refine qm_G.s1 rfl (qm_x_iload rfl) ?_
      refine qm_G.s1 rfl (qm_x_pushI 2 rfl) ?_
      refine qm_G.s1 rfl (qm_x_iadd) ?_
      refine qm_G.s1 rfl (qm_x_iald2v (v := a2) (by omega) (by omega) hX e2) ?_
      refine qm_G.s1 rfl (qm_x_aload rfl) ?_
      refine qm_G.s1 rfl (qm_x_iload rfl) ?_
      refine qm_G.s1 rfl (qm_x_pushI 3 rfl) ?_
      refine qm_G.s1 rfl (qm_x_iadd) ?_
      refine qm_G.s1 rfl (qm_x_iald2v (v := a3) (by omega) (by omega) hX e3) ?_
      refine qm_G.s1 rfl (qm_x_i2l ⟨by omega, by omega⟩) ?_
      refine qm_G.s1 rfl (qm_x_pushI 32 rfl) ?_
      refine qm_G.s1 rfl (qm_x_lshl) ?_
      refine qm_G.s1 rfl (qm_x_aload rfl) ?_
      refine qm_G.s1 rfl (qm_x_iload rfl) ?_
      refine qm_G.s1 rfl (qm_x_pushI 4 rfl) ?_
      refine qm_G.s1 rfl (qm_x_iadd) ?_
      refine qm_G.s1 rfl (qm_x_iald2v (v := a4) (by omega) (by omega) hX e4) ?_
      refine qm_G.s1 rfl (qm_x_i2l ⟨by omega, by omega⟩) ?_
      refine qm_G.s1 rfl (qm_x_pushL 4294967295 rfl) ?_
      refine qm_G.s1 rfl (qm_x_land) ?_
      refine qm_G.s1 rfl (qm_x_lor) ?_
      refine qm_G.cm rfl rfl (hS 61 rfl) rfl ?_
      refine qm_C.go (cd := qm_P125) (lv := [(0, qm_R (some (0, 61, 0))), (1, qm_I (qm_i 2)), (2, qm_I (qm_i a2)), (3, qm_L (((qm_l a3) <<< ((qm_i 32).toInt64 &&& 63)) ||| ((qm_l a4) &&& (qm_l 4294967295))))]) rfl rfl ?_
      refine qm_G.s1 rfl (qm_x_iload rfl) ?_
      refine qm_G.cs rfl rfl rfl ?_
      refine qm_C.go (cd := qm_P86) (lv := [(0, qm_I (qm_i 2))]) rfl rfl ?_
      refine qm_G.s1 rfl (qm_x_iload rfl) ?_
      refine qm_G.s1 rfl (qm_x_pushI 0 rfl) ?_
      refine qm_G.s1 rfl (qm_x_pushI 5 rfl) ?_
      refine qm_G.cs rfl rfl rfl ?_
      refine qm_v_within11_t ⟨by decide, by decide⟩ ⟨by decide, by decide⟩ ⟨by decide, by decide⟩ (by decide) ⟨_, rfl, ?_⟩
      refine qm_G.ret rfl rfl ⟨_, rfl, ?_⟩
      refine qm_G.s1 rfl (qm_x_if_ne_t ⟨by decide, by decide⟩ (by decide)) ?_
      refine qm_G.sp (lv1 := [(0, qm_R (some (0, 61, 0))), (1, qm_I (qm_i 2)), (2, qm_I (qm_i a2)), (3, qm_L (((qm_l a3) <<< ((qm_i 32).toInt64 &&& 63)) ||| ((qm_l a4) &&& (qm_l 4294967295))))]) rfl rfl (qm_x_aload rfl) ?_
      refine qm_G.s1 rfl (qm_x_getfR (q := (some (0, 73, 0))) (hS 61 rfl) (hR 61 20 73 rfl rfl)) ?_
      refine qm_G.s1 rfl (qm_x_iload rfl) ?_
      refine qm_G.s1 rfl (qm_x_iald (v := (J 73 0 2)) (qm_arS hS rfl rfl) rfl (by decide) (by decide) (by decide) rfl) ?_
      refine qm_G.s1 rfl (qm_x_if_ne_f ⟨by omega, by omega⟩ (by omega)) ?_
      refine qm_G.s1 rfl (qm_x_pushI (-11) rfl) ?_
      refine qm_G.ret rfl rfl ⟨_, rfl, ?_⟩
      refine qm_G.s1 rfl (qm_x_icmp_eq_t ⟨by decide, by decide⟩ ⟨by decide, by decide⟩ (by decide)) ?_
      exact ih _ _ _ _ _ _ hI.next
  · subst d1
    refine qm_G.sp (lv1 := [(0, qm_R (some (2, 0, 0))), (1, qm_R (some (0, 0, 0))), (2, qm_R (some (0, 61, 0))), (3, qm_I (qm_i z))]) rfl rfl (qm_x_aload rfl) ?_
    refine qm_G.s1 rfl (qm_x_aload rfl) ?_
    refine qm_G.s1 rfl (qm_x_iload rfl) ?_
    refine qm_G.s1 rfl (qm_x_pushI 1 rfl) ?_
    refine qm_G.s1 rfl (qm_x_iadd) ?_
    refine qm_G.s1 rfl (qm_x_iald2v (v := 3) (by omega) (by omega) hX e1) ?_
    refine qm_G.s1 rfl (qm_x_aload rfl) ?_
    refine qm_G.s1 rfl (qm_x_iload rfl) ?_
    refine qm_G.s1 rfl (qm_x_pushI 2 rfl) ?_
    refine qm_G.s1 rfl (qm_x_iadd) ?_
    refine qm_G.s1 rfl (qm_x_iald2v (v := a2) (by omega) (by omega) hX e2) ?_
    refine qm_G.s1 rfl (qm_x_aload rfl) ?_
    refine qm_G.s1 rfl (qm_x_iload rfl) ?_
    refine qm_G.s1 rfl (qm_x_pushI 3 rfl) ?_
    refine qm_G.s1 rfl (qm_x_iadd) ?_
    refine qm_G.s1 rfl (qm_x_iald2v (v := a3) (by omega) (by omega) hX e3) ?_
    refine qm_G.s1 rfl (qm_x_i2l ⟨by omega, by omega⟩) ?_
    refine qm_G.s1 rfl (qm_x_pushI 32 rfl) ?_
    refine qm_G.s1 rfl (qm_x_lshl) ?_
    refine qm_G.s1 rfl (qm_x_aload rfl) ?_
    refine qm_G.s1 rfl (qm_x_iload rfl) ?_
    refine qm_G.s1 rfl (qm_x_pushI 4 rfl) ?_
    refine qm_G.s1 rfl (qm_x_iadd) ?_
    refine qm_G.s1 rfl (qm_x_iald2v (v := a4) (by omega) (by omega) hX e4) ?_
    refine qm_G.s1 rfl (qm_x_i2l ⟨by omega, by omega⟩) ?_
    refine qm_G.s1 rfl (qm_x_pushL 4294967295 rfl) ?_
    refine qm_G.s1 rfl (qm_x_land) ?_
    refine qm_G.s1 rfl (qm_x_lor) ?_
    refine qm_G.cm rfl rfl (hS 0 rfl) rfl ?_
    refine qm_C.go (cd := qm_P114) (lv := [(0, qm_R (some (0, 0, 0))), (1, qm_I (qm_i 3)), (2, qm_I (qm_i a2)), (3, qm_L (((qm_l a3) <<< ((qm_i 32).toInt64 &&& 63)) ||| ((qm_l a4) &&& (qm_l 4294967295))))]) rfl rfl ?_
    refine qm_G.s1 rfl (qm_x_iload rfl) ?_
    refine qm_G.cs rfl rfl rfl ?_
    refine qm_C.go (cd := qm_P76) (lv := [(0, qm_I (qm_i 3))]) rfl rfl ?_
    refine qm_G.s1 rfl (qm_x_iload rfl) ?_
    refine qm_G.s1 rfl (qm_x_pushI 0 rfl) ?_
    refine qm_G.s1 rfl (qm_x_pushI 5 rfl) ?_
    refine qm_G.cs rfl rfl rfl ?_
    refine qm_v_within10_t ⟨by decide, by decide⟩ ⟨by decide, by decide⟩ ⟨by decide, by decide⟩ (by decide) ⟨_, rfl, ?_⟩
    refine qm_G.ret rfl rfl ⟨_, rfl, ?_⟩
    refine qm_G.s1 rfl (qm_x_if_ne_t ⟨by decide, by decide⟩ (by decide)) ?_
    refine qm_G.sp (lv1 := [(0, qm_R (some (0, 0, 0))), (1, qm_I (qm_i 3)), (2, qm_I (qm_i a2)), (3, qm_L (((qm_l a3) <<< ((qm_i 32).toInt64 &&& 63)) ||| ((qm_l a4) &&& (qm_l 4294967295))))]) rfl rfl (qm_x_aload rfl) ?_
    refine qm_G.s1 rfl (qm_x_getfR (q := (some (0, 46, 0))) (hS 0 rfl) (hR 0 5 46 rfl rfl)) ?_
    refine qm_G.s1 rfl (qm_x_iload rfl) ?_
    refine qm_G.s1 rfl (qm_x_aaldr (q := (some (0, 55, 0))) (hS 46 rfl) rfl rfl (by decide) (by decide) (hR 46 3 55 rfl rfl)) ?_
    refine qm_G.s1 rfl (qm_x_astore (lv' := [(5, qm_R (some (0, 55, 0))), (0, qm_R (some (0, 0, 0))), (1, qm_I (qm_i 3)), (2, qm_I (qm_i a2)), (3, qm_L (((qm_l a3) <<< ((qm_i 32).toInt64 &&& 63)) ||| ((qm_l a4) &&& (qm_l 4294967295))))]) rfl) ?_
    refine qm_G.s1 rfl (qm_x_aload rfl) ?_
    have f73_3 : 0 ≤ J 73 0 3 ∧ J 73 0 3 ≤ 5 := (hI.srt 3 (by decide)).2
    have f55_1 : J 55 0 1 = J 73 0 3 - 1 := (hI.srt 3 (by decide)).1
    refine qm_G.s1 rfl (qm_x_getfI (v := (J 55 0 1)) (hS 55 rfl) rfl) ?_
    refine qm_G.s1 rfl (qm_x_pushI (-1) rfl) ?_
    refine qm_y_icmp_ne rfl ⟨by omega, by omega⟩ ⟨by decide, by decide⟩ (fun c99 => ?_) (fun c99 => ?_)
    · refine qm_G.sp (lv1 := [(2, qm_I (qm_i a2)), (3, qm_L (((qm_l a3) <<< ((qm_i 32).toInt64 &&& 63)) ||| ((qm_l a4) &&& (qm_l 4294967295)))), (5, qm_R (some (0, 55, 0)))]) rfl rfl (qm_x_iload rfl) ?_
      refine qm_G.s1 rfl (qm_x_pushI 0 rfl) ?_
      refine qm_G.s1 rfl (qm_x_aload rfl) ?_
      have f74_3 : 0 ≤ J 74 0 3 ∧ J 74 0 3 ≤ 60 := ⟨(hI.len 3 (by decide)).2.1, (hI.len 3 (by decide)).2.2.1⟩
      have f55_2 : J 55 0 2 = J 74 0 3 := (hI.len 3 (by decide)).1
      refine qm_G.s1 rfl (qm_x_getfI (v := (J 55 0 2)) (hS 55 rfl) rfl) ?_
      refine qm_G.s1 rfl (qm_x_pushI 1 rfl) ?_
      refine qm_G.s1 rfl (qm_x_isub) ?_
      refine qm_G.cs rfl rfl rfl ?_
      refine qm_v_within10 ⟨by omega, by omega⟩ ⟨by decide, by decide⟩ ⟨by omega, by omega⟩ (fun c100 => ⟨_, rfl, ?_⟩) (fun c100 => ⟨_, rfl, ?_⟩)
      · refine qm_G.s1 rfl (qm_x_if_ne_t ⟨by decide, by decide⟩ (by decide)) ?_
        refine qm_G.sp (lv1 := [(2, qm_I (qm_i a2)), (3, qm_L (((qm_l a3) <<< ((qm_i 32).toInt64 &&& 63)) ||| ((qm_l a4) &&& (qm_l 4294967295)))), (5, qm_R (some (0, 55, 0)))]) rfl rfl (qm_x_aload rfl) ?_
        refine qm_G.s1 rfl (qm_x_getfR (q := (some (0, 56, 0))) (hS 55 rfl) (hR 55 0 56 rfl rfl)) ?_
        refine qm_G.s1 rfl (qm_x_iload rfl) ?_
        refine qm_G.s1 rfl (qm_x_aload rfl) ?_
        refine qm_G.s1 rfl (qm_x_lload rfl) ?_
        refine qm_G.cm rfl rfl (hS 55 rfl) rfl ?_
        refine qm_C.go (cd := qm_P49) (lv := [(0, qm_R (some (0, 55, 0))), (1, qm_L (((qm_l a3) <<< ((qm_i 32).toInt64 &&& 63)) ||| ((qm_l a4) &&& (qm_l 4294967295))))]) rfl rfl ?_
        refine qm_G.s1 rfl (qm_x_aload rfl) ?_
        refine qm_G.s1 rfl (qm_x_getfI (v := (J 55 0 1)) (hS 55 rfl) rfl) ?_
        rcases (show J 55 0 1 = 0 ∨ J 55 0 1 = 1 ∨ J 55 0 1 = 2 ∨ J 55 0 1 = 3 ∨ (J 55 0 1 < 0 ∨ 4 ≤ J 55 0 1) by omega) with c101 | c101 | c101 | c101 | c101
        · refine qm_G.s1 rfl (qm_x_tsweq (v := 0) (t := 36) c101 rfl) ?_
          refine qm_G.sp (lv1 := [(1, qm_L (((qm_l a3) <<< ((qm_i 32).toInt64 &&& 63)) ||| ((qm_l a4) &&& (qm_l 4294967295))))]) rfl rfl (qm_x_lload rfl) ?_
          refine qm_G.s1 rfl (qm_x_l2ir) ?_
          have g102 : qm_sm ((((qm_l a3) <<< ((qm_i 32).toInt64 &&& 63)) ||| ((qm_l a4) &&& (qm_l 4294967295))).toInt32.toInt) := qm_i_sml _
          refine qm_G.s1 rfl (qm_x_i2br) ?_
          have g103 : qm_sm ((qm_i ((((qm_l a3) <<< ((qm_i 32).toInt64 &&& 63)) ||| ((qm_l a4) &&& (qm_l 4294967295))).toInt32.toInt)).toInt8.toInt) := qm_sm8 _
          refine qm_G.s1 rfl (qm_x_i2l ⟨by omega, by omega⟩) ?_
          refine qm_G.ret rfl rfl ⟨_, rfl, ?_⟩
          refine qm_G.s1 rfl (qm_x_last (qm_arS hS rfl rfl) rfl (by omega) (by omega) (by decide)) ?_
          refine qm_G.s1 rfl (qm_x_pushI 1 rfl) ?_
          refine qm_G.ret rfl rfl ⟨_, rfl, ?_⟩
          refine qm_G.s1 rfl (qm_x_aload rfl) ?_
          refine qm_G.s1 rfl (qm_x_aload rfl) ?_
          refine qm_G.s1 rfl (qm_x_iload rfl) ?_
          refine qm_G.s1 rfl (qm_x_pushI 1 rfl) ?_
          refine qm_G.s1 rfl (qm_x_iadd) ?_
          refine qm_G.s1 rfl (qm_x_iald2v (v := 3) (by omega) (by omega) hX e1) ?_
          refine qm_G.s1 rfl (qm_x_aload rfl) ?_
          refine qm_G.s1 rfl (qm_x_iload rfl) ?_
          refine qm_G.s1 rfl (qm_x_pushI 2 rfl) ?_
          refine qm_G.s1 rfl (qm_x_iadd) ?_
          refine qm_G.s1 rfl (qm_x_iald2v (v := a2) (by omega) (by omega) hX e2) ?_
          refine qm_G.s1 rfl (qm_x_aload rfl) ?_
          refine qm_G.s1 rfl (qm_x_iload rfl) ?_
          refine qm_G.s1 rfl (qm_x_pushI 3 rfl) ?_
          refine qm_G.s1 rfl (qm_x_iadd) ?_
          refine qm_G.s1 rfl (qm_x_iald2v (v := a3) (by omega) (by omega) hX e3) ?_
          refine qm_G.s1 rfl (qm_x_i2l ⟨by omega, by omega⟩) ?_
          refine qm_G.s1 rfl (qm_x_pushI 32 rfl) ?_
          refine qm_G.s1 rfl (qm_x_lshl) ?_
          refine qm_G.s1 rfl (qm_x_aload rfl) ?_
          refine qm_G.s1 rfl (qm_x_iload rfl) ?_
          refine qm_G.s1 rfl (qm_x_pushI 4 rfl) ?_
          refine qm_G.s1 rfl (qm_x_iadd) ?_
          refine qm_G.s1 rfl (qm_x_iald2v (v := a4) (by omega) (by omega) hX e4) ?_
          refine qm_G.s1 rfl (qm_x_i2l ⟨by omega, by omega⟩) ?_
          refine qm_G.s1 rfl (qm_x_pushL 4294967295 rfl) ?_
          refine qm_G.s1 rfl (qm_x_land) ?_
          refine qm_G.s1 rfl (qm_x_lor) ?_
          refine qm_G.cm rfl rfl (hS 61 rfl) rfl ?_
          refine qm_C.go (cd := qm_P125) (lv := [(0, qm_R (some (0, 61, 0))), (1, qm_I (qm_i 3)), (2, qm_I (qm_i a2)), (3, qm_L (((qm_l a3) <<< ((qm_i 32).toInt64 &&& 63)) ||| ((qm_l a4) &&& (qm_l 4294967295))))]) rfl rfl ?_
          refine qm_G.s1 rfl (qm_x_iload rfl) ?_
          refine qm_G.cs rfl rfl rfl ?_
          refine qm_C.go (cd := qm_P86) (lv := [(0, qm_I (qm_i 3))]) rfl rfl ?_
          refine qm_G.s1 rfl (qm_x_iload rfl) ?_
          refine qm_G.s1 rfl (qm_x_pushI 0 rfl) ?_
          refine qm_G.s1 rfl (qm_x_pushI 5 rfl) ?_
          refine qm_G.cs rfl rfl rfl ?_
          refine qm_v_within11_t ⟨by decide, by decide⟩ ⟨by decide, by decide⟩ ⟨by decide, by decide⟩ (by decide) ⟨_, rfl, ?_⟩
          refine qm_G.ret rfl rfl ⟨_, rfl, ?_⟩
          refine qm_G.s1 rfl (qm_x_if_ne_t ⟨by decide, by decide⟩ (by decide)) ?_
          refine qm_G.sp (lv1 := [(0, qm_R (some (0, 61, 0))), (1, qm_I (qm_i 3)), (2, qm_I (qm_i a2)), (3, qm_L (((qm_l a3) <<< ((qm_i 32).toInt64 &&& 63)) ||| ((qm_l a4) &&& (qm_l 4294967295))))]) rfl rfl (qm_x_aload rfl) ?_
          refine qm_G.s1 rfl (qm_x_getfR (q := (some (0, 73, 0))) (hS 61 rfl) (hR 61 20 73 rfl rfl)) ?_
          refine qm_G.s1 rfl (qm_x_iload rfl) ?_
          refine qm_G.s1 rfl (qm_x_iald (v := (J 73 0 3)) (qm_arS hS rfl rfl) rfl (by decide) (by decide) (by decide) rfl) ?_
          refine qm_G.s1 rfl (qm_x_if_ne_t ⟨by omega, by omega⟩ (by omega)) ?_
          refine qm_G.sp (lv1 := [(0, qm_R (some (0, 61, 0))), (1, qm_I (qm_i 3)), (2, qm_I (qm_i a2)), (3, qm_L (((qm_l a3) <<< ((qm_i 32).toInt64 &&& 63)) ||| ((qm_l a4) &&& (qm_l 4294967295))))]) rfl rfl (qm_x_iload rfl) ?_
          refine qm_G.s1 rfl (qm_x_pushI 0 rfl) ?_
          refine qm_G.s1 rfl (qm_x_aload rfl) ?_
          refine qm_G.s1 rfl (qm_x_getfR (q := (some (0, 74, 0))) (hS 61 rfl) (hR 61 21 74 rfl rfl)) ?_
          refine qm_G.s1 rfl (qm_x_iload rfl) ?_
          refine qm_G.s1 rfl (qm_x_iald (v := (J 74 0 3)) (qm_arS hS rfl rfl) rfl (by decide) (by decide) (by decide) rfl) ?_
          refine qm_G.s1 rfl (qm_x_pushI 1 rfl) ?_
          refine qm_G.s1 rfl (qm_x_isub) ?_
          refine qm_G.cs rfl rfl rfl ?_
          refine qm_v_within11_t ⟨by omega, by omega⟩ ⟨by decide, by decide⟩ ⟨by omega, by omega⟩ (by omega) ⟨_, rfl, ?_⟩
          refine qm_G.s1 rfl (qm_x_if_ne_t ⟨by decide, by decide⟩ (by decide)) ?_
          refine qm_G.sp (lv1 := [(0, qm_R (some (0, 61, 0))), (1, qm_I (qm_i 3)), (2, qm_I (qm_i a2)), (3, qm_L (((qm_l a3) <<< ((qm_i 32).toInt64 &&& 63)) ||| ((qm_l a4) &&& (qm_l 4294967295))))]) rfl rfl (qm_x_aload rfl) ?_
          refine qm_G.s1 rfl (qm_x_getfR (q := (some (0, 73, 0))) (hS 61 rfl) (hR 61 20 73 rfl rfl)) ?_
          refine qm_G.s1 rfl (qm_x_iload rfl) ?_
          refine qm_G.s1 rfl (qm_x_iald (v := (J 73 0 3)) (qm_arS hS rfl rfl) rfl (by decide) (by decide) (by decide) rfl) ?_
          refine qm_G.s1 rfl (qm_x_istore (lv' := [(5, qm_I (qm_i (J 73 0 3))), (0, qm_R (some (0, 61, 0))), (1, qm_I (qm_i 3)), (2, qm_I (qm_i a2)), (3, qm_L (((qm_l a3) <<< ((qm_i 32).toInt64 &&& 63)) ||| ((qm_l a4) &&& (qm_l 4294967295))))]) rfl) ?_
          refine qm_G.s1 rfl (qm_x_aload rfl) ?_
          refine qm_G.s1 rfl (qm_x_getfR (q := (some (0, 75, 0))) (hS 61 rfl) (hR 61 22 75 rfl rfl)) ?_
          refine qm_G.s1 rfl (qm_x_pushI 60 rfl) ?_
          refine qm_G.s1 rfl (qm_x_iload rfl) ?_
          refine qm_G.s1 rfl (qm_x_imul) ?_
          refine qm_G.s1 rfl (qm_x_iload rfl) ?_
          refine qm_G.s1 rfl (qm_x_iadd) ?_
          refine qm_G.s1 rfl (qm_x_iload rfl) ?_
          refine qm_G.s1 rfl (qm_x_pushI 1 rfl) ?_
          refine qm_G.s1 rfl (qm_x_icmp_ne_f ⟨by omega, by omega⟩ ⟨by decide, by decide⟩ (by omega)) ?_
          refine qm_G.s1 rfl (qm_x_lload rfl) ?_
          refine qm_G.s1 rfl (qm_x_l2ir) ?_
          have g106 : qm_sm ((((qm_l a3) <<< ((qm_i 32).toInt64 &&& 63)) ||| ((qm_l a4) &&& (qm_l 4294967295))).toInt32.toInt) := qm_i_sml _
          refine qm_G.s1 rfl (qm_x_i2br) ?_
          have g107 : qm_sm ((qm_i ((((qm_l a3) <<< ((qm_i 32).toInt64 &&& 63)) ||| ((qm_l a4) &&& (qm_l 4294967295))).toInt32.toInt)).toInt8.toInt) := qm_sm8 _
          refine qm_G.s1 rfl (qm_x_i2l ⟨by omega, by omega⟩) ?_
          refine qm_G.s1 rfl (qm_x_goto) ?_
          refine qm_G.sp (lv1 := []) rfl rfl (qm_x_last (qm_arS hS rfl rfl) rfl (by omega) (by omega) (by decide)) ?_
          refine qm_G.s1 rfl (qm_x_pushI 1 rfl) ?_
          refine qm_G.ret rfl rfl ⟨_, rfl, ?_⟩
          refine qm_G.s1 rfl (qm_x_icmp_eq_t ⟨by decide, by decide⟩ ⟨by decide, by decide⟩ (by decide)) ?_
          rw [show (Int.toNat ((60 * 3) + a2)) = 180 + (Int.toNat a2) by omega]
          exact ih _ _ _ _ _ _ (qm_U_itm3 (by omega) hI)
        · refine qm_G.s1 rfl (qm_x_tsweq (v := 1) (t := 41) c101 rfl) ?_
          refine qm_G.sp (lv1 := [(1, qm_L (((qm_l a3) <<< ((qm_i 32).toInt64 &&& 63)) ||| ((qm_l a4) &&& (qm_l 4294967295))))]) rfl rfl (qm_x_lload rfl) ?_
          refine qm_G.s1 rfl (qm_x_l2ir) ?_
          have g108 : qm_sm ((((qm_l a3) <<< ((qm_i 32).toInt64 &&& 63)) ||| ((qm_l a4) &&& (qm_l 4294967295))).toInt32.toInt) := qm_i_sml _
          refine qm_G.s1 rfl (qm_x_i2sr) ?_
          have g109 : qm_sm ((qm_i ((((qm_l a3) <<< ((qm_i 32).toInt64 &&& 63)) ||| ((qm_l a4) &&& (qm_l 4294967295))).toInt32.toInt)).toInt16.toInt) := qm_sm16 _
          refine qm_G.s1 rfl (qm_x_i2l ⟨by omega, by omega⟩) ?_
          refine qm_G.ret rfl rfl ⟨_, rfl, ?_⟩
          refine qm_G.s1 rfl (qm_x_last (qm_arS hS rfl rfl) rfl (by omega) (by omega) (by decide)) ?_
          refine qm_G.s1 rfl (qm_x_pushI 1 rfl) ?_
          refine qm_G.ret rfl rfl ⟨_, rfl, ?_⟩
          refine qm_G.s1 rfl (qm_x_aload rfl) ?_
          refine qm_G.s1 rfl (qm_x_aload rfl) ?_
          refine qm_G.s1 rfl (qm_x_iload rfl) ?_
          refine qm_G.s1 rfl (qm_x_pushI 1 rfl) ?_
          refine qm_G.s1 rfl (qm_x_iadd) ?_
          refine qm_G.s1 rfl (qm_x_iald2v (v := 3) (by omega) (by omega) hX e1) ?_
          refine qm_G.s1 rfl (qm_x_aload rfl) ?_
          refine qm_G.s1 rfl (qm_x_iload rfl) ?_
          refine qm_G.s1 rfl (qm_x_pushI 2 rfl) ?_
          refine qm_G.s1 rfl (qm_x_iadd) ?_
          refine qm_G.s1 rfl (qm_x_iald2v (v := a2) (by omega) (by omega) hX e2) ?_
          refine qm_G.s1 rfl (qm_x_aload rfl) ?_
          refine qm_G.s1 rfl (qm_x_iload rfl) ?_
          refine qm_G.s1 rfl (qm_x_pushI 3 rfl) ?_
          refine qm_G.s1 rfl (qm_x_iadd) ?_
          refine qm_G.s1 rfl (qm_x_iald2v (v := a3) (by omega) (by omega) hX e3) ?_
          refine qm_G.s1 rfl (qm_x_i2l ⟨by omega, by omega⟩) ?_
          refine qm_G.s1 rfl (qm_x_pushI 32 rfl) ?_
          refine qm_G.s1 rfl (qm_x_lshl) ?_
          refine qm_G.s1 rfl (qm_x_aload rfl) ?_
          refine qm_G.s1 rfl (qm_x_iload rfl) ?_
          refine qm_G.s1 rfl (qm_x_pushI 4 rfl) ?_
          refine qm_G.s1 rfl (qm_x_iadd) ?_
          refine qm_G.s1 rfl (qm_x_iald2v (v := a4) (by omega) (by omega) hX e4) ?_
          refine qm_G.s1 rfl (qm_x_i2l ⟨by omega, by omega⟩) ?_
          refine qm_G.s1 rfl (qm_x_pushL 4294967295 rfl) ?_
          refine qm_G.s1 rfl (qm_x_land) ?_
          refine qm_G.s1 rfl (qm_x_lor) ?_
          refine qm_G.cm rfl rfl (hS 61 rfl) rfl ?_
          refine qm_C.go (cd := qm_P125) (lv := [(0, qm_R (some (0, 61, 0))), (1, qm_I (qm_i 3)), (2, qm_I (qm_i a2)), (3, qm_L (((qm_l a3) <<< ((qm_i 32).toInt64 &&& 63)) ||| ((qm_l a4) &&& (qm_l 4294967295))))]) rfl rfl ?_
          refine qm_G.s1 rfl (qm_x_iload rfl) ?_
          refine qm_G.cs rfl rfl rfl ?_
          refine qm_C.go (cd := qm_P86) (lv := [(0, qm_I (qm_i 3))]) rfl rfl ?_
          refine qm_G.s1 rfl (qm_x_iload rfl) ?_
          refine qm_G.s1 rfl (qm_x_pushI 0 rfl) ?_
          refine qm_G.s1 rfl (qm_x_pushI 5 rfl) ?_
          refine qm_G.cs rfl rfl rfl ?_
          refine qm_v_within11_t ⟨by decide, by decide⟩ ⟨by decide, by decide⟩ ⟨by decide, by decide⟩ (by decide) ⟨_, rfl, ?_⟩
          refine qm_G.ret rfl rfl ⟨_, rfl, ?_⟩
          refine qm_G.s1 rfl (qm_x_if_ne_t ⟨by decide, by decide⟩ (by decide)) ?_
          refine qm_G.sp (lv1 := [(0, qm_R (some (0, 61, 0))), (1, qm_I (qm_i 3)), (2, qm_I (qm_i a2)), (3, qm_L (((qm_l a3) <<< ((qm_i 32).toInt64 &&& 63)) ||| ((qm_l a4) &&& (qm_l 4294967295))))]) rfl rfl (qm_x_aload rfl) ?_
          refine qm_G.s1 rfl (qm_x_getfR (q := (some (0, 73, 0))) (hS 61 rfl) (hR 61 20 73 rfl rfl)) ?_
          refine qm_G.s1 rfl (qm_x_iload rfl) ?_
          refine qm_G.s1 rfl (qm_x_iald (v := (J 73 0 3)) (qm_arS hS rfl rfl) rfl (by decide) (by decide) (by decide) rfl) ?_
          refine qm_G.s1 rfl (qm_x_if_ne_t ⟨by omega, by omega⟩ (by omega)) ?_
          refine qm_G.sp (lv1 := [(0, qm_R (some (0, 61, 0))), (1, qm_I (qm_i 3)), (2, qm_I (qm_i a2)), (3, qm_L (((qm_l a3) <<< ((qm_i 32).toInt64 &&& 63)) ||| ((qm_l a4) &&& (qm_l 4294967295))))]) rfl rfl (qm_x_iload rfl) ?_
          refine qm_G.s1 rfl (qm_x_pushI 0 rfl) ?_
          refine qm_G.s1 rfl (qm_x_aload rfl) ?_
          refine qm_G.s1 rfl (qm_x_getfR (q := (some (0, 74, 0))) (hS 61 rfl) (hR 61 21 74 rfl rfl)) ?_
          refine qm_G.s1 rfl (qm_x_iload rfl) ?_
          refine qm_G.s1 rfl (qm_x_iald (v := (J 74 0 3)) (qm_arS hS rfl rfl) rfl (by decide) (by decide) (by decide) rfl) ?_
          refine qm_G.s1 rfl (qm_x_pushI 1 rfl) ?_
          refine qm_G.s1 rfl (qm_x_isub) ?_
          refine qm_G.cs rfl rfl rfl ?_
          refine qm_v_within11_t ⟨by omega, by omega⟩ ⟨by decide, by decide⟩ ⟨by omega, by omega⟩ (by omega) ⟨_, rfl, ?_⟩
          refine qm_G.s1 rfl (qm_x_if_ne_t ⟨by decide, by decide⟩ (by decide)) ?_
          refine qm_G.sp (lv1 := [(0, qm_R (some (0, 61, 0))), (1, qm_I (qm_i 3)), (2, qm_I (qm_i a2)), (3, qm_L (((qm_l a3) <<< ((qm_i 32).toInt64 &&& 63)) ||| ((qm_l a4) &&& (qm_l 4294967295))))]) rfl rfl (qm_x_aload rfl) ?_
          refine qm_G.s1 rfl (qm_x_getfR (q := (some (0, 73, 0))) (hS 61 rfl) (hR 61 20 73 rfl rfl)) ?_
          refine qm_G.s1 rfl (qm_x_iload rfl) ?_
          refine qm_G.s1 rfl (qm_x_iald (v := (J 73 0 3)) (qm_arS hS rfl rfl) rfl (by decide) (by decide) (by decide) rfl) ?_
          refine qm_G.s1 rfl (qm_x_istore (lv' := [(5, qm_I (qm_i (J 73 0 3))), (0, qm_R (some (0, 61, 0))), (1, qm_I (qm_i 3)), (2, qm_I (qm_i a2)), (3, qm_L (((qm_l a3) <<< ((qm_i 32).toInt64 &&& 63)) ||| ((qm_l a4) &&& (qm_l 4294967295))))]) rfl) ?_
          refine qm_G.s1 rfl (qm_x_aload rfl) ?_
          refine qm_G.s1 rfl (qm_x_getfR (q := (some (0, 75, 0))) (hS 61 rfl) (hR 61 22 75 rfl rfl)) ?_
          refine qm_G.s1 rfl (qm_x_pushI 60 rfl) ?_
          refine qm_G.s1 rfl (qm_x_iload rfl) ?_
          refine qm_G.s1 rfl (qm_x_imul) ?_
          refine qm_G.s1 rfl (qm_x_iload rfl) ?_
          refine qm_G.s1 rfl (qm_x_iadd) ?_
          refine qm_G.s1 rfl (qm_x_iload rfl) ?_
          refine qm_G.s1 rfl (qm_x_pushI 1 rfl) ?_
          refine qm_G.s1 rfl (qm_x_icmp_ne_t ⟨by omega, by omega⟩ ⟨by decide, by decide⟩ (by omega)) ?_
          refine qm_G.sp (lv1 := [(3, qm_L (((qm_l a3) <<< ((qm_i 32).toInt64 &&& 63)) ||| ((qm_l a4) &&& (qm_l 4294967295)))), (5, qm_I (qm_i (J 73 0 3)))]) rfl rfl (qm_x_iload rfl) ?_
          refine qm_G.s1 rfl (qm_x_pushI 2 rfl) ?_
          refine qm_G.s1 rfl (qm_x_icmp_ne_f ⟨by omega, by omega⟩ ⟨by decide, by decide⟩ (by omega)) ?_
          refine qm_G.s1 rfl (qm_x_lload rfl) ?_
          refine qm_G.s1 rfl (qm_x_l2ir) ?_
          have g112 : qm_sm ((((qm_l a3) <<< ((qm_i 32).toInt64 &&& 63)) ||| ((qm_l a4) &&& (qm_l 4294967295))).toInt32.toInt) := qm_i_sml _
          refine qm_G.s1 rfl (qm_x_i2sr) ?_
          have g113 : qm_sm ((qm_i ((((qm_l a3) <<< ((qm_i 32).toInt64 &&& 63)) ||| ((qm_l a4) &&& (qm_l 4294967295))).toInt32.toInt)).toInt16.toInt) := qm_sm16 _
          refine qm_G.s1 rfl (qm_x_i2l ⟨by omega, by omega⟩) ?_
          refine qm_G.s1 rfl (qm_x_goto) ?_
          refine qm_G.sp (lv1 := []) rfl rfl (qm_x_last (qm_arS hS rfl rfl) rfl (by omega) (by omega) (by decide)) ?_
          refine qm_G.s1 rfl (qm_x_pushI 1 rfl) ?_
          refine qm_G.ret rfl rfl ⟨_, rfl, ?_⟩
          refine qm_G.s1 rfl (qm_x_icmp_eq_t ⟨by decide, by decide⟩ ⟨by decide, by decide⟩ (by decide)) ?_
          rw [show (Int.toNat ((60 * 3) + a2)) = 180 + (Int.toNat a2) by omega]
          exact ih _ _ _ _ _ _ (qm_U_itm3 (by omega) hI)
        · refine qm_G.s1 rfl (qm_x_tsweq (v := 2) (t := 46) c101 rfl) ?_
          refine qm_G.sp (lv1 := [(1, qm_L (((qm_l a3) <<< ((qm_i 32).toInt64 &&& 63)) ||| ((qm_l a4) &&& (qm_l 4294967295))))]) rfl rfl (qm_x_lload rfl) ?_
          refine qm_G.s1 rfl (qm_x_l2ir) ?_
          have g114 : qm_sm ((((qm_l a3) <<< ((qm_i 32).toInt64 &&& 63)) ||| ((qm_l a4) &&& (qm_l 4294967295))).toInt32.toInt) := qm_i_sml _
          refine qm_G.s1 rfl (qm_x_i2l ⟨by omega, by omega⟩) ?_
          refine qm_G.ret rfl rfl ⟨_, rfl, ?_⟩
          refine qm_G.s1 rfl (qm_x_last (qm_arS hS rfl rfl) rfl (by omega) (by omega) (by decide)) ?_
          refine qm_G.s1 rfl (qm_x_pushI 1 rfl) ?_
          refine qm_G.ret rfl rfl ⟨_, rfl, ?_⟩
          refine qm_G.s1 rfl (qm_x_aload rfl) ?_
          refine qm_G.s1 rfl (qm_x_aload rfl) ?_
          refine qm_G.s1 rfl (qm_x_iload rfl) ?_
          refine qm_G.s1 rfl (qm_x_pushI 1 rfl) ?_
          refine qm_G.s1 rfl (qm_x_iadd) ?_
          refine qm_G.s1 rfl (qm_x_iald2v (v := 3) (by omega) (by omega) hX e1) ?_
          refine qm_G.s1 rfl (qm_x_aload rfl) ?_
          refine qm_G.s1 rfl (qm_x_iload rfl) ?_
          refine qm_G.s1 rfl (qm_x_pushI 2 rfl) ?_
          refine qm_G.s1 rfl (qm_x_iadd) ?_
          refine qm_G.s1 rfl (qm_x_iald2v (v := a2) (by omega) (by omega) hX e2) ?_
          refine qm_G.s1 rfl (qm_x_aload rfl) ?_
          refine qm_G.s1 rfl (qm_x_iload rfl) ?_
          refine qm_G.s1 rfl (qm_x_pushI 3 rfl) ?_
          refine qm_G.s1 rfl (qm_x_iadd) ?_
          refine qm_G.s1 rfl (qm_x_iald2v (v := a3) (by omega) (by omega) hX e3) ?_
          refine qm_G.s1 rfl (qm_x_i2l ⟨by omega, by omega⟩) ?_
          refine qm_G.s1 rfl (qm_x_pushI 32 rfl) ?_
          refine qm_G.s1 rfl (qm_x_lshl) ?_
          refine qm_G.s1 rfl (qm_x_aload rfl) ?_
          refine qm_G.s1 rfl (qm_x_iload rfl) ?_
          refine qm_G.s1 rfl (qm_x_pushI 4 rfl) ?_
          refine qm_G.s1 rfl (qm_x_iadd) ?_
          refine qm_G.s1 rfl (qm_x_iald2v (v := a4) (by omega) (by omega) hX e4) ?_
          refine qm_G.s1 rfl (qm_x_i2l ⟨by omega, by omega⟩) ?_
          refine qm_G.s1 rfl (qm_x_pushL 4294967295 rfl) ?_
          refine qm_G.s1 rfl (qm_x_land) ?_
          refine qm_G.s1 rfl (qm_x_lor) ?_
          refine qm_G.cm rfl rfl (hS 61 rfl) rfl ?_
          refine qm_C.go (cd := qm_P125) (lv := [(0, qm_R (some (0, 61, 0))), (1, qm_I (qm_i 3)), (2, qm_I (qm_i a2)), (3, qm_L (((qm_l a3) <<< ((qm_i 32).toInt64 &&& 63)) ||| ((qm_l a4) &&& (qm_l 4294967295))))]) rfl rfl ?_
          refine qm_G.s1 rfl (qm_x_iload rfl) ?_
          refine qm_G.cs rfl rfl rfl ?_
          refine qm_C.go (cd := qm_P86) (lv := [(0, qm_I (qm_i 3))]) rfl rfl ?_
          refine qm_G.s1 rfl (qm_x_iload rfl) ?_
          refine qm_G.s1 rfl (qm_x_pushI 0 rfl) ?_
          refine qm_G.s1 rfl (qm_x_pushI 5 rfl) ?_
          refine qm_G.cs rfl rfl rfl ?_
          refine qm_v_within11_t ⟨by decide, by decide⟩ ⟨by decide, by decide⟩ ⟨by decide, by decide⟩ (by decide) ⟨_, rfl, ?_⟩
          refine qm_G.ret rfl rfl ⟨_, rfl, ?_⟩
          refine qm_G.s1 rfl (qm_x_if_ne_t ⟨by decide, by decide⟩ (by decide)) ?_
          refine qm_G.sp (lv1 := [(0, qm_R (some (0, 61, 0))), (1, qm_I (qm_i 3)), (2, qm_I (qm_i a2)), (3, qm_L (((qm_l a3) <<< ((qm_i 32).toInt64 &&& 63)) ||| ((qm_l a4) &&& (qm_l 4294967295))))]) rfl rfl (qm_x_aload rfl) ?_
          refine qm_G.s1 rfl (qm_x_getfR (q := (some (0, 73, 0))) (hS 61 rfl) (hR 61 20 73 rfl rfl)) ?_
          refine qm_G.s1 rfl (qm_x_iload rfl) ?_
          refine qm_G.s1 rfl (qm_x_iald (v := (J 73 0 3)) (qm_arS hS rfl rfl) rfl (by decide) (by decide) (by decide) rfl) ?_
          refine qm_G.s1 rfl (qm_x_if_ne_t ⟨by omega, by omega⟩ (by omega)) ?_
          refine qm_G.sp (lv1 := [(0, qm_R (some (0, 61, 0))), (1, qm_I (qm_i 3)), (2, qm_I (qm_i a2)), (3, qm_L (((qm_l a3) <<< ((qm_i 32).toInt64 &&& 63)) ||| ((qm_l a4) &&& (qm_l 4294967295))))]) rfl rfl (qm_x_iload rfl) ?_
          refine qm_G.s1 rfl (qm_x_pushI 0 rfl) ?_
          refine qm_G.s1 rfl (qm_x_aload rfl) ?_
          refine qm_G.s1 rfl (qm_x_getfR (q := (some (0, 74, 0))) (hS 61 rfl) (hR 61 21 74 rfl rfl)) ?_
          refine qm_G.s1 rfl (qm_x_iload rfl) ?_
          refine qm_G.s1 rfl (qm_x_iald (v := (J 74 0 3)) (qm_arS hS rfl rfl) rfl (by decide) (by decide) (by decide) rfl) ?_
          refine qm_G.s1 rfl (qm_x_pushI 1 rfl) ?_
          refine qm_G.s1 rfl (qm_x_isub) ?_
          refine qm_G.cs rfl rfl rfl ?_
          refine qm_v_within11_t ⟨by omega, by omega⟩ ⟨by decide, by decide⟩ ⟨by omega, by omega⟩ (by omega) ⟨_, rfl, ?_⟩
          refine qm_G.s1 rfl (qm_x_if_ne_t ⟨by decide, by decide⟩ (by decide)) ?_
          refine qm_G.sp (lv1 := [(0, qm_R (some (0, 61, 0))), (1, qm_I (qm_i 3)), (2, qm_I (qm_i a2)), (3, qm_L (((qm_l a3) <<< ((qm_i 32).toInt64 &&& 63)) ||| ((qm_l a4) &&& (qm_l 4294967295))))]) rfl rfl (qm_x_aload rfl) ?_
          refine qm_G.s1 rfl (qm_x_getfR (q := (some (0, 73, 0))) (hS 61 rfl) (hR 61 20 73 rfl rfl)) ?_
          refine qm_G.s1 rfl (qm_x_iload rfl) ?_
          refine qm_G.s1 rfl (qm_x_iald (v := (J 73 0 3)) (qm_arS hS rfl rfl) rfl (by decide) (by decide) (by decide) rfl) ?_
          refine qm_G.s1 rfl (qm_x_istore (lv' := [(5, qm_I (qm_i (J 73 0 3))), (0, qm_R (some (0, 61, 0))), (1, qm_I (qm_i 3)), (2, qm_I (qm_i a2)), (3, qm_L (((qm_l a3) <<< ((qm_i 32).toInt64 &&& 63)) ||| ((qm_l a4) &&& (qm_l 4294967295))))]) rfl) ?_
          refine qm_G.s1 rfl (qm_x_aload rfl) ?_
          refine qm_G.s1 rfl (qm_x_getfR (q := (some (0, 75, 0))) (hS 61 rfl) (hR 61 22 75 rfl rfl)) ?_
          refine qm_G.s1 rfl (qm_x_pushI 60 rfl) ?_
          refine qm_G.s1 rfl (qm_x_iload rfl) ?_
          refine qm_G.s1 rfl (qm_x_imul) ?_
          refine qm_G.s1 rfl (qm_x_iload rfl) ?_
          refine qm_G.s1 rfl (qm_x_iadd) ?_
          refine qm_G.s1 rfl (qm_x_iload rfl) ?_
          refine qm_G.s1 rfl (qm_x_pushI 1 rfl) ?_
          refine qm_G.s1 rfl (qm_x_icmp_ne_t ⟨by omega, by omega⟩ ⟨by decide, by decide⟩ (by omega)) ?_
          refine qm_G.sp (lv1 := [(3, qm_L (((qm_l a3) <<< ((qm_i 32).toInt64 &&& 63)) ||| ((qm_l a4) &&& (qm_l 4294967295)))), (5, qm_I (qm_i (J 73 0 3)))]) rfl rfl (qm_x_iload rfl) ?_
          refine qm_G.s1 rfl (qm_x_pushI 2 rfl) ?_
          refine qm_G.s1 rfl (qm_x_icmp_ne_t ⟨by omega, by omega⟩ ⟨by decide, by decide⟩ (by omega)) ?_
          refine qm_G.sp (lv1 := [(3, qm_L (((qm_l a3) <<< ((qm_i 32).toInt64 &&& 63)) ||| ((qm_l a4) &&& (qm_l 4294967295)))), (5, qm_I (qm_i (J 73 0 3)))]) rfl rfl (qm_x_iload rfl) ?_
          refine qm_G.s1 rfl (qm_x_pushI 3 rfl) ?_
          refine qm_G.s1 rfl (qm_x_icmp_ne_f ⟨by omega, by omega⟩ ⟨by decide, by decide⟩ (by omega)) ?_
          refine qm_G.s1 rfl (qm_x_lload rfl) ?_
          refine qm_G.s1 rfl (qm_x_l2ir) ?_
          have g117 : qm_sm ((((qm_l a3) <<< ((qm_i 32).toInt64 &&& 63)) ||| ((qm_l a4) &&& (qm_l 4294967295))).toInt32.toInt) := qm_i_sml _
          refine qm_G.s1 rfl (qm_x_i2l ⟨by omega, by omega⟩) ?_
          refine qm_G.s1 rfl (qm_x_goto) ?_
          refine qm_G.sp (lv1 := []) rfl rfl (qm_x_last (qm_arS hS rfl rfl) rfl (by omega) (by omega) (by decide)) ?_
          refine qm_G.s1 rfl (qm_x_pushI 1 rfl) ?_
          refine qm_G.ret rfl rfl ⟨_, rfl, ?_⟩
          refine qm_G.s1 rfl (qm_x_icmp_eq_t ⟨by decide, by decide⟩ ⟨by decide, by decide⟩ (by decide)) ?_
          rw [show (Int.toNat ((60 * 3) + a2)) = 180 + (Int.toNat a2) by omega]
          exact ih _ _ _ _ _ _ (qm_U_itm3 (by omega) hI)
        · refine qm_G.s1 rfl (qm_x_tsweq (v := 3) (t := 50) c101 rfl) ?_
          refine qm_G.sp (lv1 := [(1, qm_L (((qm_l a3) <<< ((qm_i 32).toInt64 &&& 63)) ||| ((qm_l a4) &&& (qm_l 4294967295))))]) rfl rfl (qm_x_lload rfl) ?_
          refine qm_G.ret rfl rfl ⟨_, rfl, ?_⟩
          refine qm_G.s1 rfl (qm_x_last (qm_arS hS rfl rfl) rfl (by omega) (by omega) (by decide)) ?_
          refine qm_G.s1 rfl (qm_x_pushI 1 rfl) ?_
          refine qm_G.ret rfl rfl ⟨_, rfl, ?_⟩
          refine qm_G.s1 rfl (qm_x_aload rfl) ?_
          refine qm_G.s1 rfl (qm_x_aload rfl) ?_
          refine qm_G.s1 rfl (qm_x_iload rfl) ?_
          refine qm_G.s1 rfl (qm_x_pushI 1 rfl) ?_
          refine qm_G.s1 rfl (qm_x_iadd) ?_
          refine qm_G.s1 rfl (qm_x_iald2v (v := 3) (by omega) (by omega) hX e1) ?_
          refine qm_G.s1 rfl (qm_x_aload rfl) ?_
          refine qm_G.s1 rfl (qm_x_iload rfl) ?_
          refine qm_G.s1 rfl (qm_x_pushI 2 rfl) ?_
          refine qm_G.s1 rfl (qm_x_iadd) ?_
          refine qm_G.s1 rfl (qm_x_iald2v (v := a2) (by omega) (by omega) hX e2) ?_
          refine qm_G.s1 rfl (qm_x_aload rfl) ?_
          refine qm_G.s1 rfl (qm_x_iload rfl) ?_
          refine qm_G.s1 rfl (qm_x_pushI 3 rfl) ?_
          refine qm_G.s1 rfl (qm_x_iadd) ?_
          refine qm_G.s1 rfl (qm_x_iald2v (v := a3) (by omega) (by omega) hX e3) ?_
          refine qm_G.s1 rfl (qm_x_i2l ⟨by omega, by omega⟩) ?_
          refine qm_G.s1 rfl (qm_x_pushI 32 rfl) ?_
          refine qm_G.s1 rfl (qm_x_lshl) ?_
          refine qm_G.s1 rfl (qm_x_aload rfl) ?_
          refine qm_G.s1 rfl (qm_x_iload rfl) ?_
          refine qm_G.s1 rfl (qm_x_pushI 4 rfl) ?_
          refine qm_G.s1 rfl (qm_x_iadd) ?_
          refine qm_G.s1 rfl (qm_x_iald2v (v := a4) (by omega) (by omega) hX e4) ?_
          refine qm_G.s1 rfl (qm_x_i2l ⟨by omega, by omega⟩) ?_
          refine qm_G.s1 rfl (qm_x_pushL 4294967295 rfl) ?_
          refine qm_G.s1 rfl (qm_x_land) ?_
          refine qm_G.s1 rfl (qm_x_lor) ?_
          refine qm_G.cm rfl rfl (hS 61 rfl) rfl ?_
          refine qm_C.go (cd := qm_P125) (lv := [(0, qm_R (some (0, 61, 0))), (1, qm_I (qm_i 3)), (2, qm_I (qm_i a2)), (3, qm_L (((qm_l a3) <<< ((qm_i 32).toInt64 &&& 63)) ||| ((qm_l a4) &&& (qm_l 4294967295))))]) rfl rfl ?_
          refine qm_G.s1 rfl (qm_x_iload rfl) ?_
          refine qm_G.cs rfl rfl rfl ?_
          refine qm_C.go (cd := qm_P86) (lv := [(0, qm_I (qm_i 3))]) rfl rfl ?_
          refine qm_G.s1 rfl (qm_x_iload rfl) ?_
          refine qm_G.s1 rfl (qm_x_pushI 0 rfl) ?_
          refine qm_G.s1 rfl (qm_x_pushI 5 rfl) ?_
          refine qm_G.cs rfl rfl rfl ?_
          refine qm_v_within11_t ⟨by decide, by decide⟩ ⟨by decide, by decide⟩ ⟨by decide, by decide⟩ (by decide) ⟨_, rfl, ?_⟩
          refine qm_G.ret rfl rfl ⟨_, rfl, ?_⟩
          refine qm_G.s1 rfl (qm_x_if_ne_t ⟨by decide, by decide⟩ (by decide)) ?_
          refine qm_G.sp (lv1 := [(0, qm_R (some (0, 61, 0))), (1, qm_I (qm_i 3)), (2, qm_I (qm_i a2)), (3, qm_L (((qm_l a3) <<< ((qm_i 32).toInt64 &&& 63)) ||| ((qm_l a4) &&& (qm_l 4294967295))))]) rfl rfl (qm_x_aload rfl) ?_
          refine qm_G.s1 rfl (qm_x_getfR (q := (some (0, 73, 0))) (hS 61 rfl) (hR 61 20 73 rfl rfl)) ?_
          refine qm_G.s1 rfl (qm_x_iload rfl) ?_
          refine qm_G.s1 rfl (qm_x_iald (v := (J 73 0 3)) (qm_arS hS rfl rfl) rfl (by decide) (by decide) (by decide) rfl) ?_
          refine qm_G.s1 rfl (qm_x_if_ne_t ⟨by omega, by omega⟩ (by omega)) ?_
          refine qm_G.sp (lv1 := [(0, qm_R (some (0, 61, 0))), (1, qm_I (qm_i 3)), (2, qm_I (qm_i a2)), (3, qm_L (((qm_l a3) <<< ((qm_i 32).toInt64 &&& 63)) ||| ((qm_l a4) &&& (qm_l 4294967295))))]) rfl rfl (qm_x_iload rfl) ?_
          refine qm_G.s1 rfl (qm_x_pushI 0 rfl) ?_
          refine qm_G.s1 rfl (qm_x_aload rfl) ?_
          refine qm_G.s1 rfl (qm_x_getfR (q := (some (0, 74, 0))) (hS 61 rfl) (hR 61 21 74 rfl rfl)) ?_
          refine qm_G.s1 rfl (qm_x_iload rfl) ?_
          refine qm_G.s1 rfl (qm_x_iald (v := (J 74 0 3)) (qm_arS hS rfl rfl) rfl (by decide) (by decide) (by decide) rfl) ?_
          refine qm_G.s1 rfl (qm_x_pushI 1 rfl) ?_
          refine qm_G.s1 rfl (qm_x_isub) ?_
          refine qm_G.cs rfl rfl rfl ?_
          refine qm_v_within11_t ⟨by omega, by omega⟩ ⟨by decide, by decide⟩ ⟨by omega, by omega⟩ (by omega) ⟨_, rfl, ?_⟩
          refine qm_G.s1 rfl (qm_x_if_ne_t ⟨by decide, by decide⟩ (by decide)) ?_
          refine qm_G.sp (lv1 := [(0, qm_R (some (0, 61, 0))), (1, qm_I (qm_i 3)), (2, qm_I (qm_i a2)), (3, qm_L (((qm_l a3) <<< ((qm_i 32).toInt64 &&& 63)) ||| ((qm_l a4) &&& (qm_l 4294967295))))]) rfl rfl (qm_x_aload rfl) ?_
          refine qm_G.s1 rfl (qm_x_getfR (q := (some (0, 73, 0))) (hS 61 rfl) (hR 61 20 73 rfl rfl)) ?_
          refine qm_G.s1 rfl (qm_x_iload rfl) ?_
          refine qm_G.s1 rfl (qm_x_iald (v := (J 73 0 3)) (qm_arS hS rfl rfl) rfl (by decide) (by decide) (by decide) rfl) ?_
          refine qm_G.s1 rfl (qm_x_istore (lv' := [(5, qm_I (qm_i (J 73 0 3))), (0, qm_R (some (0, 61, 0))), (1, qm_I (qm_i 3)), (2, qm_I (qm_i a2)), (3, qm_L (((qm_l a3) <<< ((qm_i 32).toInt64 &&& 63)) ||| ((qm_l a4) &&& (qm_l 4294967295))))]) rfl) ?_
          refine qm_G.s1 rfl (qm_x_aload rfl) ?_
          refine qm_G.s1 rfl (qm_x_getfR (q := (some (0, 75, 0))) (hS 61 rfl) (hR 61 22 75 rfl rfl)) ?_
          refine qm_G.s1 rfl (qm_x_pushI 60 rfl) ?_
          refine qm_G.s1 rfl (qm_x_iload rfl) ?_
          refine qm_G.s1 rfl (qm_x_imul) ?_
          refine qm_G.s1 rfl (qm_x_iload rfl) ?_
          refine qm_G.s1 rfl (qm_x_iadd) ?_
          refine qm_G.s1 rfl (qm_x_iload rfl) ?_
          refine qm_G.s1 rfl (qm_x_pushI 1 rfl) ?_
          refine qm_G.s1 rfl (qm_x_icmp_ne_t ⟨by omega, by omega⟩ ⟨by decide, by decide⟩ (by omega)) ?_
          refine qm_G.sp (lv1 := [(3, qm_L (((qm_l a3) <<< ((qm_i 32).toInt64 &&& 63)) ||| ((qm_l a4) &&& (qm_l 4294967295)))), (5, qm_I (qm_i (J 73 0 3)))]) rfl rfl (qm_x_iload rfl) ?_
          refine qm_G.s1 rfl (qm_x_pushI 2 rfl) ?_
          refine qm_G.s1 rfl (qm_x_icmp_ne_t ⟨by omega, by omega⟩ ⟨by decide, by decide⟩ (by omega)) ?_
          refine qm_G.sp (lv1 := [(3, qm_L (((qm_l a3) <<< ((qm_i 32).toInt64 &&& 63)) ||| ((qm_l a4) &&& (qm_l 4294967295)))), (5, qm_I (qm_i (J 73 0 3)))]) rfl rfl (qm_x_iload rfl) ?_
          refine qm_G.s1 rfl (qm_x_pushI 3 rfl) ?_
          refine qm_G.s1 rfl (qm_x_icmp_ne_t ⟨by omega, by omega⟩ ⟨by decide, by decide⟩ (by omega)) ?_
          refine qm_G.sp (lv1 := [(3, qm_L (((qm_l a3) <<< ((qm_i 32).toInt64 &&& 63)) ||| ((qm_l a4) &&& (qm_l 4294967295)))), (5, qm_I (qm_i (J 73 0 3)))]) rfl rfl (qm_x_iload rfl) ?_
          refine qm_G.s1 rfl (qm_x_pushI 4 rfl) ?_
          refine qm_G.s1 rfl (qm_x_icmp_ne_f ⟨by omega, by omega⟩ ⟨by decide, by decide⟩ (by omega)) ?_
          refine qm_G.s1 rfl (qm_x_lload rfl) ?_
          refine qm_G.s1 rfl (qm_x_goto) ?_
          refine qm_G.sp (lv1 := []) rfl rfl (qm_x_last (qm_arS hS rfl rfl) rfl (by omega) (by omega) (by decide)) ?_
          refine qm_G.s1 rfl (qm_x_pushI 1 rfl) ?_
          refine qm_G.ret rfl rfl ⟨_, rfl, ?_⟩
          refine qm_G.s1 rfl (qm_x_icmp_eq_t ⟨by decide, by decide⟩ ⟨by decide, by decide⟩ (by decide)) ?_
          rw [show (Int.toNat ((60 * 3) + a2)) = 180 + (Int.toNat a2) by omega]
          exact ih _ _ _ _ _ _ (qm_U_itm3 (by omega) hI)
        · refine qm_G.s1 rfl (qm_x_tswd (m := 4) rfl ⟨by omega, by omega⟩ (by omega) (by omega) (by decide)) ?_
          refine qm_G.sp (lv1 := [(1, qm_L (((qm_l a3) <<< ((qm_i 32).toInt64 &&& 63)) ||| ((qm_l a4) &&& (qm_l 4294967295))))]) rfl rfl (qm_x_lload rfl) ?_
          refine qm_G.s1 rfl (qm_x_pushL 0 rfl) ?_
          refine qm_y_lcmpr rfl (fun c120 => ?_) (fun c120 => ?_) (fun c120 => ?_)
          · refine qm_G.s1 rfl (qm_x_if_eq_f ⟨by decide, by decide⟩ (by decide)) ?_
            refine qm_G.s1 rfl (qm_x_pushL 1 rfl) ?_
            refine qm_G.s1 rfl (qm_x_goto) ?_
            refine qm_G.ret rfl rfl ⟨_, rfl, ?_⟩
            refine qm_G.s1 rfl (qm_x_last (qm_arS hS rfl rfl) rfl (by omega) (by omega) (by decide)) ?_
            refine qm_G.s1 rfl (qm_x_pushI 1 rfl) ?_
            refine qm_G.ret rfl rfl ⟨_, rfl, ?_⟩
            refine qm_G.s1 rfl (qm_x_aload rfl) ?_
            refine qm_G.s1 rfl (qm_x_aload rfl) ?_
            refine qm_G.s1 rfl (qm_x_iload rfl) ?_
            refine qm_G.s1 rfl (qm_x_pushI 1 rfl) ?_
            refine qm_G.s1 rfl (qm_x_iadd) ?_
            refine qm_G.s1 rfl (qm_x_iald2v (v := 3) (by omega) (by omega) hX e1) ?_
            refine qm_G.s1 rfl (qm_x_aload rfl) ?_
            refine qm_G.s1 rfl (qm_x_iload rfl) ?_
            refine qm_G.s1 rfl (qm_x_pushI 2 rfl) ?_
            refine qm_G.s1 rfl (qm_x_iadd) ?_
            refine qm_G.s1 rfl (qm_x_iald2v (v := a2) (by omega) (by omega) hX e2) ?_
            refine qm_G.s1 rfl (qm_x_aload rfl) ?_
            refine qm_G.s1 rfl (qm_x_iload rfl) ?_
            refine qm_G.s1 rfl (qm_x_pushI 3 rfl) ?_
            refine qm_G.s1 rfl (qm_x_iadd) ?_
            refine qm_G.s1 rfl (qm_x_iald2v (v := a3) (by omega) (by omega) hX e3) ?_
            refine qm_G.s1 rfl (qm_x_i2l ⟨by omega, by omega⟩) ?_
            refine qm_G.s1 rfl (qm_x_pushI 32 rfl) ?_
            refine qm_G.s1 rfl (qm_x_lshl) ?_
            refine qm_G.s1 rfl (qm_x_aload rfl) ?_
            refine qm_G.s1 rfl (qm_x_iload rfl) ?_
            refine qm_G.s1 rfl (qm_x_pushI 4 rfl) ?_
            refine qm_G.s1 rfl (qm_x_iadd) ?_
            refine qm_G.s1 rfl (qm_x_iald2v (v := a4) (by omega) (by omega) hX e4) ?_
            refine qm_G.s1 rfl (qm_x_i2l ⟨by omega, by omega⟩) ?_
            refine qm_G.s1 rfl (qm_x_pushL 4294967295 rfl) ?_
            refine qm_G.s1 rfl (qm_x_land) ?_
            refine qm_G.s1 rfl (qm_x_lor) ?_
            refine qm_G.cm rfl rfl (hS 61 rfl) rfl ?_
            refine qm_C.go (cd := qm_P125) (lv := [(0, qm_R (some (0, 61, 0))), (1, qm_I (qm_i 3)), (2, qm_I (qm_i a2)), (3, qm_L (((qm_l a3) <<< ((qm_i 32).toInt64 &&& 63)) ||| ((qm_l a4) &&& (qm_l 4294967295))))]) rfl rfl ?_
            refine qm_G.s1 rfl (qm_x_iload rfl) ?_
            refine qm_G.cs rfl rfl rfl ?_
            refine qm_C.go (cd := qm_P86) (lv := [(0, qm_I (qm_i 3))]) rfl rfl ?_
            refine qm_G.s1 rfl (qm_x_iload rfl) ?_
            refine qm_G.s1 rfl (qm_x_pushI 0 rfl) ?_
            refine qm_G.s1 rfl (qm_x_pushI 5 rfl) ?_
            refine qm_G.cs rfl rfl rfl ?_
            refine qm_v_within11_t ⟨by decide, by decide⟩ ⟨by decide, by decide⟩ ⟨by decide, by decide⟩ (by decide) ⟨_, rfl, ?_⟩
            refine qm_G.ret rfl rfl ⟨_, rfl, ?_⟩
            refine qm_G.s1 rfl (qm_x_if_ne_t ⟨by decide, by decide⟩ (by decide)) ?_
            refine qm_G.sp (lv1 := [(0, qm_R (some (0, 61, 0))), (1, qm_I (qm_i 3)), (2, qm_I (qm_i a2)), (3, qm_L (((qm_l a3) <<< ((qm_i 32).toInt64 &&& 63)) ||| ((qm_l a4) &&& (qm_l 4294967295))))]) rfl rfl (qm_x_aload rfl) ?_
            refine qm_G.s1 rfl (qm_x_getfR (q := (some (0, 73, 0))) (hS 61 rfl) (hR 61 20 73 rfl rfl)) ?_
            refine qm_G.s1 rfl (qm_x_iload rfl) ?_
            refine qm_G.s1 rfl (qm_x_iald (v := (J 73 0 3)) (qm_arS hS rfl rfl) rfl (by decide) (by decide) (by decide) rfl) ?_
            refine qm_G.s1 rfl (qm_x_if_ne_t ⟨by omega, by omega⟩ (by omega)) ?_
            refine qm_G.sp (lv1 := [(0, qm_R (some (0, 61, 0))), (1, qm_I (qm_i 3)), (2, qm_I (qm_i a2)), (3, qm_L (((qm_l a3) <<< ((qm_i 32).toInt64 &&& 63)) ||| ((qm_l a4) &&& (qm_l 4294967295))))]) rfl rfl (qm_x_iload rfl) ?_
            refine qm_G.s1 rfl (qm_x_pushI 0 rfl) ?_
            refine qm_G.s1 rfl (qm_x_aload rfl) ?_
            refine qm_G.s1 rfl (qm_x_getfR (q := (some (0, 74, 0))) (hS 61 rfl) (hR 61 21 74 rfl rfl)) ?_
            refine qm_G.s1 rfl (qm_x_iload rfl) ?_
            refine qm_G.s1 rfl (qm_x_iald (v := (J 74 0 3)) (qm_arS hS rfl rfl) rfl (by decide) (by decide) (by decide) rfl) ?_
            refine qm_G.s1 rfl (qm_x_pushI 1 rfl) ?_
            refine qm_G.s1 rfl (qm_x_isub) ?_
            refine qm_G.cs rfl rfl rfl ?_
            refine qm_v_within11_t ⟨by omega, by omega⟩ ⟨by decide, by decide⟩ ⟨by omega, by omega⟩ (by omega) ⟨_, rfl, ?_⟩
            refine qm_G.s1 rfl (qm_x_if_ne_t ⟨by decide, by decide⟩ (by decide)) ?_
            refine qm_G.sp (lv1 := [(0, qm_R (some (0, 61, 0))), (1, qm_I (qm_i 3)), (2, qm_I (qm_i a2)), (3, qm_L (((qm_l a3) <<< ((qm_i 32).toInt64 &&& 63)) ||| ((qm_l a4) &&& (qm_l 4294967295))))]) rfl rfl (qm_x_aload rfl) ?_
            refine qm_G.s1 rfl (qm_x_getfR (q := (some (0, 73, 0))) (hS 61 rfl) (hR 61 20 73 rfl rfl)) ?_
            refine qm_G.s1 rfl (qm_x_iload rfl) ?_
            refine qm_G.s1 rfl (qm_x_iald (v := (J 73 0 3)) (qm_arS hS rfl rfl) rfl (by decide) (by decide) (by decide) rfl) ?_
            refine qm_G.s1 rfl (qm_x_istore (lv' := [(5, qm_I (qm_i (J 73 0 3))), (0, qm_R (some (0, 61, 0))), (1, qm_I (qm_i 3)), (2, qm_I (qm_i a2)), (3, qm_L (((qm_l a3) <<< ((qm_i 32).toInt64 &&& 63)) ||| ((qm_l a4) &&& (qm_l 4294967295))))]) rfl) ?_
            refine qm_G.s1 rfl (qm_x_aload rfl) ?_
            refine qm_G.s1 rfl (qm_x_getfR (q := (some (0, 75, 0))) (hS 61 rfl) (hR 61 22 75 rfl rfl)) ?_
            refine qm_G.s1 rfl (qm_x_pushI 60 rfl) ?_
            refine qm_G.s1 rfl (qm_x_iload rfl) ?_
            refine qm_G.s1 rfl (qm_x_imul) ?_
            refine qm_G.s1 rfl (qm_x_iload rfl) ?_
            refine qm_G.s1 rfl (qm_x_iadd) ?_
            refine qm_G.s1 rfl (qm_x_iload rfl) ?_
            refine qm_G.s1 rfl (qm_x_pushI 1 rfl) ?_
            refine qm_G.s1 rfl (qm_x_icmp_ne_t ⟨by omega, by omega⟩ ⟨by decide, by decide⟩ (by omega)) ?_
            refine qm_G.sp (lv1 := [(3, qm_L (((qm_l a3) <<< ((qm_i 32).toInt64 &&& 63)) ||| ((qm_l a4) &&& (qm_l 4294967295)))), (5, qm_I (qm_i (J 73 0 3)))]) rfl rfl (qm_x_iload rfl) ?_
            refine qm_G.s1 rfl (qm_x_pushI 2 rfl) ?_
            refine qm_G.s1 rfl (qm_x_icmp_ne_t ⟨by omega, by omega⟩ ⟨by decide, by decide⟩ (by omega)) ?_
            refine qm_G.sp (lv1 := [(3, qm_L (((qm_l a3) <<< ((qm_i 32).toInt64 &&& 63)) ||| ((qm_l a4) &&& (qm_l 4294967295)))), (5, qm_I (qm_i (J 73 0 3)))]) rfl rfl (qm_x_iload rfl) ?_
            refine qm_G.s1 rfl (qm_x_pushI 3 rfl) ?_
            refine qm_G.s1 rfl (qm_x_icmp_ne_t ⟨by omega, by omega⟩ ⟨by decide, by decide⟩ (by omega)) ?_
            refine qm_G.sp (lv1 := [(3, qm_L (((qm_l a3) <<< ((qm_i 32).toInt64 &&& 63)) ||| ((qm_l a4) &&& (qm_l 4294967295)))), (5, qm_I (qm_i (J 73 0 3)))]) rfl rfl (qm_x_iload rfl) ?_
            refine qm_G.s1 rfl (qm_x_pushI 4 rfl) ?_
            refine qm_G.s1 rfl (qm_x_icmp_ne_t ⟨by omega, by omega⟩ ⟨by decide, by decide⟩ (by omega)) ?_
            refine qm_G.sp (lv1 := [(3, qm_L (((qm_l a3) <<< ((qm_i 32).toInt64 &&& 63)) ||| ((qm_l a4) &&& (qm_l 4294967295))))]) rfl rfl (qm_x_lload rfl) ?_
            refine qm_G.s1 rfl (qm_x_pushL 0 rfl) ?_
            refine qm_G.s1 rfl (qm_x_lcmp_lt c120) ?_
            refine qm_G.s1 rfl (qm_x_if_eq_f ⟨by decide, by decide⟩ (by decide)) ?_
            refine qm_G.s1 rfl (qm_x_pushL 1 rfl) ?_
            refine qm_G.s1 rfl (qm_x_goto) ?_
            refine qm_G.sp (lv1 := []) rfl rfl (qm_x_last (qm_arS hS rfl rfl) rfl (by omega) (by omega) (by decide)) ?_
            refine qm_G.s1 rfl (qm_x_pushI 1 rfl) ?_
            refine qm_G.ret rfl rfl ⟨_, rfl, ?_⟩
            refine qm_G.s1 rfl (qm_x_icmp_eq_t ⟨by decide, by decide⟩ ⟨by decide, by decide⟩ (by decide)) ?_
            rw [show (Int.toNat ((60 * 3) + a2)) = 180 + (Int.toNat a2) by omega]
            exact ih _ _ _ _ _ _ (qm_U_itm3 (by omega) hI)
          · refine qm_G.s1 rfl (qm_x_if_eq_t ⟨by decide, by decide⟩ (by decide)) ?_
            refine qm_G.sp (lv1 := []) rfl rfl (qm_x_pushL 0 rfl) ?_
            refine qm_G.ret rfl rfl ⟨_, rfl, ?_⟩
            refine qm_G.s1 rfl (qm_x_last (qm_arS hS rfl rfl) rfl (by omega) (by omega) (by decide)) ?_
            refine qm_G.s1 rfl (qm_x_pushI 1 rfl) ?_
            refine qm_G.ret rfl rfl ⟨_, rfl, ?_⟩
            refine qm_G.s1 rfl (qm_x_aload rfl) ?_
            refine qm_G.s1 rfl (qm_x_aload rfl) ?_
            refine qm_G.s1 rfl (qm_x_iload rfl) ?_
            refine qm_G.s1 rfl (qm_x_pushI 1 rfl) ?_
            refine qm_G.s1 rfl (qm_x_iadd) ?_
            refine qm_G.s1 rfl (qm_x_iald2v (v := 3) (by omega) (by omega) hX e1) ?_
            refine qm_G.s1 rfl (qm_x_aload rfl) ?_
            refine qm_G.s1 rfl (qm_x_iload rfl) ?_
            refine qm_G.s1 rfl (qm_x_pushI 2 rfl) ?_
            refine qm_G.s1 rfl (qm_x_iadd) ?_
            refine qm_G.s1 rfl (qm_x_iald2v (v := a2) (by omega) (by omega) hX e2) ?_
            refine qm_G.s1 rfl (qm_x_aload rfl) ?_
            refine qm_G.s1 rfl (qm_x_iload rfl) ?_
            refine qm_G.s1 rfl (qm_x_pushI 3 rfl) ?_
            refine qm_G.s1 rfl (qm_x_iadd) ?_
            refine qm_G.s1 rfl (qm_x_iald2v (v := a3) (by omega) (by omega) hX e3) ?_
            refine qm_G.s1 rfl (qm_x_i2l ⟨by omega, by omega⟩) ?_
            refine qm_G.s1 rfl (qm_x_pushI 32 rfl) ?_
            refine qm_G.s1 rfl (qm_x_lshl) ?_
            refine qm_G.s1 rfl (qm_x_aload rfl) ?_
            refine qm_G.s1 rfl (qm_x_iload rfl) ?_
            refine qm_G.s1 rfl (qm_x_pushI 4 rfl) ?_
            refine qm_G.s1 rfl (qm_x_iadd) ?_
            refine qm_G.s1 rfl (qm_x_iald2v (v := a4) (by omega) (by omega) hX e4) ?_
            refine qm_G.s1 rfl (qm_x_i2l ⟨by omega, by omega⟩) ?_
            refine qm_G.s1 rfl (qm_x_pushL 4294967295 rfl) ?_
            refine qm_G.s1 rfl (qm_x_land) ?_
            refine qm_G.s1 rfl (qm_x_lor) ?_
            refine qm_G.cm rfl rfl (hS 61 rfl) rfl ?_
            refine qm_C.go (cd := qm_P125) (lv := [(0, qm_R (some (0, 61, 0))), (1, qm_I (qm_i 3)), (2, qm_I (qm_i a2)), (3, qm_L (((qm_l a3) <<< ((qm_i 32).toInt64 &&& 63)) ||| ((qm_l a4) &&& (qm_l 4294967295))))]) rfl rfl ?_
            refine qm_G.s1 rfl (qm_x_iload rfl) ?_
            refine qm_G.cs rfl rfl rfl ?_
            refine qm_C.go (cd := qm_P86) (lv := [(0, qm_I (qm_i 3))]) rfl rfl ?_
            refine qm_G.s1 rfl (qm_x_iload rfl) ?_
            refine qm_G.s1 rfl (qm_x_pushI 0 rfl) ?_
            refine qm_G.s1 rfl (qm_x_pushI 5 rfl) ?_
            refine qm_G.cs rfl rfl rfl ?_
            refine qm_v_within11_t ⟨by decide, by decide⟩ ⟨by decide, by decide⟩ ⟨by decide, by decide⟩ (by decide) ⟨_, rfl, ?_⟩
            refine qm_G.ret rfl rfl ⟨_, rfl, ?_⟩
            refine qm_G.s1 rfl (qm_x_if_ne_t ⟨by decide, by decide⟩ (by decide)) ?_
            refine qm_G.sp (lv1 := [(0, qm_R (some (0, 61, 0))), (1, qm_I (qm_i 3)), (2, qm_I (qm_i a2)), (3, qm_L (((qm_l a3) <<< ((qm_i 32).toInt64 &&& 63)) ||| ((qm_l a4) &&& (qm_l 4294967295))))]) rfl rfl (qm_x_aload rfl) ?_
            refine qm_G.s1 rfl (qm_x_getfR (q := (some (0, 73, 0))) (hS 61 rfl) (hR 61 20 73 rfl rfl)) ?_
            refine qm_G.s1 rfl (qm_x_iload rfl) ?_
            refine qm_G.s1 rfl (qm_x_iald (v := (J 73 0 3)) (qm_arS hS rfl rfl) rfl (by decide) (by decide) (by decide) rfl) ?_
            refine qm_G.s1 rfl (qm_x_if_ne_t ⟨by omega, by omega⟩ (by omega)) ?_
            refine qm_G.sp (lv1 := [(0, qm_R (some (0, 61, 0))), (1, qm_I (qm_i 3)), (2, qm_I (qm_i a2)), (3, qm_L (((qm_l a3) <<< ((qm_i 32).toInt64 &&& 63)) ||| ((qm_l a4) &&& (qm_l 4294967295))))]) rfl rfl (qm_x_iload rfl) ?_
            refine qm_G.s1 rfl (qm_x_pushI 0 rfl) ?_
            refine qm_G.s1 rfl (qm_x_aload rfl) ?_
            refine qm_G.s1 rfl (qm_x_getfR (q := (some (0, 74, 0))) (hS 61 rfl) (hR 61 21 74 rfl rfl)) ?_
            refine qm_G.s1 rfl (qm_x_iload rfl) ?_
            refine qm_G.s1 rfl (qm_x_iald (v := (J 74 0 3)) (qm_arS hS rfl rfl) rfl (by decide) (by decide) (by decide) rfl) ?_
            refine qm_G.s1 rfl (qm_x_pushI 1 rfl) ?_
            refine qm_G.s1 rfl (qm_x_isub) ?_
            refine qm_G.cs rfl rfl rfl ?_
            refine qm_v_within11_t ⟨by omega, by omega⟩ ⟨by decide, by decide⟩ ⟨by omega, by omega⟩ (by omega) ⟨_, rfl, ?_⟩
            refine qm_G.s1 rfl (qm_x_if_ne_t ⟨by decide, by decide⟩ (by decide)) ?_
            refine qm_G.sp (lv1 := [(0, qm_R (some (0, 61, 0))), (1, qm_I (qm_i 3)), (2, qm_I (qm_i a2)), (3, qm_L (((qm_l a3) <<< ((qm_i 32).toInt64 &&& 63)) ||| ((qm_l a4) &&& (qm_l 4294967295))))]) rfl rfl (qm_x_aload rfl) ?_
            refine qm_G.s1 rfl (qm_x_getfR (q := (some (0, 73, 0))) (hS 61 rfl) (hR 61 20 73 rfl rfl)) ?_
            refine qm_G.s1 rfl (qm_x_iload rfl) ?_
            refine qm_G.s1 rfl (qm_x_iald (v := (J 73 0 3)) (qm_arS hS rfl rfl) rfl (by decide) (by decide) (by decide) rfl) ?_
            refine qm_G.s1 rfl (qm_x_istore (lv' := [(5, qm_I (qm_i (J 73 0 3))), (0, qm_R (some (0, 61, 0))), (1, qm_I (qm_i 3)), (2, qm_I (qm_i a2)), (3, qm_L (((qm_l a3) <<< ((qm_i 32).toInt64 &&& 63)) ||| ((qm_l a4) &&& (qm_l 4294967295))))]) rfl) ?_
            refine qm_G.s1 rfl (qm_x_aload rfl) ?_
            refine qm_G.s1 rfl (qm_x_getfR (q := (some (0, 75, 0))) (hS 61 rfl) (hR 61 22 75 rfl rfl)) ?_
            refine qm_G.s1 rfl (qm_x_pushI 60 rfl) ?_
            refine qm_G.s1 rfl (qm_x_iload rfl) ?_
            refine qm_G.s1 rfl (qm_x_imul) ?_
            refine qm_G.s1 rfl (qm_x_iload rfl) ?_
            refine qm_G.s1 rfl (qm_x_iadd) ?_
            refine qm_G.s1 rfl (qm_x_iload rfl) ?_
            refine qm_G.s1 rfl (qm_x_pushI 1 rfl) ?_
            refine qm_G.s1 rfl (qm_x_icmp_ne_t ⟨by omega, by omega⟩ ⟨by decide, by decide⟩ (by omega)) ?_
            refine qm_G.sp (lv1 := [(3, qm_L (((qm_l a3) <<< ((qm_i 32).toInt64 &&& 63)) ||| ((qm_l a4) &&& (qm_l 4294967295)))), (5, qm_I (qm_i (J 73 0 3)))]) rfl rfl (qm_x_iload rfl) ?_
            refine qm_G.s1 rfl (qm_x_pushI 2 rfl) ?_
            refine qm_G.s1 rfl (qm_x_icmp_ne_t ⟨by omega, by omega⟩ ⟨by decide, by decide⟩ (by omega)) ?_
            refine qm_G.sp (lv1 := [(3, qm_L (((qm_l a3) <<< ((qm_i 32).toInt64 &&& 63)) ||| ((qm_l a4) &&& (qm_l 4294967295)))), (5, qm_I (qm_i (J 73 0 3)))]) rfl rfl (qm_x_iload rfl) ?_
            refine qm_G.s1 rfl (qm_x_pushI 3 rfl) ?_
            refine qm_G.s1 rfl (qm_x_icmp_ne_t ⟨by omega, by omega⟩ ⟨by decide, by decide⟩ (by omega)) ?_
            refine qm_G.sp (lv1 := [(3, qm_L (((qm_l a3) <<< ((qm_i 32).toInt64 &&& 63)) ||| ((qm_l a4) &&& (qm_l 4294967295)))), (5, qm_I (qm_i (J 73 0 3)))]) rfl rfl (qm_x_iload rfl) ?_
            refine qm_G.s1 rfl (qm_x_pushI 4 rfl) ?_
            refine qm_G.s1 rfl (qm_x_icmp_ne_t ⟨by omega, by omega⟩ ⟨by decide, by decide⟩ (by omega)) ?_
            refine qm_G.sp (lv1 := [(3, qm_L (((qm_l a3) <<< ((qm_i 32).toInt64 &&& 63)) ||| ((qm_l a4) &&& (qm_l 4294967295))))]) rfl rfl (qm_x_lload rfl) ?_
            refine qm_G.s1 rfl (qm_x_pushL 0 rfl) ?_
            refine qm_G.s1 rfl (qm_x_lcmp_eq c120) ?_
            refine qm_G.s1 rfl (qm_x_if_eq_t ⟨by decide, by decide⟩ (by decide)) ?_
            refine qm_G.sp (lv1 := []) rfl rfl (qm_x_pushL 0 rfl) ?_
            refine qm_G.sp (lv1 := []) rfl rfl (qm_x_last (qm_arS hS rfl rfl) rfl (by omega) (by omega) (by decide)) ?_
            refine qm_G.s1 rfl (qm_x_pushI 1 rfl) ?_
            refine qm_G.ret rfl rfl ⟨_, rfl, ?_⟩
            refine qm_G.s1 rfl (qm_x_icmp_eq_t ⟨by decide, by decide⟩ ⟨by decide, by decide⟩ (by decide)) ?_
            rw [show (Int.toNat ((60 * 3) + a2)) = 180 + (Int.toNat a2) by omega]
            exact ih _ _ _ _ _ _ (qm_U_itm3 (by omega) hI)
          · refine qm_G.s1 rfl (qm_x_if_eq_f ⟨by decide, by decide⟩ (by decide)) ?_
            refine qm_G.s1 rfl (qm_x_pushL 1 rfl) ?_
            refine qm_G.s1 rfl (qm_x_goto) ?_
            refine qm_G.ret rfl rfl ⟨_, rfl, ?_⟩
            refine qm_G.s1 rfl (qm_x_last (qm_arS hS rfl rfl) rfl (by omega) (by omega) (by decide)) ?_
            refine qm_G.s1 rfl (qm_x_pushI 1 rfl) ?_
            refine qm_G.ret rfl rfl ⟨_, rfl, ?_⟩
            refine qm_G.s1 rfl (qm_x_aload rfl) ?_
            refine qm_G.s1 rfl (qm_x_aload rfl) ?_
            refine qm_G.s1 rfl (qm_x_iload rfl) ?_
            refine qm_G.s1 rfl (qm_x_pushI 1 rfl) ?_
            refine qm_G.s1 rfl (qm_x_iadd) ?_
            refine qm_G.s1 rfl (qm_x_iald2v (v := 3) (by omega) (by omega) hX e1) ?_
            refine qm_G.s1 rfl (qm_x_aload rfl) ?_
            refine qm_G.s1 rfl (qm_x_iload rfl) ?_
            refine qm_G.s1 rfl (qm_x_pushI 2 rfl) ?_
            refine qm_G.s1 rfl (qm_x_iadd) ?_
            refine qm_G.s1 rfl (qm_x_iald2v (v := a2) (by omega) (by omega) hX e2) ?_
            refine qm_G.s1 rfl (qm_x_aload rfl) ?_
            refine qm_G.s1 rfl (qm_x_iload rfl) ?_
            refine qm_G.s1 rfl (qm_x_pushI 3 rfl) ?_
            refine qm_G.s1 rfl (qm_x_iadd) ?_
            refine qm_G.s1 rfl (qm_x_iald2v (v := a3) (by omega) (by omega) hX e3) ?_
            refine qm_G.s1 rfl (qm_x_i2l ⟨by omega, by omega⟩) ?_
            refine qm_G.s1 rfl (qm_x_pushI 32 rfl) ?_
            refine qm_G.s1 rfl (qm_x_lshl) ?_
            refine qm_G.s1 rfl (qm_x_aload rfl) ?_
            refine qm_G.s1 rfl (qm_x_iload rfl) ?_
            refine qm_G.s1 rfl (qm_x_pushI 4 rfl) ?_
            refine qm_G.s1 rfl (qm_x_iadd) ?_
            refine qm_G.s1 rfl (qm_x_iald2v (v := a4) (by omega) (by omega) hX e4) ?_
            refine qm_G.s1 rfl (qm_x_i2l ⟨by omega, by omega⟩) ?_
            refine qm_G.s1 rfl (qm_x_pushL 4294967295 rfl) ?_
            refine qm_G.s1 rfl (qm_x_land) ?_
            refine qm_G.s1 rfl (qm_x_lor) ?_
            refine qm_G.cm rfl rfl (hS 61 rfl) rfl ?_
            refine qm_C.go (cd := qm_P125) (lv := [(0, qm_R (some (0, 61, 0))), (1, qm_I (qm_i 3)), (2, qm_I (qm_i a2)), (3, qm_L (((qm_l a3) <<< ((qm_i 32).toInt64 &&& 63)) ||| ((qm_l a4) &&& (qm_l 4294967295))))]) rfl rfl ?_
            refine qm_G.s1 rfl (qm_x_iload rfl) ?_
            refine qm_G.cs rfl rfl rfl ?_
            refine qm_C.go (cd := qm_P86) (lv := [(0, qm_I (qm_i 3))]) rfl rfl ?_
            refine qm_G.s1 rfl (qm_x_iload rfl) ?_
            refine qm_G.s1 rfl (qm_x_pushI 0 rfl) ?_
            refine qm_G.s1 rfl (qm_x_pushI 5 rfl) ?_
            refine qm_G.cs rfl rfl rfl ?_
            refine qm_v_within11_t ⟨by decide, by decide⟩ ⟨by decide, by decide⟩ ⟨by decide, by decide⟩ (by decide) ⟨_, rfl, ?_⟩
            refine qm_G.ret rfl rfl ⟨_, rfl, ?_⟩
            refine qm_G.s1 rfl (qm_x_if_ne_t ⟨by decide, by decide⟩ (by decide)) ?_
            refine qm_G.sp (lv1 := [(0, qm_R (some (0, 61, 0))), (1, qm_I (qm_i 3)), (2, qm_I (qm_i a2)), (3, qm_L (((qm_l a3) <<< ((qm_i 32).toInt64 &&& 63)) ||| ((qm_l a4) &&& (qm_l 4294967295))))]) rfl rfl (qm_x_aload rfl) ?_
            refine qm_G.s1 rfl (qm_x_getfR (q := (some (0, 73, 0))) (hS 61 rfl) (hR 61 20 73 rfl rfl)) ?_
            refine qm_G.s1 rfl (qm_x_iload rfl) ?_
            refine qm_G.s1 rfl (qm_x_iald (v := (J 73 0 3)) (qm_arS hS rfl rfl) rfl (by decide) (by decide) (by decide) rfl) ?_
            refine qm_G.s1 rfl (qm_x_if_ne_t ⟨by omega, by omega⟩ (by omega)) ?_
            refine qm_G.sp (lv1 := [(0, qm_R (some (0, 61, 0))), (1, qm_I (qm_i 3)), (2, qm_I (qm_i a2)), (3, qm_L (((qm_l a3) <<< ((qm_i 32).toInt64 &&& 63)) ||| ((qm_l a4) &&& (qm_l 4294967295))))]) rfl rfl (qm_x_iload rfl) ?_
            refine qm_G.s1 rfl (qm_x_pushI 0 rfl) ?_
            refine qm_G.s1 rfl (qm_x_aload rfl) ?_
            refine qm_G.s1 rfl (qm_x_getfR (q := (some (0, 74, 0))) (hS 61 rfl) (hR 61 21 74 rfl rfl)) ?_
            refine qm_G.s1 rfl (qm_x_iload rfl) ?_
            refine qm_G.s1 rfl (qm_x_iald (v := (J 74 0 3)) (qm_arS hS rfl rfl) rfl (by decide) (by decide) (by decide) rfl) ?_
            refine qm_G.s1 rfl (qm_x_pushI 1 rfl) ?_
            refine qm_G.s1 rfl (qm_x_isub) ?_
            refine qm_G.cs rfl rfl rfl ?_
            refine qm_v_within11_t ⟨by omega, by omega⟩ ⟨by decide, by decide⟩ ⟨by omega, by omega⟩ (by omega) ⟨_, rfl, ?_⟩
            refine qm_G.s1 rfl (qm_x_if_ne_t ⟨by decide, by decide⟩ (by decide)) ?_
            refine qm_G.sp (lv1 := [(0, qm_R (some (0, 61, 0))), (1, qm_I (qm_i 3)), (2, qm_I (qm_i a2)), (3, qm_L (((qm_l a3) <<< ((qm_i 32).toInt64 &&& 63)) ||| ((qm_l a4) &&& (qm_l 4294967295))))]) rfl rfl (qm_x_aload rfl) ?_
            refine qm_G.s1 rfl (qm_x_getfR (q := (some (0, 73, 0))) (hS 61 rfl) (hR 61 20 73 rfl rfl)) ?_
            refine qm_G.s1 rfl (qm_x_iload rfl) ?_
            refine qm_G.s1 rfl (qm_x_iald (v := (J 73 0 3)) (qm_arS hS rfl rfl) rfl (by decide) (by decide) (by decide) rfl) ?_
            refine qm_G.s1 rfl (qm_x_istore (lv' := [(5, qm_I (qm_i (J 73 0 3))), (0, qm_R (some (0, 61, 0))), (1, qm_I (qm_i 3)), (2, qm_I (qm_i a2)), (3, qm_L (((qm_l a3) <<< ((qm_i 32).toInt64 &&& 63)) ||| ((qm_l a4) &&& (qm_l 4294967295))))]) rfl) ?_
            refine qm_G.s1 rfl (qm_x_aload rfl) ?_
            refine qm_G.s1 rfl (qm_x_getfR (q := (some (0, 75, 0))) (hS 61 rfl) (hR 61 22 75 rfl rfl)) ?_
            refine qm_G.s1 rfl (qm_x_pushI 60 rfl) ?_
            refine qm_G.s1 rfl (qm_x_iload rfl) ?_
            refine qm_G.s1 rfl (qm_x_imul) ?_
            refine qm_G.s1 rfl (qm_x_iload rfl) ?_
            refine qm_G.s1 rfl (qm_x_iadd) ?_
            refine qm_G.s1 rfl (qm_x_iload rfl) ?_
            refine qm_G.s1 rfl (qm_x_pushI 1 rfl) ?_
            refine qm_G.s1 rfl (qm_x_icmp_ne_t ⟨by omega, by omega⟩ ⟨by decide, by decide⟩ (by omega)) ?_
            refine qm_G.sp (lv1 := [(3, qm_L (((qm_l a3) <<< ((qm_i 32).toInt64 &&& 63)) ||| ((qm_l a4) &&& (qm_l 4294967295)))), (5, qm_I (qm_i (J 73 0 3)))]) rfl rfl (qm_x_iload rfl) ?_
            refine qm_G.s1 rfl (qm_x_pushI 2 rfl) ?_
            refine qm_G.s1 rfl (qm_x_icmp_ne_t ⟨by omega, by omega⟩ ⟨by decide, by decide⟩ (by omega)) ?_
            refine qm_G.sp (lv1 := [(3, qm_L (((qm_l a3) <<< ((qm_i 32).toInt64 &&& 63)) ||| ((qm_l a4) &&& (qm_l 4294967295)))), (5, qm_I (qm_i (J 73 0 3)))]) rfl rfl (qm_x_iload rfl) ?_
            refine qm_G.s1 rfl (qm_x_pushI 3 rfl) ?_
            refine qm_G.s1 rfl (qm_x_icmp_ne_t ⟨by omega, by omega⟩ ⟨by decide, by decide⟩ (by omega)) ?_
            refine qm_G.sp (lv1 := [(3, qm_L (((qm_l a3) <<< ((qm_i 32).toInt64 &&& 63)) ||| ((qm_l a4) &&& (qm_l 4294967295)))), (5, qm_I (qm_i (J 73 0 3)))]) rfl rfl (qm_x_iload rfl) ?_
            refine qm_G.s1 rfl (qm_x_pushI 4 rfl) ?_
            refine qm_G.s1 rfl (qm_x_icmp_ne_t ⟨by omega, by omega⟩ ⟨by decide, by decide⟩ (by omega)) ?_
            refine qm_G.sp (lv1 := [(3, qm_L (((qm_l a3) <<< ((qm_i 32).toInt64 &&& 63)) ||| ((qm_l a4) &&& (qm_l 4294967295))))]) rfl rfl (qm_x_lload rfl) ?_
            refine qm_G.s1 rfl (qm_x_pushL 0 rfl) ?_
            refine qm_G.s1 rfl (qm_x_lcmp_gt c120) ?_
            refine qm_G.s1 rfl (qm_x_if_eq_f ⟨by decide, by decide⟩ (by decide)) ?_
            refine qm_G.s1 rfl (qm_x_pushL 1 rfl) ?_
            refine qm_G.s1 rfl (qm_x_goto) ?_
            refine qm_G.sp (lv1 := []) rfl rfl (qm_x_last (qm_arS hS rfl rfl) rfl (by omega) (by omega) (by decide)) ?_
            refine qm_G.s1 rfl (qm_x_pushI 1 rfl) ?_
            refine qm_G.ret rfl rfl ⟨_, rfl, ?_⟩
            refine qm_G.s1 rfl (qm_x_icmp_eq_t ⟨by decide, by decide⟩ ⟨by decide, by decide⟩ (by decide)) ?_
            rw [show (Int.toNat ((60 * 3) + a2)) = 180 + (Int.toNat a2) by omega]
            exact ih _ _ _ _ _ _ (qm_U_itm3 (by omega) hI)
      · refine qm_G.s1 rfl (qm_x_if_ne_f ⟨by decide, by decide⟩ (by decide)) ?_
        refine qm_G.s1 rfl (qm_x_pushI (-13) rfl) ?_
        refine qm_G.ret rfl rfl ⟨_, rfl, ?_⟩
        refine qm_G.s1 rfl (qm_x_aload rfl) ?_
        refine qm_G.s1 rfl (qm_x_aload rfl) ?_
        refine qm_G.s1 rfl (qm_x_iload rfl) ?_
        refine qm_G.s1 rfl (qm_x_pushI 1 rfl) ?_
        refine qm_G.s1 rfl (qm_x_iadd) ?_
        refine qm_G.s1 rfl (qm_x_iald2v (v := 3) (by omega) (by omega) hX e1) ?_
        refine qm_G.s1 rfl (qm_x_aload rfl) ?_
        refine qm_G.s1 rfl (qm_x_iload rfl) ?_
        refine qm_G.s1 rfl (qm_x_pushI 2 rfl) ?_
        refine qm_G.s1 rfl (qm_x_iadd) ?_
        refine qm_G.s1 rfl (qm_x_iald2v (v := a2) (by omega) (by omega) hX e2) ?_
        refine qm_G.s1 rfl (qm_x_aload rfl) ?_
        refine qm_G.s1 rfl (qm_x_iload rfl) ?_
        refine qm_G.s1 rfl (qm_x_pushI 3 rfl) ?_
        refine qm_G.s1 rfl (qm_x_iadd) ?_
        refine qm_G.s1 rfl (qm_x_iald2v (v := a3) (by omega) (by omega) hX e3) ?_
        refine qm_G.s1 rfl (qm_x_i2l ⟨by omega, by omega⟩) ?_
        refine qm_G.s1 rfl (qm_x_pushI 32 rfl) ?_
        refine qm_G.s1 rfl (qm_x_lshl) ?_
        refine qm_G.s1 rfl (qm_x_aload rfl) ?_
        refine qm_G.s1 rfl (qm_x_iload rfl) ?_
        refine qm_G.s1 rfl (qm_x_pushI 4 rfl) ?_
        refine qm_G.s1 rfl (qm_x_iadd) ?_
        refine qm_G.s1 rfl (qm_x_iald2v (v := a4) (by omega) (by omega) hX e4) ?_
        refine qm_G.s1 rfl (qm_x_i2l ⟨by omega, by omega⟩) ?_
        refine qm_G.s1 rfl (qm_x_pushL 4294967295 rfl) ?_
        refine qm_G.s1 rfl (qm_x_land) ?_
        refine qm_G.s1 rfl (qm_x_lor) ?_
        refine qm_G.cm rfl rfl (hS 61 rfl) rfl ?_
        refine qm_C.go (cd := qm_P125) (lv := [(0, qm_R (some (0, 61, 0))), (1, qm_I (qm_i 3)), (2, qm_I (qm_i a2)), (3, qm_L (((qm_l a3) <<< ((qm_i 32).toInt64 &&& 63)) ||| ((qm_l a4) &&& (qm_l 4294967295))))]) rfl rfl ?_
        refine qm_G.s1 rfl (qm_x_iload rfl) ?_
        refine qm_G.cs rfl rfl rfl ?_
        refine qm_C.go (cd := qm_P86) (lv := [(0, qm_I (qm_i 3))]) rfl rfl ?_
        refine qm_G.s1 rfl (qm_x_iload rfl) ?_
        refine qm_G.s1 rfl (qm_x_pushI 0 rfl) ?_
        refine qm_G.s1 rfl (qm_x_pushI 5 rfl) ?_
        refine qm_G.cs rfl rfl rfl ?_
        refine qm_v_within11_t ⟨by decide, by decide⟩ ⟨by decide, by decide⟩ ⟨by decide, by decide⟩ (by decide) ⟨_, rfl, ?_⟩
        refine qm_G.ret rfl rfl ⟨_, rfl, ?_⟩
        refine qm_G.s1 rfl (qm_x_if_ne_t ⟨by decide, by decide⟩ (by decide)) ?_
        refine qm_G.sp (lv1 := [(0, qm_R (some (0, 61, 0))), (1, qm_I (qm_i 3)), (2, qm_I (qm_i a2)), (3, qm_L (((qm_l a3) <<< ((qm_i 32).toInt64 &&& 63)) ||| ((qm_l a4) &&& (qm_l 4294967295))))]) rfl rfl (qm_x_aload rfl) ?_
        refine qm_G.s1 rfl (qm_x_getfR (q := (some (0, 73, 0))) (hS 61 rfl) (hR 61 20 73 rfl rfl)) ?_
        refine qm_G.s1 rfl (qm_x_iload rfl) ?_
        refine qm_G.s1 rfl (qm_x_iald (v := (J 73 0 3)) (qm_arS hS rfl rfl) rfl (by decide) (by decide) (by decide) rfl) ?_
        refine qm_G.s1 rfl (qm_x_if_ne_t ⟨by omega, by omega⟩ (by omega)) ?_
        refine qm_G.sp (lv1 := [(0, qm_R (some (0, 61, 0))), (1, qm_I (qm_i 3)), (2, qm_I (qm_i a2)), (3, qm_L (((qm_l a3) <<< ((qm_i 32).toInt64 &&& 63)) ||| ((qm_l a4) &&& (qm_l 4294967295))))]) rfl rfl (qm_x_iload rfl) ?_
        refine qm_G.s1 rfl (qm_x_pushI 0 rfl) ?_
        refine qm_G.s1 rfl (qm_x_aload rfl) ?_
        refine qm_G.s1 rfl (qm_x_getfR (q := (some (0, 74, 0))) (hS 61 rfl) (hR 61 21 74 rfl rfl)) ?_
        refine qm_G.s1 rfl (qm_x_iload rfl) ?_
        refine qm_G.s1 rfl (qm_x_iald (v := (J 74 0 3)) (qm_arS hS rfl rfl) rfl (by decide) (by decide) (by decide) rfl) ?_
        refine qm_G.s1 rfl (qm_x_pushI 1 rfl) ?_
        refine qm_G.s1 rfl (qm_x_isub) ?_
        refine qm_G.cs rfl rfl rfl ?_
        refine qm_v_within11_f ⟨by omega, by omega⟩ ⟨by decide, by decide⟩ ⟨by omega, by omega⟩ (by omega) ⟨_, rfl, ?_⟩
        refine qm_G.s1 rfl (qm_x_if_ne_f ⟨by decide, by decide⟩ (by decide)) ?_
        refine qm_G.s1 rfl (qm_x_pushI (-13) rfl) ?_
        refine qm_G.ret rfl rfl ⟨_, rfl, ?_⟩
        refine qm_G.s1 rfl (qm_x_icmp_eq_t ⟨by decide, by decide⟩ ⟨by decide, by decide⟩ (by decide)) ?_
        exact ih _ _ _ _ _ _ hI.next
    · refine qm_G.s1 rfl (qm_x_pushI (-11) rfl) ?_
      refine qm_G.ret rfl rfl ⟨_, rfl, ?_⟩
      refine qm_G.s1 rfl (qm_x_aload rfl) ?_
      refine qm_G.s1 rfl (qm_x_aload rfl) ?_
      refine qm_G.s1 rfl (qm_x_iload rfl) ?_
      refine qm_G.s1 rfl (qm_x_pushI 1 rfl) ?_
      refine qm_G.s1 rfl (qm_x_iadd) ?_
      refine qm_G.s1 rfl (qm_x_iald2v (v := 3) (by omega) (by omega) hX e1) ?_
      refine qm_G.s1 rfl (qm_x_aload rfl) ?_
      refine qm_G.s1 rfl (qm_x_iload rfl) ?_
      refine qm_G.s1 rfl (qm_x_pushI 2 rfl) ?_
      refine qm_G.s1 rfl (qm_x_iadd) ?_
      refine qm_G.s1 rfl (qm_x_iald2v (v := a2) (by omega) (by omega) hX e2) ?_
      refine qm_G.s1 rfl (qm_x_aload rfl) ?_
      refine qm_G.s1 rfl (qm_x_iload rfl) ?_
      refine qm_G.s1 rfl (qm_x_pushI 3 rfl) ?_
      refine qm_G.s1 rfl (qm_x_iadd) ?_
      refine qm_G.s1 rfl (qm_x_iald2v (v := a3) (by omega) (by omega) hX e3) ?_
      refine qm_G.s1 rfl (qm_x_i2l ⟨by omega, by omega⟩) ?_
      refine qm_G.s1 rfl (qm_x_pushI 32 rfl) ?_
      refine qm_G.s1 rfl (qm_x_lshl) ?_
      refine qm_G.s1 rfl (qm_x_aload rfl) ?_
      refine qm_G.s1 rfl (qm_x_iload rfl) ?_
      refine qm_G.s1 rfl (qm_x_pushI 4 rfl) ?_
      refine qm_G.s1 rfl (qm_x_iadd) ?_
      refine qm_G.s1 rfl (qm_x_iald2v (v := a4) (by omega) (by omega) hX e4) ?_
      refine qm_G.s1 rfl (qm_x_i2l ⟨by omega, by omega⟩) ?_
      refine qm_G.s1 rfl (qm_x_pushL 4294967295 rfl) ?_
      refine qm_G.s1 rfl (qm_x_land) ?_
      refine qm_G.s1 rfl (qm_x_lor) ?_
      refine qm_G.cm rfl rfl (hS 61 rfl) rfl ?_
      refine qm_C.go (cd := qm_P125) (lv := [(0, qm_R (some (0, 61, 0))), (1, qm_I (qm_i 3)), (2, qm_I (qm_i a2)), (3, qm_L (((qm_l a3) <<< ((qm_i 32).toInt64 &&& 63)) ||| ((qm_l a4) &&& (qm_l 4294967295))))]) rfl rfl ?_
      refine qm_G.s1 rfl (qm_x_iload rfl) ?_
      refine qm_G.cs rfl rfl rfl ?_
      refine qm_C.go (cd := qm_P86) (lv := [(0, qm_I (qm_i 3))]) rfl rfl ?_
      refine qm_G.s1 rfl (qm_x_iload rfl) ?_
      refine qm_G.s1 rfl (qm_x_pushI 0 rfl) ?_
      refine qm_G.s1 rfl (qm_x_pushI 5 rfl) ?_
      refine qm_G.cs rfl rfl rfl ?_
      refine qm_v_within11_t ⟨by decide, by decide⟩ ⟨by decide, by decide⟩ ⟨by decide, by decide⟩ (by decide) ⟨_, rfl, ?_⟩
      refine qm_G.ret rfl rfl ⟨_, rfl, ?_⟩
      refine qm_G.s1 rfl (qm_x_if_ne_t ⟨by decide, by decide⟩ (by decide)) ?_
      refine qm_G.sp (lv1 := [(0, qm_R (some (0, 61, 0))), (1, qm_I (qm_i 3)), (2, qm_I (qm_i a2)), (3, qm_L (((qm_l a3) <<< ((qm_i 32).toInt64 &&& 63)) ||| ((qm_l a4) &&& (qm_l 4294967295))))]) rfl rfl (qm_x_aload rfl) ?_
      refine qm_G.s1 rfl (qm_x_getfR (q := (some (0, 73, 0))) (hS 61 rfl) (hR 61 20 73 rfl rfl)) ?_
      refine qm_G.s1 rfl (qm_x_iload rfl) ?_
      refine qm_G.s1 rfl (qm_x_iald (v := (J 73 0 3)) (qm_arS hS rfl rfl) rfl (by decide) (by decide) (by decide) rfl) ?_
      refine qm_G.s1 rfl (qm_x_if_ne_f ⟨by omega, by omega⟩ (by omega)) ?_
      refine qm_G.s1 rfl (qm_x_pushI (-11) rfl) ?_
      refine qm_G.ret rfl rfl ⟨_, rfl, ?_⟩
      refine qm_G.s1 rfl (qm_x_icmp_eq_t ⟨by decide, by decide⟩ ⟨by decide, by decide⟩ (by decide)) ?_
      exact ih _ _ _ _ _ _ hI.next
  · subst d1
    refine qm_G.sp (lv1 := [(0, qm_R (some (2, 0, 0))), (1, qm_R (some (0, 0, 0))), (2, qm_R (some (0, 61, 0))), (3, qm_I (qm_i z))]) rfl rfl (qm_x_aload rfl) ?_
    refine qm_G.s1 rfl (qm_x_aload rfl) ?_
    refine qm_G.s1 rfl (qm_x_iload rfl) ?_
    refine qm_G.s1 rfl (qm_x_pushI 1 rfl) ?_
    refine qm_G.s1 rfl (qm_x_iadd) ?_
    refine qm_G.s1 rfl (qm_x_iald2v (v := 4) (by omega) (by omega) hX e1) ?_
    refine qm_G.s1 rfl (qm_x_aload rfl) ?_
    refine qm_G.s1 rfl (qm_x_iload rfl) ?_
    refine qm_G.s1 rfl (qm_x_pushI 2 rfl) ?_
    refine qm_G.s1 rfl (qm_x_iadd) ?_
    refine qm_G.s1 rfl (qm_x_iald2v (v := a2) (by omega) (by omega) hX e2) ?_
    refine qm_G.s1 rfl (qm_x_aload rfl) ?_
    refine qm_G.s1 rfl (qm_x_iload rfl) ?_
    refine qm_G.s1 rfl (qm_x_pushI 3 rfl) ?_
    refine qm_G.s1 rfl (qm_x_iadd) ?_
    refine qm_G.s1 rfl (qm_x_iald2v (v := a3) (by omega) (by omega) hX e3) ?_
    refine qm_G.s1 rfl (qm_x_i2l ⟨by omega, by omega⟩) ?_
    refine qm_G.s1 rfl (qm_x_pushI 32 rfl) ?_
    refine qm_G.s1 rfl (qm_x_lshl) ?_
    refine qm_G.s1 rfl (qm_x_aload rfl) ?_
    refine qm_G.s1 rfl (qm_x_iload rfl) ?_
    refine qm_G.s1 rfl (qm_x_pushI 4 rfl) ?_
    refine qm_G.s1 rfl (qm_x_iadd) ?_
    refine qm_G.s1 rfl (qm_x_iald2v (v := a4) (by omega) (by omega) hX e4) ?_
    refine qm_G.s1 rfl (qm_x_i2l ⟨by omega, by omega⟩) ?_
    refine qm_G.s1 rfl (qm_x_pushL 4294967295 rfl) ?_
    refine qm_G.s1 rfl (qm_x_land) ?_
    refine qm_G.s1 rfl (qm_x_lor) ?_
    refine qm_G.cm rfl rfl (hS 0 rfl) rfl ?_
    refine qm_C.go (cd := qm_P114) (lv := [(0, qm_R (some (0, 0, 0))), (1, qm_I (qm_i 4)), (2, qm_I (qm_i a2)), (3, qm_L (((qm_l a3) <<< ((qm_i 32).toInt64 &&& 63)) ||| ((qm_l a4) &&& (qm_l 4294967295))))]) rfl rfl ?_
    refine qm_G.s1 rfl (qm_x_iload rfl) ?_
    refine qm_G.cs rfl rfl rfl ?_
    refine qm_C.go (cd := qm_P76) (lv := [(0, qm_I (qm_i 4))]) rfl rfl ?_
    refine qm_G.s1 rfl (qm_x_iload rfl) ?_
    refine qm_G.s1 rfl (qm_x_pushI 0 rfl) ?_
    refine qm_G.s1 rfl (qm_x_pushI 5 rfl) ?_
    refine qm_G.cs rfl rfl rfl ?_
    refine qm_v_within10_t ⟨by decide, by decide⟩ ⟨by decide, by decide⟩ ⟨by decide, by decide⟩ (by decide) ⟨_, rfl, ?_⟩
    refine qm_G.ret rfl rfl ⟨_, rfl, ?_⟩
    refine qm_G.s1 rfl (qm_x_if_ne_t ⟨by decide, by decide⟩ (by decide)) ?_
    refine qm_G.sp (lv1 := [(0, qm_R (some (0, 0, 0))), (1, qm_I (qm_i 4)), (2, qm_I (qm_i a2)), (3, qm_L (((qm_l a3) <<< ((qm_i 32).toInt64 &&& 63)) ||| ((qm_l a4) &&& (qm_l 4294967295))))]) rfl rfl (qm_x_aload rfl) ?_
    refine qm_G.s1 rfl (qm_x_getfR (q := (some (0, 46, 0))) (hS 0 rfl) (hR 0 5 46 rfl rfl)) ?_
    refine qm_G.s1 rfl (qm_x_iload rfl) ?_
    refine qm_G.s1 rfl (qm_x_aaldr (q := (some (0, 57, 0))) (hS 46 rfl) rfl rfl (by decide) (by decide) (hR 46 4 57 rfl rfl)) ?_
    refine qm_G.s1 rfl (qm_x_astore (lv' := [(5, qm_R (some (0, 57, 0))), (0, qm_R (some (0, 0, 0))), (1, qm_I (qm_i 4)), (2, qm_I (qm_i a2)), (3, qm_L (((qm_l a3) <<< ((qm_i 32).toInt64 &&& 63)) ||| ((qm_l a4) &&& (qm_l 4294967295))))]) rfl) ?_
    refine qm_G.s1 rfl (qm_x_aload rfl) ?_
    have f73_4 : 0 ≤ J 73 0 4 ∧ J 73 0 4 ≤ 5 := (hI.srt 4 (by decide)).2
    have f57_1 : J 57 0 1 = J 73 0 4 - 1 := (hI.srt 4 (by decide)).1
    refine qm_G.s1 rfl (qm_x_getfI (v := (J 57 0 1)) (hS 57 rfl) rfl) ?_
    refine qm_G.s1 rfl (qm_x_pushI (-1) rfl) ?_
    refine qm_y_icmp_ne rfl ⟨by omega, by omega⟩ ⟨by decide, by decide⟩ (fun c131 => ?_) (fun c131 => ?_)
    · refine qm_G.sp (lv1 := [(2, qm_I (qm_i a2)), (3, qm_L (((qm_l a3) <<< ((qm_i 32).toInt64 &&& 63)) ||| ((qm_l a4) &&& (qm_l 4294967295)))), (5, qm_R (some (0, 57, 0)))]) rfl rfl (qm_x_iload rfl) ?_
      refine qm_G.s1 rfl (qm_x_pushI 0 rfl) ?_
      refine qm_G.s1 rfl (qm_x_aload rfl) ?_
      have f74_4 : 0 ≤ J 74 0 4 ∧ J 74 0 4 ≤ 60 := ⟨(hI.len 4 (by decide)).2.1, (hI.len 4 (by decide)).2.2.1⟩
      have f57_2 : J 57 0 2 = J 74 0 4 := (hI.len 4 (by decide)).1
      refine qm_G.s1 rfl (qm_x_getfI (v := (J 57 0 2)) (hS 57 rfl) rfl) ?_
      refine qm_G.s1 rfl (qm_x_pushI 1 rfl) ?_
      refine qm_G.s1 rfl (qm_x_isub) ?_
      refine qm_G.cs rfl rfl rfl ?_
      refine qm_v_within10 ⟨by omega, by omega⟩ ⟨by decide, by decide⟩ ⟨by omega, by omega⟩ (fun c132 => ⟨_, rfl, ?_⟩) (fun c132 => ⟨_, rfl, ?_⟩)
      · refine qm_G.s1 rfl (qm_x_if_ne_t ⟨by decide, by decide⟩ (by decide)) ?_
        refine qm_G.sp (lv1 := [(2, qm_I (qm_i a2)), (3, qm_L (((qm_l a3) <<< ((qm_i 32).toInt64 &&& 63)) ||| ((qm_l a4) &&& (qm_l 4294967295)))), (5, qm_R (some (0, 57, 0)))]) rfl rfl (qm_x_aload rfl) ?_
        refine qm_G.s1 rfl (qm_x_getfR (q := (some (0, 58, 0))) (hS 57 rfl) (hR 57 0 58 rfl rfl)) ?_
        refine qm_G.s1 rfl (qm_x_iload rfl) ?_
        refine qm_G.s1 rfl (qm_x_aload rfl) ?_
        refine qm_G.s1 rfl (qm_x_lload rfl) ?_
        refine qm_G.cm rfl rfl (hS 57 rfl) rfl ?_
        refine qm_C.go (cd := qm_P49) (lv := [(0, qm_R (some (0, 57, 0))), (1, qm_L (((qm_l a3) <<< ((qm_i 32).toInt64 &&& 63)) ||| ((qm_l a4) &&& (qm_l 4294967295))))]) rfl rfl ?_
        refine qm_G.s1 rfl (qm_x_aload rfl) ?_
        refine qm_G.s1 rfl (qm_x_getfI (v := (J 57 0 1)) (hS 57 rfl) rfl) ?_
        rcases (show J 57 0 1 = 0 ∨ J 57 0 1 = 1 ∨ J 57 0 1 = 2 ∨ J 57 0 1 = 3 ∨ (J 57 0 1 < 0 ∨ 4 ≤ J 57 0 1) by omega) with c133 | c133 | c133 | c133 | c133
        · refine qm_G.s1 rfl (qm_x_tsweq (v := 0) (t := 36) c133 rfl) ?_
          refine qm_G.sp (lv1 := [(1, qm_L (((qm_l a3) <<< ((qm_i 32).toInt64 &&& 63)) ||| ((qm_l a4) &&& (qm_l 4294967295))))]) rfl rfl (qm_x_lload rfl) ?_
          refine qm_G.s1 rfl (qm_x_l2ir) ?_
          have g134 : qm_sm ((((qm_l a3) <<< ((qm_i 32).toInt64 &&& 63)) ||| ((qm_l a4) &&& (qm_l 4294967295))).toInt32.toInt) := qm_i_sml _
          refine qm_G.s1 rfl (qm_x_i2br) ?_
          have g135 : qm_sm ((qm_i ((((qm_l a3) <<< ((qm_i 32).toInt64 &&& 63)) ||| ((qm_l a4) &&& (qm_l 4294967295))).toInt32.toInt)).toInt8.toInt) := qm_sm8 _
          refine qm_G.s1 rfl (qm_x_i2l ⟨by omega, by omega⟩) ?_
          refine qm_G.ret rfl rfl ⟨_, rfl, ?_⟩
          refine qm_G.s1 rfl (qm_x_last (qm_arS hS rfl rfl) rfl (by omega) (by omega) (by decide)) ?_
          refine qm_G.s1 rfl (qm_x_pushI 1 rfl) ?_
          refine qm_G.ret rfl rfl ⟨_, rfl, ?_⟩
          refine qm_G.s1 rfl (qm_x_aload rfl) ?_
          refine qm_G.s1 rfl (qm_x_aload rfl) ?_
          refine qm_G.s1 rfl (qm_x_iload rfl) ?_
          refine qm_G.s1 rfl (qm_x_pushI 1 rfl) ?_
          refine qm_G.s1 rfl (qm_x_iadd) ?_
          refine qm_G.s1 rfl (qm_x_iald2v (v := 4) (by omega) (by omega) hX e1) ?_
          refine qm_G.s1 rfl (qm_x_aload rfl) ?_
          refine qm_G.s1 rfl (qm_x_iload rfl) ?_
          refine qm_G.s1 rfl (qm_x_pushI 2 rfl) ?_
          refine qm_G.s1 rfl (qm_x_iadd) ?_
          refine qm_G.s1 rfl (qm_x_iald2v (v := a2) (by omega) (by omega) hX e2) ?_
          refine qm_G.s1 rfl (qm_x_aload rfl) ?_
          refine qm_G.s1 rfl (qm_x_iload rfl) ?_
          refine qm_G.s1 rfl (qm_x_pushI 3 rfl) ?_
          refine qm_G.s1 rfl (qm_x_iadd) ?_
          refine qm_G.s1 rfl (qm_x_iald2v (v := a3) (by omega) (by omega) hX e3) ?_
          refine qm_G.s1 rfl (qm_x_i2l ⟨by omega, by omega⟩) ?_
          refine qm_G.s1 rfl (qm_x_pushI 32 rfl) ?_
          refine qm_G.s1 rfl (qm_x_lshl) ?_
          refine qm_G.s1 rfl (qm_x_aload rfl) ?_
          refine qm_G.s1 rfl (qm_x_iload rfl) ?_
          refine qm_G.s1 rfl (qm_x_pushI 4 rfl) ?_
          refine qm_G.s1 rfl (qm_x_iadd) ?_
          refine qm_G.s1 rfl (qm_x_iald2v (v := a4) (by omega) (by omega) hX e4) ?_
          refine qm_G.s1 rfl (qm_x_i2l ⟨by omega, by omega⟩) ?_
          refine qm_G.s1 rfl (qm_x_pushL 4294967295 rfl) ?_
          refine qm_G.s1 rfl (qm_x_land) ?_
          refine qm_G.s1 rfl (qm_x_lor) ?_
          refine qm_G.cm rfl rfl (hS 61 rfl) rfl ?_
          refine qm_C.go (cd := qm_P125) (lv := [(0, qm_R (some (0, 61, 0))), (1, qm_I (qm_i 4)), (2, qm_I (qm_i a2)), (3, qm_L (((qm_l a3) <<< ((qm_i 32).toInt64 &&& 63)) ||| ((qm_l a4) &&& (qm_l 4294967295))))]) rfl rfl ?_
          refine qm_G.s1 rfl (qm_x_iload rfl) ?_
          refine qm_G.cs rfl rfl rfl ?_
          refine qm_C.go (cd := qm_P86) (lv := [(0, qm_I (qm_i 4))]) rfl rfl ?_
          refine qm_G.s1 rfl (qm_x_iload rfl) ?_
          refine qm_G.s1 rfl (qm_x_pushI 0 rfl) ?_
          refine qm_G.s1 rfl (qm_x_pushI 5 rfl) ?_
          refine qm_G.cs rfl rfl rfl ?_
          refine qm_v_within11_t ⟨by decide, by decide⟩ ⟨by decide, by decide⟩ ⟨by decide, by decide⟩ (by decide) ⟨_, rfl, ?_⟩
          refine qm_G.ret rfl rfl ⟨_, rfl, ?_⟩
          refine qm_G.s1 rfl (qm_x_if_ne_t ⟨by decide, by decide⟩ (by decide)) ?_
          refine qm_G.sp (lv1 := [(0, qm_R (some (0, 61, 0))), (1, qm_I (qm_i 4)), (2, qm_I (qm_i a2)), (3, qm_L (((qm_l a3) <<< ((qm_i 32).toInt64 &&& 63)) ||| ((qm_l a4) &&& (qm_l 4294967295))))]) rfl rfl (qm_x_aload rfl) ?_
          refine qm_G.s1 rfl (qm_x_getfR (q := (some (0, 73, 0))) (hS 61 rfl) (hR 61 20 73 rfl rfl)) ?_
          refine qm_G.s1 rfl (qm_x_iload rfl) ?_
          refine qm_G.s1 rfl (qm_x_iald (v := (J 73 0 4)) (qm_arS hS rfl rfl) rfl (by decide) (by decide) (by decide) rfl) ?_
          refine qm_G.s1 rfl (qm_x_if_ne_t ⟨by omega, by omega⟩ (by omega)) ?_
          refine qm_G.sp (lv1 := [(0, qm_R (some (0, 61, 0))), (1, qm_I (qm_i 4)), (2, qm_I (qm_i a2)), (3, qm_L (((qm_l a3) <<< ((qm_i 32).toInt64 &&& 63)) ||| ((qm_l a4) &&& (qm_l 4294967295))))]) rfl rfl (qm_x_iload rfl) ?_
          refine qm_G.s1 rfl (qm_x_pushI 0 rfl) ?_
          refine qm_G.s1 rfl (qm_x_aload rfl) ?_
          refine qm_G.s1 rfl (qm_x_getfR (q := (some (0, 74, 0))) (hS 61 rfl) (hR 61 21 74 rfl rfl)) ?_
          refine qm_G.s1 rfl (qm_x_iload rfl) ?_
          refine qm_G.s1 rfl (qm_x_iald (v := (J 74 0 4)) (qm_arS hS rfl rfl) rfl (by decide) (by decide) (by decide) rfl) ?_
          refine qm_G.s1 rfl (qm_x_pushI 1 rfl) ?_
          refine qm_G.s1 rfl (qm_x_isub) ?_
          refine qm_G.cs rfl rfl rfl ?_
          refine qm_v_within11_t ⟨by omega, by omega⟩ ⟨by decide, by decide⟩ ⟨by omega, by omega⟩ (by omega) ⟨_, rfl, ?_⟩
          refine qm_G.s1 rfl (qm_x_if_ne_t ⟨by decide, by decide⟩ (by decide)) ?_
          refine qm_G.sp (lv1 := [(0, qm_R (some (0, 61, 0))), (1, qm_I (qm_i 4)), (2, qm_I (qm_i a2)), (3, qm_L (((qm_l a3) <<< ((qm_i 32).toInt64 &&& 63)) ||| ((qm_l a4) &&& (qm_l 4294967295))))]) rfl rfl (qm_x_aload rfl) ?_
          refine qm_G.s1 rfl (qm_x_getfR (q := (some (0, 73, 0))) (hS 61 rfl) (hR 61 20 73 rfl rfl)) ?_
          refine qm_G.s1 rfl (qm_x_iload rfl) ?_
          refine qm_G.s1 rfl (qm_x_iald (v := (J 73 0 4)) (qm_arS hS rfl rfl) rfl (by decide) (by decide) (by decide) rfl) ?_
          refine qm_G.s1 rfl (qm_x_istore (lv' := [(5, qm_I (qm_i (J 73 0 4))), (0, qm_R (some (0, 61, 0))), (1, qm_I (qm_i 4)), (2, qm_I (qm_i a2)), (3, qm_L (((qm_l a3) <<< ((qm_i 32).toInt64 &&& 63)) ||| ((qm_l a4) &&& (qm_l 4294967295))))]) rfl) ?_
          refine qm_G.s1 rfl (qm_x_aload rfl) ?_
          refine qm_G.s1 rfl (qm_x_getfR (q := (some (0, 75, 0))) (hS 61 rfl) (hR 61 22 75 rfl rfl)) ?_
          refine qm_G.s1 rfl (qm_x_pushI 60 rfl) ?_
          refine qm_G.s1 rfl (qm_x_iload rfl) ?_
          refine qm_G.s1 rfl (qm_x_imul) ?_
          refine qm_G.s1 rfl (qm_x_iload rfl) ?_
          refine qm_G.s1 rfl (qm_x_iadd) ?_
          refine qm_G.s1 rfl (qm_x_iload rfl) ?_
          refine qm_G.s1 rfl (qm_x_pushI 1 rfl) ?_
          refine qm_G.s1 rfl (qm_x_icmp_ne_f ⟨by omega, by omega⟩ ⟨by decide, by decide⟩ (by omega)) ?_
          refine qm_G.s1 rfl (qm_x_lload rfl) ?_
          refine qm_G.s1 rfl (qm_x_l2ir) ?_
          have g138 : qm_sm ((((qm_l a3) <<< ((qm_i 32).toInt64 &&& 63)) ||| ((qm_l a4) &&& (qm_l 4294967295))).toInt32.toInt) := qm_i_sml _
          refine qm_G.s1 rfl (qm_x_i2br) ?_
          have g139 : qm_sm ((qm_i ((((qm_l a3) <<< ((qm_i 32).toInt64 &&& 63)) ||| ((qm_l a4) &&& (qm_l 4294967295))).toInt32.toInt)).toInt8.toInt) := qm_sm8 _
          refine qm_G.s1 rfl (qm_x_i2l ⟨by omega, by omega⟩) ?_
          refine qm_G.s1 rfl (qm_x_goto) ?_
          refine qm_G.sp (lv1 := []) rfl rfl (qm_x_last (qm_arS hS rfl rfl) rfl (by omega) (by omega) (by decide)) ?_
          refine qm_G.s1 rfl (qm_x_pushI 1 rfl) ?_
          refine qm_G.ret rfl rfl ⟨_, rfl, ?_⟩
          refine qm_G.s1 rfl (qm_x_icmp_eq_t ⟨by decide, by decide⟩ ⟨by decide, by decide⟩ (by decide)) ?_
          rw [show (Int.toNat ((60 * 4) + a2)) = 240 + (Int.toNat a2) by omega]
          exact ih _ _ _ _ _ _ (qm_U_itm4 (by omega) hI)
        · refine qm_G.s1 rfl (qm_x_tsweq (v := 1) (t := 41) c133 rfl) ?_
          refine qm_G.sp (lv1 := [(1, qm_L (((qm_l a3) <<< ((qm_i 32).toInt64 &&& 63)) ||| ((qm_l a4) &&& (qm_l 4294967295))))]) rfl rfl (qm_x_lload rfl) ?_
          refine qm_G.s1 rfl (qm_x_l2ir) ?_
          have g140 : qm_sm ((((qm_l a3) <<< ((qm_i 32).toInt64 &&& 63)) ||| ((qm_l a4) &&& (qm_l 4294967295))).toInt32.toInt) := qm_i_sml _
          refine qm_G.s1 rfl (qm_x_i2sr) ?_
          have g141 : qm_sm ((qm_i ((((qm_l a3) <<< ((qm_i 32).toInt64 &&& 63)) ||| ((qm_l a4) &&& (qm_l 4294967295))).toInt32.toInt)).toInt16.toInt) := qm_sm16 _
          refine qm_G.s1 rfl (qm_x_i2l ⟨by omega, by omega⟩) ?_
          refine qm_G.ret rfl rfl ⟨_, rfl, ?_⟩
          refine qm_G.s1 rfl (qm_x_last (qm_arS hS rfl rfl) rfl (by omega) (by omega) (by decide)) ?_
          refine qm_G.s1 rfl (qm_x_pushI 1 rfl) ?_
          refine qm_G.ret rfl rfl ⟨_, rfl, ?_⟩
          refine qm_G.s1 rfl (qm_x_aload rfl) ?_
          refine qm_G.s1 rfl (qm_x_aload rfl) ?_
          refine qm_G.s1 rfl (qm_x_iload rfl) ?_
          refine qm_G.s1 rfl (qm_x_pushI 1 rfl) ?_
          refine qm_G.s1 rfl (qm_x_iadd) ?_
          refine qm_G.s1 rfl (qm_x_iald2v (v := 4) (by omega) (by omega) hX e1) ?_
          refine qm_G.s1 rfl (qm_x_aload rfl) ?_
          refine qm_G.s1 rfl (qm_x_iload rfl) ?_
          refine qm_G.s1 rfl (qm_x_pushI 2 rfl) ?_
          refine qm_G.s1 rfl (qm_x_iadd) ?_
          refine qm_G.s1 rfl (qm_x_iald2v (v := a2) (by omega) (by omega) hX e2) ?_
          refine qm_G.s1 rfl (qm_x_aload rfl) ?_
          refine qm_G.s1 rfl (qm_x_iload rfl) ?_
          refine qm_G.s1 rfl (qm_x_pushI 3 rfl) ?_
          refine qm_G.s1 rfl (qm_x_iadd) ?_
          refine qm_G.s1 rfl (qm_x_iald2v (v := a3) (by omega) (by omega) hX e3) ?_
          refine qm_G.s1 rfl (qm_x_i2l ⟨by omega, by omega⟩) ?_
          refine qm_G.s1 rfl (qm_x_pushI 32 rfl) ?_
          refine qm_G.s1 rfl (qm_x_lshl) ?_
          refine qm_G.s1 rfl (qm_x_aload rfl) ?_
          refine qm_G.s1 rfl (qm_x_iload rfl) ?_
          refine qm_G.s1 rfl (qm_x_pushI 4 rfl) ?_
          refine qm_G.s1 rfl (qm_x_iadd) ?_
          refine qm_G.s1 rfl (qm_x_iald2v (v := a4) (by omega) (by omega) hX e4) ?_
          refine qm_G.s1 rfl (qm_x_i2l ⟨by omega, by omega⟩) ?_
          refine qm_G.s1 rfl (qm_x_pushL 4294967295 rfl) ?_
          refine qm_G.s1 rfl (qm_x_land) ?_
          refine qm_G.s1 rfl (qm_x_lor) ?_
          refine qm_G.cm rfl rfl (hS 61 rfl) rfl ?_
          refine qm_C.go (cd := qm_P125) (lv := [(0, qm_R (some (0, 61, 0))), (1, qm_I (qm_i 4)), (2, qm_I (qm_i a2)), (3, qm_L (((qm_l a3) <<< ((qm_i 32).toInt64 &&& 63)) ||| ((qm_l a4) &&& (qm_l 4294967295))))]) rfl rfl ?_
          refine qm_G.s1 rfl (qm_x_iload rfl) ?_
          refine qm_G.cs rfl rfl rfl ?_
          refine qm_C.go (cd := qm_P86) (lv := [(0, qm_I (qm_i 4))]) rfl rfl ?_
          refine qm_G.s1 rfl (qm_x_iload rfl) ?_
          refine qm_G.s1 rfl (qm_x_pushI 0 rfl) ?_
          refine qm_G.s1 rfl (qm_x_pushI 5 rfl) ?_
          refine qm_G.cs rfl rfl rfl ?_
          refine qm_v_within11_t ⟨by decide, by decide⟩ ⟨by decide, by decide⟩ ⟨by decide, by decide⟩ (by decide) ⟨_, rfl, ?_⟩
          refine qm_G.ret rfl rfl ⟨_, rfl, ?_⟩
          refine qm_G.s1 rfl (qm_x_if_ne_t ⟨by decide, by decide⟩ (by decide)) ?_
          refine qm_G.sp (lv1 := [(0, qm_R (some (0, 61, 0))), (1, qm_I (qm_i 4)), (2, qm_I (qm_i a2)), (3, qm_L (((qm_l a3) <<< ((qm_i 32).toInt64 &&& 63)) ||| ((qm_l a4) &&& (qm_l 4294967295))))]) rfl rfl (qm_x_aload rfl) ?_
          refine qm_G.s1 rfl (qm_x_getfR (q := (some (0, 73, 0))) (hS 61 rfl) (hR 61 20 73 rfl rfl)) ?_
          refine qm_G.s1 rfl (qm_x_iload rfl) ?_
          refine qm_G.s1 rfl (qm_x_iald (v := (J 73 0 4)) (qm_arS hS rfl rfl) rfl (by decide) (by decide) (by decide) rfl) ?_
          refine qm_G.s1 rfl (qm_x_if_ne_t ⟨by omega, by omega⟩ (by omega)) ?_
          refine qm_G.sp (lv1 := [(0, qm_R (some (0, 61, 0))), (1, qm_I (qm_i 4)), (2, qm_I (qm_i a2)), (3, qm_L (((qm_l a3) <<< ((qm_i 32).toInt64 &&& 63)) ||| ((qm_l a4) &&& (qm_l 4294967295))))]) rfl rfl (qm_x_iload rfl) ?_
          refine qm_G.s1 rfl (qm_x_pushI 0 rfl) ?_
          refine qm_G.s1 rfl (qm_x_aload rfl) ?_
          refine qm_G.s1 rfl (qm_x_getfR (q := (some (0, 74, 0))) (hS 61 rfl) (hR 61 21 74 rfl rfl)) ?_
          refine qm_G.s1 rfl (qm_x_iload rfl) ?_
          refine qm_G.s1 rfl (qm_x_iald (v := (J 74 0 4)) (qm_arS hS rfl rfl) rfl (by decide) (by decide) (by decide) rfl) ?_
          refine qm_G.s1 rfl (qm_x_pushI 1 rfl) ?_
          refine qm_G.s1 rfl (qm_x_isub) ?_
          refine qm_G.cs rfl rfl rfl ?_
          refine qm_v_within11_t ⟨by omega, by omega⟩ ⟨by decide, by decide⟩ ⟨by omega, by omega⟩ (by omega) ⟨_, rfl, ?_⟩
          refine qm_G.s1 rfl (qm_x_if_ne_t ⟨by decide, by decide⟩ (by decide)) ?_
          refine qm_G.sp (lv1 := [(0, qm_R (some (0, 61, 0))), (1, qm_I (qm_i 4)), (2, qm_I (qm_i a2)), (3, qm_L (((qm_l a3) <<< ((qm_i 32).toInt64 &&& 63)) ||| ((qm_l a4) &&& (qm_l 4294967295))))]) rfl rfl (qm_x_aload rfl) ?_
          refine qm_G.s1 rfl (qm_x_getfR (q := (some (0, 73, 0))) (hS 61 rfl) (hR 61 20 73 rfl rfl)) ?_
          refine qm_G.s1 rfl (qm_x_iload rfl) ?_
          refine qm_G.s1 rfl (qm_x_iald (v := (J 73 0 4)) (qm_arS hS rfl rfl) rfl (by decide) (by decide) (by decide) rfl) ?_
          refine qm_G.s1 rfl (qm_x_istore (lv' := [(5, qm_I (qm_i (J 73 0 4))), (0, qm_R (some (0, 61, 0))), (1, qm_I (qm_i 4)), (2, qm_I (qm_i a2)), (3, qm_L (((qm_l a3) <<< ((qm_i 32).toInt64 &&& 63)) ||| ((qm_l a4) &&& (qm_l 4294967295))))]) rfl) ?_
          refine qm_G.s1 rfl (qm_x_aload rfl) ?_
          refine qm_G.s1 rfl (qm_x_getfR (q := (some (0, 75, 0))) (hS 61 rfl) (hR 61 22 75 rfl rfl)) ?_
          refine qm_G.s1 rfl (qm_x_pushI 60 rfl) ?_
          refine qm_G.s1 rfl (qm_x_iload rfl) ?_
          refine qm_G.s1 rfl (qm_x_imul) ?_
          refine qm_G.s1 rfl (qm_x_iload rfl) ?_
          refine qm_G.s1 rfl (qm_x_iadd) ?_
          refine qm_G.s1 rfl (qm_x_iload rfl) ?_
          refine qm_G.s1 rfl (qm_x_pushI 1 rfl) ?_
          refine qm_G.s1 rfl (qm_x_icmp_ne_t ⟨by omega, by omega⟩ ⟨by decide, by decide⟩ (by omega)) ?_
          refine qm_G.sp (lv1 := [(3, qm_L (((qm_l a3) <<< ((qm_i 32).toInt64 &&& 63)) ||| ((qm_l a4) &&& (qm_l 4294967295)))), (5, qm_I (qm_i (J 73 0 4)))]) rfl rfl (qm_x_iload rfl) ?_
          refine qm_G.s1 rfl (qm_x_pushI 2 rfl) ?_
          refine qm_G.s1 rfl (qm_x_icmp_ne_f ⟨by omega, by omega⟩ ⟨by decide, by decide⟩ (by omega)) ?_
          refine qm_G.s1 rfl (qm_x_lload rfl) ?_
          refine qm_G.s1 rfl (qm_x_l2ir) ?_
          have g144 : qm_sm ((((qm_l a3) <<< ((qm_i 32).toInt64 &&& 63)) ||| ((qm_l a4) &&& (qm_l 4294967295))).toInt32.toInt) := qm_i_sml _
          refine qm_G.s1 rfl (qm_x_i2sr) ?_
          have g145 : qm_sm ((qm_i ((((qm_l a3) <<< ((qm_i 32).toInt64 &&& 63)) ||| ((qm_l a4) &&& (qm_l 4294967295))).toInt32.toInt)).toInt16.toInt) := qm_sm16 _
          refine qm_G.s1 rfl (qm_x_i2l ⟨by omega, by omega⟩) ?_
          refine qm_G.s1 rfl (qm_x_goto) ?_
          refine qm_G.sp (lv1 := []) rfl rfl (qm_x_last (qm_arS hS rfl rfl) rfl (by omega) (by omega) (by decide)) ?_
          refine qm_G.s1 rfl (qm_x_pushI 1 rfl) ?_
          refine qm_G.ret rfl rfl ⟨_, rfl, ?_⟩
          refine qm_G.s1 rfl (qm_x_icmp_eq_t ⟨by decide, by decide⟩ ⟨by decide, by decide⟩ (by decide)) ?_
          rw [show (Int.toNat ((60 * 4) + a2)) = 240 + (Int.toNat a2) by omega]
          exact ih _ _ _ _ _ _ (qm_U_itm4 (by omega) hI)
        · refine qm_G.s1 rfl (qm_x_tsweq (v := 2) (t := 46) c133 rfl) ?_
          refine qm_G.sp (lv1 := [(1, qm_L (((qm_l a3) <<< ((qm_i 32).toInt64 &&& 63)) ||| ((qm_l a4) &&& (qm_l 4294967295))))]) rfl rfl (qm_x_lload rfl) ?_
          refine qm_G.s1 rfl (qm_x_l2ir) ?_
          have g146 : qm_sm ((((qm_l a3) <<< ((qm_i 32).toInt64 &&& 63)) ||| ((qm_l a4) &&& (qm_l 4294967295))).toInt32.toInt) := qm_i_sml _
          refine qm_G.s1 rfl (qm_x_i2l ⟨by omega, by omega⟩) ?_
          refine qm_G.ret rfl rfl ⟨_, rfl, ?_⟩
          refine qm_G.s1 rfl (qm_x_last (qm_arS hS rfl rfl) rfl (by omega) (by omega) (by decide)) ?_
          refine qm_G.s1 rfl (qm_x_pushI 1 rfl) ?_
          refine qm_G.ret rfl rfl ⟨_, rfl, ?_⟩
          refine qm_G.s1 rfl (qm_x_aload rfl) ?_
          refine qm_G.s1 rfl (qm_x_aload rfl) ?_
          refine qm_G.s1 rfl (qm_x_iload rfl) ?_
          refine qm_G.s1 rfl (qm_x_pushI 1 rfl) ?_
          refine qm_G.s1 rfl (qm_x_iadd) ?_
          refine qm_G.s1 rfl (qm_x_iald2v (v := 4) (by omega) (by omega) hX e1) ?_
          refine qm_G.s1 rfl (qm_x_aload rfl) ?_
          refine qm_G.s1 rfl (qm_x_iload rfl) ?_
          refine qm_G.s1 rfl (qm_x_pushI 2 rfl) ?_
          refine qm_G.s1 rfl (qm_x_iadd) ?_
          refine qm_G.s1 rfl (qm_x_iald2v (v := a2) (by omega) (by omega) hX e2) ?_
          refine qm_G.s1 rfl (qm_x_aload rfl) ?_
          refine qm_G.s1 rfl (qm_x_iload rfl) ?_
          refine qm_G.s1 rfl (qm_x_pushI 3 rfl) ?_
          refine qm_G.s1 rfl (qm_x_iadd) ?_
          refine qm_G.s1 rfl (qm_x_iald2v (v := a3) (by omega) (by omega) hX e3) ?_
          refine qm_G.s1 rfl (qm_x_i2l ⟨by omega, by omega⟩) ?_
          refine qm_G.s1 rfl (qm_x_pushI 32 rfl) ?_
          refine qm_G.s1 rfl (qm_x_lshl) ?_
          refine qm_G.s1 rfl (qm_x_aload rfl) ?_
          refine qm_G.s1 rfl (qm_x_iload rfl) ?_
          refine qm_G.s1 rfl (qm_x_pushI 4 rfl) ?_
          refine qm_G.s1 rfl (qm_x_iadd) ?_
          refine qm_G.s1 rfl (qm_x_iald2v (v := a4) (by omega) (by omega) hX e4) ?_
          refine qm_G.s1 rfl (qm_x_i2l ⟨by omega, by omega⟩) ?_
          refine qm_G.s1 rfl (qm_x_pushL 4294967295 rfl) ?_
          refine qm_G.s1 rfl (qm_x_land) ?_
          refine qm_G.s1 rfl (qm_x_lor) ?_
          refine qm_G.cm rfl rfl (hS 61 rfl) rfl ?_
          refine qm_C.go (cd := qm_P125) (lv := [(0, qm_R (some (0, 61, 0))), (1, qm_I (qm_i 4)), (2, qm_I (qm_i a2)), (3, qm_L (((qm_l a3) <<< ((qm_i 32).toInt64 &&& 63)) ||| ((qm_l a4) &&& (qm_l 4294967295))))]) rfl rfl ?_
          refine qm_G.s1 rfl (qm_x_iload rfl) ?_
          refine qm_G.cs rfl rfl rfl ?_
          refine qm_C.go (cd := qm_P86) (lv := [(0, qm_I (qm_i 4))]) rfl rfl ?_
          refine qm_G.s1 rfl (qm_x_iload rfl) ?_
          refine qm_G.s1 rfl (qm_x_pushI 0 rfl) ?_
          refine qm_G.s1 rfl (qm_x_pushI 5 rfl) ?_
          refine qm_G.cs rfl rfl rfl ?_
          refine qm_v_within11_t ⟨by decide, by decide⟩ ⟨by decide, by decide⟩ ⟨by decide, by decide⟩ (by decide) ⟨_, rfl, ?_⟩
          refine qm_G.ret rfl rfl ⟨_, rfl, ?_⟩
          refine qm_G.s1 rfl (qm_x_if_ne_t ⟨by decide, by decide⟩ (by decide)) ?_
          refine qm_G.sp (lv1 := [(0, qm_R (some (0, 61, 0))), (1, qm_I (qm_i 4)), (2, qm_I (qm_i a2)), (3, qm_L (((qm_l a3) <<< ((qm_i 32).toInt64 &&& 63)) ||| ((qm_l a4) &&& (qm_l 4294967295))))]) rfl rfl (qm_x_aload rfl) ?_
          refine qm_G.s1 rfl (qm_x_getfR (q := (some (0, 73, 0))) (hS 61 rfl) (hR 61 20 73 rfl rfl)) ?_
          refine qm_G.s1 rfl (qm_x_iload rfl) ?_
          refine qm_G.s1 rfl (qm_x_iald (v := (J 73 0 4)) (qm_arS hS rfl rfl) rfl (by decide) (by decide) (by decide) rfl) ?_
          refine qm_G.s1 rfl (qm_x_if_ne_t ⟨by omega, by omega⟩ (by omega)) ?_
          refine qm_G.sp (lv1 := [(0, qm_R (some (0, 61, 0))), (1, qm_I (qm_i 4)), (2, qm_I (qm_i a2)), (3, qm_L (((qm_l a3) <<< ((qm_i 32).toInt64 &&& 63)) ||| ((qm_l a4) &&& (qm_l 4294967295))))]) rfl rfl (qm_x_iload rfl) ?_
          refine qm_G.s1 rfl (qm_x_pushI 0 rfl) ?_
          refine qm_G.s1 rfl (qm_x_aload rfl) ?_
          refine qm_G.s1 rfl (qm_x_getfR (q := (some (0, 74, 0))) (hS 61 rfl) (hR 61 21 74 rfl rfl)) ?_
          refine qm_G.s1 rfl (qm_x_iload rfl) ?_
          refine qm_G.s1 rfl (qm_x_iald (v := (J 74 0 4)) (qm_arS hS rfl rfl) rfl (by decide) (by decide) (by decide) rfl) ?_
          refine qm_G.s1 rfl (qm_x_pushI 1 rfl) ?_
          refine qm_G.s1 rfl (qm_x_isub) ?_
          refine qm_G.cs rfl rfl rfl ?_
          refine qm_v_within11_t ⟨by omega, by omega⟩ ⟨by decide, by decide⟩ ⟨by omega, by omega⟩ (by omega) ⟨_, rfl, ?_⟩
          refine qm_G.s1 rfl (qm_x_if_ne_t ⟨by decide, by decide⟩ (by decide)) ?_
          refine qm_G.sp (lv1 := [(0, qm_R (some (0, 61, 0))), (1, qm_I (qm_i 4)), (2, qm_I (qm_i a2)), (3, qm_L (((qm_l a3) <<< ((qm_i 32).toInt64 &&& 63)) ||| ((qm_l a4) &&& (qm_l 4294967295))))]) rfl rfl (qm_x_aload rfl) ?_
          refine qm_G.s1 rfl (qm_x_getfR (q := (some (0, 73, 0))) (hS 61 rfl) (hR 61 20 73 rfl rfl)) ?_
          refine qm_G.s1 rfl (qm_x_iload rfl) ?_
          refine qm_G.s1 rfl (qm_x_iald (v := (J 73 0 4)) (qm_arS hS rfl rfl) rfl (by decide) (by decide) (by decide) rfl) ?_
          refine qm_G.s1 rfl (qm_x_istore (lv' := [(5, qm_I (qm_i (J 73 0 4))), (0, qm_R (some (0, 61, 0))), (1, qm_I (qm_i 4)), (2, qm_I (qm_i a2)), (3, qm_L (((qm_l a3) <<< ((qm_i 32).toInt64 &&& 63)) ||| ((qm_l a4) &&& (qm_l 4294967295))))]) rfl) ?_
          refine qm_G.s1 rfl (qm_x_aload rfl) ?_
          refine qm_G.s1 rfl (qm_x_getfR (q := (some (0, 75, 0))) (hS 61 rfl) (hR 61 22 75 rfl rfl)) ?_
          refine qm_G.s1 rfl (qm_x_pushI 60 rfl) ?_
          refine qm_G.s1 rfl (qm_x_iload rfl) ?_
          refine qm_G.s1 rfl (qm_x_imul) ?_
          refine qm_G.s1 rfl (qm_x_iload rfl) ?_
          refine qm_G.s1 rfl (qm_x_iadd) ?_
          refine qm_G.s1 rfl (qm_x_iload rfl) ?_
          refine qm_G.s1 rfl (qm_x_pushI 1 rfl) ?_
          refine qm_G.s1 rfl (qm_x_icmp_ne_t ⟨by omega, by omega⟩ ⟨by decide, by decide⟩ (by omega)) ?_
          refine qm_G.sp (lv1 := [(3, qm_L (((qm_l a3) <<< ((qm_i 32).toInt64 &&& 63)) ||| ((qm_l a4) &&& (qm_l 4294967295)))), (5, qm_I (qm_i (J 73 0 4)))]) rfl rfl (qm_x_iload rfl) ?_
          refine qm_G.s1 rfl (qm_x_pushI 2 rfl) ?_
          refine qm_G.s1 rfl (qm_x_icmp_ne_t ⟨by omega, by omega⟩ ⟨by decide, by decide⟩ (by omega)) ?_
          refine qm_G.sp (lv1 := [(3, qm_L (((qm_l a3) <<< ((qm_i 32).toInt64 &&& 63)) ||| ((qm_l a4) &&& (qm_l 4294967295)))), (5, qm_I (qm_i (J 73 0 4)))]) rfl rfl (qm_x_iload rfl) ?_
          refine qm_G.s1 rfl (qm_x_pushI 3 rfl) ?_
          refine qm_G.s1 rfl (qm_x_icmp_ne_f ⟨by omega, by omega⟩ ⟨by decide, by decide⟩ (by omega)) ?_
          refine qm_G.s1 rfl (qm_x_lload rfl) ?_
          refine qm_G.s1 rfl (qm_x_l2ir) ?_
          have g149 : qm_sm ((((qm_l a3) <<< ((qm_i 32).toInt64 &&& 63)) ||| ((qm_l a4) &&& (qm_l 4294967295))).toInt32.toInt) := qm_i_sml _
          refine qm_G.s1 rfl (qm_x_i2l ⟨by omega, by omega⟩) ?_
          refine qm_G.s1 rfl (qm_x_goto) ?_
          refine qm_G.sp (lv1 := []) rfl rfl (qm_x_last (qm_arS hS rfl rfl) rfl (by omega) (by omega) (by decide)) ?_
          refine qm_G.s1 rfl (qm_x_pushI 1 rfl) ?_
          refine qm_G.ret rfl rfl ⟨_, rfl, ?_⟩
          refine qm_G.s1 rfl (qm_x_icmp_eq_t ⟨by decide, by decide⟩ ⟨by decide, by decide⟩ (by decide)) ?_
          rw [show (Int.toNat ((60 * 4) + a2)) = 240 + (Int.toNat a2) by omega]
          exact ih _ _ _ _ _ _ (qm_U_itm4 (by omega) hI)
        · refine qm_G.s1 rfl (qm_x_tsweq (v := 3) (t := 50) c133 rfl) ?_
          refine qm_G.sp (lv1 := [(1, qm_L (((qm_l a3) <<< ((qm_i 32).toInt64 &&& 63)) ||| ((qm_l a4) &&& (qm_l 4294967295))))]) rfl rfl (qm_x_lload rfl) ?_
          refine qm_G.ret rfl rfl ⟨_, rfl, ?_⟩
          refine qm_G.s1 rfl (qm_x_last (qm_arS hS rfl rfl) rfl (by omega) (by omega) (by decide)) ?_
          refine qm_G.s1 rfl (qm_x_pushI 1 rfl) ?_
          refine qm_G.ret rfl rfl ⟨_, rfl, ?_⟩
          refine qm_G.s1 rfl (qm_x_aload rfl) ?_
          refine qm_G.s1 rfl (qm_x_aload rfl) ?_
          refine qm_G.s1 rfl (qm_x_iload rfl) ?_
          refine qm_G.s1 rfl (qm_x_pushI 1 rfl) ?_
          refine qm_G.s1 rfl (qm_x_iadd) ?_
          refine qm_G.s1 rfl (qm_x_iald2v (v := 4) (by omega) (by omega) hX e1) ?_
          refine qm_G.s1 rfl (qm_x_aload rfl) ?_
          refine qm_G.s1 rfl (qm_x_iload rfl) ?_
          refine qm_G.s1 rfl (qm_x_pushI 2 rfl) ?_
          refine qm_G.s1 rfl (qm_x_iadd) ?_
          refine qm_G.s1 rfl (qm_x_iald2v (v := a2) (by omega) (by omega) hX e2) ?_
          refine qm_G.s1 rfl (qm_x_aload rfl) ?_
          refine qm_G.s1 rfl (qm_x_iload rfl) ?_
          refine qm_G.s1 rfl (qm_x_pushI 3 rfl) ?_
          refine qm_G.s1 rfl (qm_x_iadd) ?_
          refine qm_G.s1 rfl (qm_x_iald2v (v := a3) (by omega) (by omega) hX e3) ?_
          refine qm_G.s1 rfl (qm_x_i2l ⟨by omega, by omega⟩) ?_
          refine qm_G.s1 rfl (qm_x_pushI 32 rfl) ?_
          refine qm_G.s1 rfl (qm_x_lshl) ?_
          refine qm_G.s1 rfl (qm_x_aload rfl) ?_
          refine qm_G.s1 rfl (qm_x_iload rfl) ?_
          refine qm_G.s1 rfl (qm_x_pushI 4 rfl) ?_
          refine qm_G.s1 rfl (qm_x_iadd) ?_
          refine qm_G.s1 rfl (qm_x_iald2v (v := a4) (by omega) (by omega) hX e4) ?_
          refine qm_G.s1 rfl (qm_x_i2l ⟨by omega, by omega⟩) ?_
          refine qm_G.s1 rfl (qm_x_pushL 4294967295 rfl) ?_
          refine qm_G.s1 rfl (qm_x_land) ?_
          refine qm_G.s1 rfl (qm_x_lor) ?_
          refine qm_G.cm rfl rfl (hS 61 rfl) rfl ?_
          refine qm_C.go (cd := qm_P125) (lv := [(0, qm_R (some (0, 61, 0))), (1, qm_I (qm_i 4)), (2, qm_I (qm_i a2)), (3, qm_L (((qm_l a3) <<< ((qm_i 32).toInt64 &&& 63)) ||| ((qm_l a4) &&& (qm_l 4294967295))))]) rfl rfl ?_
          refine qm_G.s1 rfl (qm_x_iload rfl) ?_
          refine qm_G.cs rfl rfl rfl ?_
          refine qm_C.go (cd := qm_P86) (lv := [(0, qm_I (qm_i 4))]) rfl rfl ?_
          refine qm_G.s1 rfl (qm_x_iload rfl) ?_
          refine qm_G.s1 rfl (qm_x_pushI 0 rfl) ?_
          refine qm_G.s1 rfl (qm_x_pushI 5 rfl) ?_
          refine qm_G.cs rfl rfl rfl ?_
          refine qm_v_within11_t ⟨by decide, by decide⟩ ⟨by decide, by decide⟩ ⟨by decide, by decide⟩ (by decide) ⟨_, rfl, ?_⟩
          refine qm_G.ret rfl rfl ⟨_, rfl, ?_⟩
          refine qm_G.s1 rfl (qm_x_if_ne_t ⟨by decide, by decide⟩ (by decide)) ?_
          refine qm_G.sp (lv1 := [(0, qm_R (some (0, 61, 0))), (1, qm_I (qm_i 4)), (2, qm_I (qm_i a2)), (3, qm_L (((qm_l a3) <<< ((qm_i 32).toInt64 &&& 63)) ||| ((qm_l a4) &&& (qm_l 4294967295))))]) rfl rfl (qm_x_aload rfl) ?_
          refine qm_G.s1 rfl (qm_x_getfR (q := (some (0, 73, 0))) (hS 61 rfl) (hR 61 20 73 rfl rfl)) ?_
          refine qm_G.s1 rfl (qm_x_iload rfl) ?_
          refine qm_G.s1 rfl (qm_x_iald (v := (J 73 0 4)) (qm_arS hS rfl rfl) rfl (by decide) (by decide) (by decide) rfl) ?_
          refine qm_G.s1 rfl (qm_x_if_ne_t ⟨by omega, by omega⟩ (by omega)) ?_
          refine qm_G.sp (lv1 := [(0, qm_R (some (0, 61, 0))), (1, qm_I (qm_i 4)), (2, qm_I (qm_i a2)), (3, qm_L (((qm_l a3) <<< ((qm_i 32).toInt64 &&& 63)) ||| ((qm_l a4) &&& (qm_l 4294967295))))]) rfl rfl (qm_x_iload rfl) ?_
          refine qm_G.s1 rfl (qm_x_pushI 0 rfl) ?_
          refine qm_G.s1 rfl (qm_x_aload rfl) ?_
          refine qm_G.s1 rfl (qm_x_getfR (q := (some (0, 74, 0))) (hS 61 rfl) (hR 61 21 74 rfl rfl)) ?_
          refine qm_G.s1 rfl (qm_x_iload rfl) ?_
          refine qm_G.s1 rfl (qm_x_iald (v := (J 74 0 4)) (qm_arS hS rfl rfl) rfl (by decide) (by decide) (by decide) rfl) ?_
          refine qm_G.s1 rfl (qm_x_pushI 1 rfl) ?_
          refine qm_G.s1 rfl (qm_x_isub) ?_
          refine qm_G.cs rfl rfl rfl ?_
          refine qm_v_within11_t ⟨by omega, by omega⟩ ⟨by decide, by decide⟩ ⟨by omega, by omega⟩ (by omega) ⟨_, rfl, ?_⟩
          refine qm_G.s1 rfl (qm_x_if_ne_t ⟨by decide, by decide⟩ (by decide)) ?_
          refine qm_G.sp (lv1 := [(0, qm_R (some (0, 61, 0))), (1, qm_I (qm_i 4)), (2, qm_I (qm_i a2)), (3, qm_L (((qm_l a3) <<< ((qm_i 32).toInt64 &&& 63)) ||| ((qm_l a4) &&& (qm_l 4294967295))))]) rfl rfl (qm_x_aload rfl) ?_
          refine qm_G.s1 rfl (qm_x_getfR (q := (some (0, 73, 0))) (hS 61 rfl) (hR 61 20 73 rfl rfl)) ?_
          refine qm_G.s1 rfl (qm_x_iload rfl) ?_
          refine qm_G.s1 rfl (qm_x_iald (v := (J 73 0 4)) (qm_arS hS rfl rfl) rfl (by decide) (by decide) (by decide) rfl) ?_
          refine qm_G.s1 rfl (qm_x_istore (lv' := [(5, qm_I (qm_i (J 73 0 4))), (0, qm_R (some (0, 61, 0))), (1, qm_I (qm_i 4)), (2, qm_I (qm_i a2)), (3, qm_L (((qm_l a3) <<< ((qm_i 32).toInt64 &&& 63)) ||| ((qm_l a4) &&& (qm_l 4294967295))))]) rfl) ?_
          refine qm_G.s1 rfl (qm_x_aload rfl) ?_
          refine qm_G.s1 rfl (qm_x_getfR (q := (some (0, 75, 0))) (hS 61 rfl) (hR 61 22 75 rfl rfl)) ?_
          refine qm_G.s1 rfl (qm_x_pushI 60 rfl) ?_
          refine qm_G.s1 rfl (qm_x_iload rfl) ?_
          refine qm_G.s1 rfl (qm_x_imul) ?_
          refine qm_G.s1 rfl (qm_x_iload rfl) ?_
          refine qm_G.s1 rfl (qm_x_iadd) ?_
          refine qm_G.s1 rfl (qm_x_iload rfl) ?_
          refine qm_G.s1 rfl (qm_x_pushI 1 rfl) ?_
          refine qm_G.s1 rfl (qm_x_icmp_ne_t ⟨by omega, by omega⟩ ⟨by decide, by decide⟩ (by omega)) ?_
          refine qm_G.sp (lv1 := [(3, qm_L (((qm_l a3) <<< ((qm_i 32).toInt64 &&& 63)) ||| ((qm_l a4) &&& (qm_l 4294967295)))), (5, qm_I (qm_i (J 73 0 4)))]) rfl rfl (qm_x_iload rfl) ?_
          refine qm_G.s1 rfl (qm_x_pushI 2 rfl) ?_
          refine qm_G.s1 rfl (qm_x_icmp_ne_t ⟨by omega, by omega⟩ ⟨by decide, by decide⟩ (by omega)) ?_
          refine qm_G.sp (lv1 := [(3, qm_L (((qm_l a3) <<< ((qm_i 32).toInt64 &&& 63)) ||| ((qm_l a4) &&& (qm_l 4294967295)))), (5, qm_I (qm_i (J 73 0 4)))]) rfl rfl (qm_x_iload rfl) ?_
          refine qm_G.s1 rfl (qm_x_pushI 3 rfl) ?_
          refine qm_G.s1 rfl (qm_x_icmp_ne_t ⟨by omega, by omega⟩ ⟨by decide, by decide⟩ (by omega)) ?_
          refine qm_G.sp (lv1 := [(3, qm_L (((qm_l a3) <<< ((qm_i 32).toInt64 &&& 63)) ||| ((qm_l a4) &&& (qm_l 4294967295)))), (5, qm_I (qm_i (J 73 0 4)))]) rfl rfl (qm_x_iload rfl) ?_
          refine qm_G.s1 rfl (qm_x_pushI 4 rfl) ?_
          refine qm_G.s1 rfl (qm_x_icmp_ne_f ⟨by omega, by omega⟩ ⟨by decide, by decide⟩ (by omega)) ?_
          refine qm_G.s1 rfl (qm_x_lload rfl) ?_
          refine qm_G.s1 rfl (qm_x_goto) ?_
          refine qm_G.sp (lv1 := []) rfl rfl (qm_x_last (qm_arS hS rfl rfl) rfl (by omega) (by omega) (by decide)) ?_
          refine qm_G.s1 rfl (qm_x_pushI 1 rfl) ?_
          refine qm_G.ret rfl rfl ⟨_, rfl, ?_⟩
          refine qm_G.s1 rfl (qm_x_icmp_eq_t ⟨by decide, by decide⟩ ⟨by decide, by decide⟩ (by decide)) ?_
          rw [show (Int.toNat ((60 * 4) + a2)) = 240 + (Int.toNat a2) by omega]
          exact ih _ _ _ _ _ _ (qm_U_itm4 (by omega) hI)
        · refine qm_G.s1 rfl (qm_x_tswd (m := 4) rfl ⟨by omega, by omega⟩ (by omega) (by omega) (by decide)) ?_
          refine qm_G.sp (lv1 := [(1, qm_L (((qm_l a3) <<< ((qm_i 32).toInt64 &&& 63)) ||| ((qm_l a4) &&& (qm_l 4294967295))))]) rfl rfl (qm_x_lload rfl) ?_
          refine qm_G.s1 rfl (qm_x_pushL 0 rfl) ?_
          refine qm_y_lcmpr rfl (fun c152 => ?_) (fun c152 => ?_) (fun c152 => ?_)
          · refine qm_G.s1 rfl (qm_x_if_eq_f ⟨by decide, by decide⟩ (by decide)) ?_
            refine qm_G.s1 rfl (qm_x_pushL 1 rfl) ?_
            refine qm_G.s1 rfl (qm_x_goto) ?_
            refine qm_G.ret rfl rfl ⟨_, rfl, ?_⟩
            refine qm_G.s1 rfl (qm_x_last (qm_arS hS rfl rfl) rfl (by omega) (by omega) (by decide)) ?_
            refine qm_G.s1 rfl (qm_x_pushI 1 rfl) ?_
            refine qm_G.ret rfl rfl ⟨_, rfl, ?_⟩
            refine qm_G.s1 rfl (qm_x_aload rfl) ?_
            refine qm_G.s1 rfl (qm_x_aload rfl) ?_
            refine qm_G.s1 rfl (qm_x_iload rfl) ?_
            refine qm_G.s1 rfl (qm_x_pushI 1 rfl) ?_
            refine qm_G.s1 rfl (qm_x_iadd) ?_
            refine qm_G.s1 rfl (qm_x_iald2v (v := 4) (by omega) (by omega) hX e1) ?_
            refine qm_G.s1 rfl (qm_x_aload rfl) ?_
            refine qm_G.s1 rfl (qm_x_iload rfl) ?_
            refine qm_G.s1 rfl (qm_x_pushI 2 rfl) ?_
            refine qm_G.s1 rfl (qm_x_iadd) ?_
            refine qm_G.s1 rfl (qm_x_iald2v (v := a2) (by omega) (by omega) hX e2) ?_
            refine qm_G.s1 rfl (qm_x_aload rfl) ?_
            refine qm_G.s1 rfl (qm_x_iload rfl) ?_
            refine qm_G.s1 rfl (qm_x_pushI 3 rfl) ?_
            refine qm_G.s1 rfl (qm_x_iadd) ?_
            refine qm_G.s1 rfl (qm_x_iald2v (v := a3) (by omega) (by omega) hX e3) ?_
            refine qm_G.s1 rfl (qm_x_i2l ⟨by omega, by omega⟩) ?_
            refine qm_G.s1 rfl (qm_x_pushI 32 rfl) ?_
            refine qm_G.s1 rfl (qm_x_lshl) ?_
            refine qm_G.s1 rfl (qm_x_aload rfl) ?_
            refine qm_G.s1 rfl (qm_x_iload rfl) ?_
            refine qm_G.s1 rfl (qm_x_pushI 4 rfl) ?_
            refine qm_G.s1 rfl (qm_x_iadd) ?_
            refine qm_G.s1 rfl (qm_x_iald2v (v := a4) (by omega) (by omega) hX e4) ?_
            refine qm_G.s1 rfl (qm_x_i2l ⟨by omega, by omega⟩) ?_
            refine qm_G.s1 rfl (qm_x_pushL 4294967295 rfl) ?_
            refine qm_G.s1 rfl (qm_x_land) ?_
            refine qm_G.s1 rfl (qm_x_lor) ?_
            refine qm_G.cm rfl rfl (hS 61 rfl) rfl ?_
            refine qm_C.go (cd := qm_P125) (lv := [(0, qm_R (some (0, 61, 0))), (1, qm_I (qm_i 4)), (2, qm_I (qm_i a2)), (3, qm_L (((qm_l a3) <<< ((qm_i 32).toInt64 &&& 63)) ||| ((qm_l a4) &&& (qm_l 4294967295))))]) rfl rfl ?_
            refine qm_G.s1 rfl (qm_x_iload rfl) ?_
            refine qm_G.cs rfl rfl rfl ?_
            refine qm_C.go (cd := qm_P86) (lv := [(0, qm_I (qm_i 4))]) rfl rfl ?_
            refine qm_G.s1 rfl (qm_x_iload rfl) ?_
            refine qm_G.s1 rfl (qm_x_pushI 0 rfl) ?_
            refine qm_G.s1 rfl (qm_x_pushI 5 rfl) ?_
            refine qm_G.cs rfl rfl rfl ?_
            refine qm_v_within11_t ⟨by decide, by decide⟩ ⟨by decide, by decide⟩ ⟨by decide, by decide⟩ (by decide) ⟨_, rfl, ?_⟩
            refine qm_G.ret rfl rfl ⟨_, rfl, ?_⟩
            refine qm_G.s1 rfl (qm_x_if_ne_t ⟨by decide, by decide⟩ (by decide)) ?_
            refine qm_G.sp (lv1 := [(0, qm_R (some (0, 61, 0))), (1, qm_I (qm_i 4)), (2, qm_I (qm_i a2)), (3, qm_L (((qm_l a3) <<< ((qm_i 32).toInt64 &&& 63)) ||| ((qm_l a4) &&& (qm_l 4294967295))))]) rfl rfl (qm_x_aload rfl) ?_
            refine qm_G.s1 rfl (qm_x_getfR (q := (some (0, 73, 0))) (hS 61 rfl) (hR 61 20 73 rfl rfl)) ?_
            refine qm_G.s1 rfl (qm_x_iload rfl) ?_
            refine qm_G.s1 rfl (qm_x_iald (v := (J 73 0 4)) (qm_arS hS rfl rfl) rfl (by decide) (by decide) (by decide) rfl) ?_
            refine qm_G.s1 rfl (qm_x_if_ne_t ⟨by omega, by omega⟩ (by omega)) ?_
            refine qm_G.sp (lv1 := [(0, qm_R (some (0, 61, 0))), (1, qm_I (qm_i 4)), (2, qm_I (qm_i a2)), (3, qm_L (((qm_l a3) <<< ((qm_i 32).toInt64 &&& 63)) ||| ((qm_l a4) &&& (qm_l 4294967295))))]) rfl rfl (qm_x_iload rfl) ?_
            refine qm_G.s1 rfl (qm_x_pushI 0 rfl) ?_
            refine qm_G.s1 rfl (qm_x_aload rfl) ?_
            refine qm_G.s1 rfl (qm_x_getfR (q := (some (0, 74, 0))) (hS 61 rfl) (hR 61 21 74 rfl rfl)) ?_
            refine qm_G.s1 rfl (qm_x_iload rfl) ?_
            refine qm_G.s1 rfl (qm_x_iald (v := (J 74 0 4)) (qm_arS hS rfl rfl) rfl (by decide) (by decide) (by decide) rfl) ?_
            refine qm_G.s1 rfl (qm_x_pushI 1 rfl) ?_
            refine qm_G.s1 rfl (qm_x_isub) ?_
            refine qm_G.cs rfl rfl rfl ?_
            refine qm_v_within11_t ⟨by omega, by omega⟩ ⟨by decide, by decide⟩ ⟨by omega, by omega⟩ (by omega) ⟨_, rfl, ?_⟩
            refine qm_G.s1 rfl (qm_x_if_ne_t ⟨by decide, by decide⟩ (by decide)) ?_
            refine qm_G.sp (lv1 := [(0, qm_R (some (0, 61, 0))), (1, qm_I (qm_i 4)), (2, qm_I (qm_i a2)), (3, qm_L (((qm_l a3) <<< ((qm_i 32).toInt64 &&& 63)) ||| ((qm_l a4) &&& (qm_l 4294967295))))]) rfl rfl (qm_x_aload rfl) ?_
            refine qm_G.s1 rfl (qm_x_getfR (q := (some (0, 73, 0))) (hS 61 rfl) (hR 61 20 73 rfl rfl)) ?_
            refine qm_G.s1 rfl (qm_x_iload rfl) ?_
            refine qm_G.s1 rfl (qm_x_iald (v := (J 73 0 4)) (qm_arS hS rfl rfl) rfl (by decide) (by decide) (by decide) rfl) ?_
            refine qm_G.s1 rfl (qm_x_istore (lv' := [(5, qm_I (qm_i (J 73 0 4))), (0, qm_R (some (0, 61, 0))), (1, qm_I (qm_i 4)), (2, qm_I (qm_i a2)), (3, qm_L (((qm_l a3) <<< ((qm_i 32).toInt64 &&& 63)) ||| ((qm_l a4) &&& (qm_l 4294967295))))]) rfl) ?_
            refine qm_G.s1 rfl (qm_x_aload rfl) ?_
            refine qm_G.s1 rfl (qm_x_getfR (q := (some (0, 75, 0))) (hS 61 rfl) (hR 61 22 75 rfl rfl)) ?_
            refine qm_G.s1 rfl (qm_x_pushI 60 rfl) ?_
            refine qm_G.s1 rfl (qm_x_iload rfl) ?_
            refine qm_G.s1 rfl (qm_x_imul) ?_
            refine qm_G.s1 rfl (qm_x_iload rfl) ?_
            refine qm_G.s1 rfl (qm_x_iadd) ?_
            refine qm_G.s1 rfl (qm_x_iload rfl) ?_
            refine qm_G.s1 rfl (qm_x_pushI 1 rfl) ?_
            refine qm_G.s1 rfl (qm_x_icmp_ne_t ⟨by omega, by omega⟩ ⟨by decide, by decide⟩ (by omega)) ?_
            refine qm_G.sp (lv1 := [(3, qm_L (((qm_l a3) <<< ((qm_i 32).toInt64 &&& 63)) ||| ((qm_l a4) &&& (qm_l 4294967295)))), (5, qm_I (qm_i (J 73 0 4)))]) rfl rfl (qm_x_iload rfl) ?_
            refine qm_G.s1 rfl (qm_x_pushI 2 rfl) ?_
            refine qm_G.s1 rfl (qm_x_icmp_ne_t ⟨by omega, by omega⟩ ⟨by decide, by decide⟩ (by omega)) ?_
            refine qm_G.sp (lv1 := [(3, qm_L (((qm_l a3) <<< ((qm_i 32).toInt64 &&& 63)) ||| ((qm_l a4) &&& (qm_l 4294967295)))), (5, qm_I (qm_i (J 73 0 4)))]) rfl rfl (qm_x_iload rfl) ?_
            refine qm_G.s1 rfl (qm_x_pushI 3 rfl) ?_
            refine qm_G.s1 rfl (qm_x_icmp_ne_t ⟨by omega, by omega⟩ ⟨by decide, by decide⟩ (by omega)) ?_
            refine qm_G.sp (lv1 := [(3, qm_L (((qm_l a3) <<< ((qm_i 32).toInt64 &&& 63)) ||| ((qm_l a4) &&& (qm_l 4294967295)))), (5, qm_I (qm_i (J 73 0 4)))]) rfl rfl (qm_x_iload rfl) ?_
            refine qm_G.s1 rfl (qm_x_pushI 4 rfl) ?_
            refine qm_G.s1 rfl (qm_x_icmp_ne_t ⟨by omega, by omega⟩ ⟨by decide, by decide⟩ (by omega)) ?_
            refine qm_G.sp (lv1 := [(3, qm_L (((qm_l a3) <<< ((qm_i 32).toInt64 &&& 63)) ||| ((qm_l a4) &&& (qm_l 4294967295))))]) rfl rfl (qm_x_lload rfl) ?_
            refine qm_G.s1 rfl (qm_x_pushL 0 rfl) ?_
            refine qm_G.s1 rfl (qm_x_lcmp_lt c152) ?_
            refine qm_G.s1 rfl (qm_x_if_eq_f ⟨by decide, by decide⟩ (by decide)) ?_
            refine qm_G.s1 rfl (qm_x_pushL 1 rfl) ?_
            refine qm_G.s1 rfl (qm_x_goto) ?_
            refine qm_G.sp (lv1 := []) rfl rfl (qm_x_last (qm_arS hS rfl rfl) rfl (by omega) (by omega) (by decide)) ?_
            refine qm_G.s1 rfl (qm_x_pushI 1 rfl) ?_
            refine qm_G.ret rfl rfl ⟨_, rfl, ?_⟩
            refine qm_G.s1 rfl (qm_x_icmp_eq_t ⟨by decide, by decide⟩ ⟨by decide, by decide⟩ (by decide)) ?_
            rw [show (Int.toNat ((60 * 4) + a2)) = 240 + (Int.toNat a2) by omega]
            exact ih _ _ _ _ _ _ (qm_U_itm4 (by omega) hI)
          · refine qm_G.s1 rfl (qm_x_if_eq_t ⟨by decide, by decide⟩ (by decide)) ?_
            refine qm_G.sp (lv1 := []) rfl rfl (qm_x_pushL 0 rfl) ?_
            refine qm_G.ret rfl rfl ⟨_, rfl, ?_⟩
            refine qm_G.s1 rfl (qm_x_last (qm_arS hS rfl rfl) rfl (by omega) (by omega) (by decide)) ?_
            refine qm_G.s1 rfl (qm_x_pushI 1 rfl) ?_
            refine qm_G.ret rfl rfl ⟨_, rfl, ?_⟩
            refine qm_G.s1 rfl (qm_x_aload rfl) ?_
            refine qm_G.s1 rfl (qm_x_aload rfl) ?_
            refine qm_G.s1 rfl (qm_x_iload rfl) ?_
            refine qm_G.s1 rfl (qm_x_pushI 1 rfl) ?_
            refine qm_G.s1 rfl (qm_x_iadd) ?_
            refine qm_G.s1 rfl (qm_x_iald2v (v := 4) (by omega) (by omega) hX e1) ?_
            refine qm_G.s1 rfl (qm_x_aload rfl) ?_
            refine qm_G.s1 rfl (qm_x_iload rfl) ?_
            refine qm_G.s1 rfl (qm_x_pushI 2 rfl) ?_
            refine qm_G.s1 rfl (qm_x_iadd) ?_
            refine qm_G.s1 rfl (qm_x_iald2v (v := a2) (by omega) (by omega) hX e2) ?_
            refine qm_G.s1 rfl (qm_x_aload rfl) ?_
            refine qm_G.s1 rfl (qm_x_iload rfl) ?_
            refine qm_G.s1 rfl (qm_x_pushI 3 rfl) ?_
            refine qm_G.s1 rfl (qm_x_iadd) ?_
            refine qm_G.s1 rfl (qm_x_iald2v (v := a3) (by omega) (by omega) hX e3) ?_
            refine qm_G.s1 rfl (qm_x_i2l ⟨by omega, by omega⟩) ?_
            refine qm_G.s1 rfl (qm_x_pushI 32 rfl) ?_
            refine qm_G.s1 rfl (qm_x_lshl) ?_
            refine qm_G.s1 rfl (qm_x_aload rfl) ?_
            refine qm_G.s1 rfl (qm_x_iload rfl) ?_
            refine qm_G.s1 rfl (qm_x_pushI 4 rfl) ?_
            refine qm_G.s1 rfl (qm_x_iadd) ?_
            refine qm_G.s1 rfl (qm_x_iald2v (v := a4) (by omega) (by omega) hX e4) ?_
            refine qm_G.s1 rfl (qm_x_i2l ⟨by omega, by omega⟩) ?_
            refine qm_G.s1 rfl (qm_x_pushL 4294967295 rfl) ?_
            refine qm_G.s1 rfl (qm_x_land) ?_
            refine qm_G.s1 rfl (qm_x_lor) ?_
            refine qm_G.cm rfl rfl (hS 61 rfl) rfl ?_
            refine qm_C.go (cd := qm_P125) (lv := [(0, qm_R (some (0, 61, 0))), (1, qm_I (qm_i 4)), (2, qm_I (qm_i a2)), (3, qm_L (((qm_l a3) <<< ((qm_i 32).toInt64 &&& 63)) ||| ((qm_l a4) &&& (qm_l 4294967295))))]) rfl rfl ?_
            refine qm_G.s1 rfl (qm_x_iload rfl) ?_
            refine qm_G.cs rfl rfl rfl ?_
            refine qm_C.go (cd := qm_P86) (lv := [(0, qm_I (qm_i 4))]) rfl rfl ?_
            refine qm_G.s1 rfl (qm_x_iload rfl) ?_
            refine qm_G.s1 rfl (qm_x_pushI 0 rfl) ?_
            refine qm_G.s1 rfl (qm_x_pushI 5 rfl) ?_
            refine qm_G.cs rfl rfl rfl ?_
            refine qm_v_within11_t ⟨by decide, by decide⟩ ⟨by decide, by decide⟩ ⟨by decide, by decide⟩ (by decide) ⟨_, rfl, ?_⟩
            refine qm_G.ret rfl rfl ⟨_, rfl, ?_⟩
            refine qm_G.s1 rfl (qm_x_if_ne_t ⟨by decide, by decide⟩ (by decide)) ?_
            refine qm_G.sp (lv1 := [(0, qm_R (some (0, 61, 0))), (1, qm_I (qm_i 4)), (2, qm_I (qm_i a2)), (3, qm_L (((qm_l a3) <<< ((qm_i 32).toInt64 &&& 63)) ||| ((qm_l a4) &&& (qm_l 4294967295))))]) rfl rfl (qm_x_aload rfl) ?_
            refine qm_G.s1 rfl (qm_x_getfR (q := (some (0, 73, 0))) (hS 61 rfl) (hR 61 20 73 rfl rfl)) ?_
            refine qm_G.s1 rfl (qm_x_iload rfl) ?_
            refine qm_G.s1 rfl (qm_x_iald (v := (J 73 0 4)) (qm_arS hS rfl rfl) rfl (by decide) (by decide) (by decide) rfl) ?_
            refine qm_G.s1 rfl (qm_x_if_ne_t ⟨by omega, by omega⟩ (by omega)) ?_
            refine qm_G.sp (lv1 := [(0, qm_R (some (0, 61, 0))), (1, qm_I (qm_i 4)), (2, qm_I (qm_i a2)), (3, qm_L (((qm_l a3) <<< ((qm_i 32).toInt64 &&& 63)) ||| ((qm_l a4) &&& (qm_l 4294967295))))]) rfl rfl (qm_x_iload rfl) ?_
            refine qm_G.s1 rfl (qm_x_pushI 0 rfl) ?_
            refine qm_G.s1 rfl (qm_x_aload rfl) ?_
            refine qm_G.s1 rfl (qm_x_getfR (q := (some (0, 74, 0))) (hS 61 rfl) (hR 61 21 74 rfl rfl)) ?_
            refine qm_G.s1 rfl (qm_x_iload rfl) ?_
            refine qm_G.s1 rfl (qm_x_iald (v := (J 74 0 4)) (qm_arS hS rfl rfl) rfl (by decide) (by decide) (by decide) rfl) ?_
            refine qm_G.s1 rfl (qm_x_pushI 1 rfl) ?_
            refine qm_G.s1 rfl (qm_x_isub) ?_
            refine qm_G.cs rfl rfl rfl ?_
            refine qm_v_within11_t ⟨by omega, by omega⟩ ⟨by decide, by decide⟩ ⟨by omega, by omega⟩ (by omega) ⟨_, rfl, ?_⟩
            refine qm_G.s1 rfl (qm_x_if_ne_t ⟨by decide, by decide⟩ (by decide)) ?_
            refine qm_G.sp (lv1 := [(0, qm_R (some (0, 61, 0))), (1, qm_I (qm_i 4)), (2, qm_I (qm_i a2)), (3, qm_L (((qm_l a3) <<< ((qm_i 32).toInt64 &&& 63)) ||| ((qm_l a4) &&& (qm_l 4294967295))))]) rfl rfl (qm_x_aload rfl) ?_
            refine qm_G.s1 rfl (qm_x_getfR (q := (some (0, 73, 0))) (hS 61 rfl) (hR 61 20 73 rfl rfl)) ?_
            refine qm_G.s1 rfl (qm_x_iload rfl) ?_
            refine qm_G.s1 rfl (qm_x_iald (v := (J 73 0 4)) (qm_arS hS rfl rfl) rfl (by decide) (by decide) (by decide) rfl) ?_
            refine qm_G.s1 rfl (qm_x_istore (lv' := [(5, qm_I (qm_i (J 73 0 4))), (0, qm_R (some (0, 61, 0))), (1, qm_I (qm_i 4)), (2, qm_I (qm_i a2)), (3, qm_L (((qm_l a3) <<< ((qm_i 32).toInt64 &&& 63)) ||| ((qm_l a4) &&& (qm_l 4294967295))))]) rfl) ?_
            refine qm_G.s1 rfl (qm_x_aload rfl) ?_
            refine qm_G.s1 rfl (qm_x_getfR (q := (some (0, 75, 0))) (hS 61 rfl) (hR 61 22 75 rfl rfl)) ?_
            refine qm_G.s1 rfl (qm_x_pushI 60 rfl) ?_
            refine qm_G.s1 rfl (qm_x_iload rfl) ?_
            refine qm_G.s1 rfl (qm_x_imul) ?_
            refine qm_G.s1 rfl (qm_x_iload rfl) ?_
            refine qm_G.s1 rfl (qm_x_iadd) ?_
            refine qm_G.s1 rfl (qm_x_iload rfl) ?_
            refine qm_G.s1 rfl (qm_x_pushI 1 rfl) ?_
            refine qm_G.s1 rfl (qm_x_icmp_ne_t ⟨by omega, by omega⟩ ⟨by decide, by decide⟩ (by omega)) ?_
            refine qm_G.sp (lv1 := [(3, qm_L (((qm_l a3) <<< ((qm_i 32).toInt64 &&& 63)) ||| ((qm_l a4) &&& (qm_l 4294967295)))), (5, qm_I (qm_i (J 73 0 4)))]) rfl rfl (qm_x_iload rfl) ?_
            refine qm_G.s1 rfl (qm_x_pushI 2 rfl) ?_
            refine qm_G.s1 rfl (qm_x_icmp_ne_t ⟨by omega, by omega⟩ ⟨by decide, by decide⟩ (by omega)) ?_
            refine qm_G.sp (lv1 := [(3, qm_L (((qm_l a3) <<< ((qm_i 32).toInt64 &&& 63)) ||| ((qm_l a4) &&& (qm_l 4294967295)))), (5, qm_I (qm_i (J 73 0 4)))]) rfl rfl (qm_x_iload rfl) ?_
            refine qm_G.s1 rfl (qm_x_pushI 3 rfl) ?_
            refine qm_G.s1 rfl (qm_x_icmp_ne_t ⟨by omega, by omega⟩ ⟨by decide, by decide⟩ (by omega)) ?_
            refine qm_G.sp (lv1 := [(3, qm_L (((qm_l a3) <<< ((qm_i 32).toInt64 &&& 63)) ||| ((qm_l a4) &&& (qm_l 4294967295)))), (5, qm_I (qm_i (J 73 0 4)))]) rfl rfl (qm_x_iload rfl) ?_
            refine qm_G.s1 rfl (qm_x_pushI 4 rfl) ?_
            refine qm_G.s1 rfl (qm_x_icmp_ne_t ⟨by omega, by omega⟩ ⟨by decide, by decide⟩ (by omega)) ?_
            refine qm_G.sp (lv1 := [(3, qm_L (((qm_l a3) <<< ((qm_i 32).toInt64 &&& 63)) ||| ((qm_l a4) &&& (qm_l 4294967295))))]) rfl rfl (qm_x_lload rfl) ?_
            refine qm_G.s1 rfl (qm_x_pushL 0 rfl) ?_
            refine qm_G.s1 rfl (qm_x_lcmp_eq c152) ?_
            refine qm_G.s1 rfl (qm_x_if_eq_t ⟨by decide, by decide⟩ (by decide)) ?_
            refine qm_G.sp (lv1 := []) rfl rfl (qm_x_pushL 0 rfl) ?_
            refine qm_G.sp (lv1 := []) rfl rfl (qm_x_last (qm_arS hS rfl rfl) rfl (by omega) (by omega) (by decide)) ?_
            refine qm_G.s1 rfl (qm_x_pushI 1 rfl) ?_
            refine qm_G.ret rfl rfl ⟨_, rfl, ?_⟩
            refine qm_G.s1 rfl (qm_x_icmp_eq_t ⟨by decide, by decide⟩ ⟨by decide, by decide⟩ (by decide)) ?_
            rw [show (Int.toNat ((60 * 4) + a2)) = 240 + (Int.toNat a2) by omega]
            exact ih _ _ _ _ _ _ (qm_U_itm4 (by omega) hI)
          · refine qm_G.s1 rfl (qm_x_if_eq_f ⟨by decide, by decide⟩ (by decide)) ?_
            refine qm_G.s1 rfl (qm_x_pushL 1 rfl) ?_
            refine qm_G.s1 rfl (qm_x_goto) ?_
            refine qm_G.ret rfl rfl ⟨_, rfl, ?_⟩
            refine qm_G.s1 rfl (qm_x_last (qm_arS hS rfl rfl) rfl (by omega) (by omega) (by decide)) ?_
            refine qm_G.s1 rfl (qm_x_pushI 1 rfl) ?_
            refine qm_G.ret rfl rfl ⟨_, rfl, ?_⟩
            refine qm_G.s1 rfl (qm_x_aload rfl) ?_
            refine qm_G.s1 rfl (qm_x_aload rfl) ?_
            refine qm_G.s1 rfl (qm_x_iload rfl) ?_
            refine qm_G.s1 rfl (qm_x_pushI 1 rfl) ?_
            refine qm_G.s1 rfl (qm_x_iadd) ?_
            refine qm_G.s1 rfl (qm_x_iald2v (v := 4) (by omega) (by omega) hX e1) ?_
            refine qm_G.s1 rfl (qm_x_aload rfl) ?_
            refine qm_G.s1 rfl (qm_x_iload rfl) ?_
            refine qm_G.s1 rfl (qm_x_pushI 2 rfl) ?_
            refine qm_G.s1 rfl (qm_x_iadd) ?_
            refine qm_G.s1 rfl (qm_x_iald2v (v := a2) (by omega) (by omega) hX e2) ?_
            refine qm_G.s1 rfl (qm_x_aload rfl) ?_
            refine qm_G.s1 rfl (qm_x_iload rfl) ?_
            refine qm_G.s1 rfl (qm_x_pushI 3 rfl) ?_
            refine qm_G.s1 rfl (qm_x_iadd) ?_
            refine qm_G.s1 rfl (qm_x_iald2v (v := a3) (by omega) (by omega) hX e3) ?_
            refine qm_G.s1 rfl (qm_x_i2l ⟨by omega, by omega⟩) ?_
            refine qm_G.s1 rfl (qm_x_pushI 32 rfl) ?_
            refine qm_G.s1 rfl (qm_x_lshl) ?_
            refine qm_G.s1 rfl (qm_x_aload rfl) ?_
            refine qm_G.s1 rfl (qm_x_iload rfl) ?_
            refine qm_G.s1 rfl (qm_x_pushI 4 rfl) ?_
            refine qm_G.s1 rfl (qm_x_iadd) ?_
            refine qm_G.s1 rfl (qm_x_iald2v (v := a4) (by omega) (by omega) hX e4) ?_
            refine qm_G.s1 rfl (qm_x_i2l ⟨by omega, by omega⟩) ?_
            refine qm_G.s1 rfl (qm_x_pushL 4294967295 rfl) ?_
            refine qm_G.s1 rfl (qm_x_land) ?_
            refine qm_G.s1 rfl (qm_x_lor) ?_
            refine qm_G.cm rfl rfl (hS 61 rfl) rfl ?_
            refine qm_C.go (cd := qm_P125) (lv := [(0, qm_R (some (0, 61, 0))), (1, qm_I (qm_i 4)), (2, qm_I (qm_i a2)), (3, qm_L (((qm_l a3) <<< ((qm_i 32).toInt64 &&& 63)) ||| ((qm_l a4) &&& (qm_l 4294967295))))]) rfl rfl ?_
            refine qm_G.s1 rfl (qm_x_iload rfl) ?_
            refine qm_G.cs rfl rfl rfl ?_
            refine qm_C.go (cd := qm_P86) (lv := [(0, qm_I (qm_i 4))]) rfl rfl ?_
            refine qm_G.s1 rfl (qm_x_iload rfl) ?_
            refine qm_G.s1 rfl (qm_x_pushI 0 rfl) ?_
            refine qm_G.s1 rfl (qm_x_pushI 5 rfl) ?_
            refine qm_G.cs rfl rfl rfl ?_
            refine qm_v_within11_t ⟨by decide, by decide⟩ ⟨by decide, by decide⟩ ⟨by decide, by decide⟩ (by decide) ⟨_, rfl, ?_⟩
            refine qm_G.ret rfl rfl ⟨_, rfl, ?_⟩
            refine qm_G.s1 rfl (qm_x_if_ne_t ⟨by decide, by decide⟩ (by decide)) ?_
            refine qm_G.sp (lv1 := [(0, qm_R (some (0, 61, 0))), (1, qm_I (qm_i 4)), (2, qm_I (qm_i a2)), (3, qm_L (((qm_l a3) <<< ((qm_i 32).toInt64 &&& 63)) ||| ((qm_l a4) &&& (qm_l 4294967295))))]) rfl rfl (qm_x_aload rfl) ?_
            refine qm_G.s1 rfl (qm_x_getfR (q := (some (0, 73, 0))) (hS 61 rfl) (hR 61 20 73 rfl rfl)) ?_
            refine qm_G.s1 rfl (qm_x_iload rfl) ?_
            refine qm_G.s1 rfl (qm_x_iald (v := (J 73 0 4)) (qm_arS hS rfl rfl) rfl (by decide) (by decide) (by decide) rfl) ?_
            refine qm_G.s1 rfl (qm_x_if_ne_t ⟨by omega, by omega⟩ (by omega)) ?_
            refine qm_G.sp (lv1 := [(0, qm_R (some (0, 61, 0))), (1, qm_I (qm_i 4)), (2, qm_I (qm_i a2)), (3, qm_L (((qm_l a3) <<< ((qm_i 32).toInt64 &&& 63)) ||| ((qm_l a4) &&& (qm_l 4294967295))))]) rfl rfl (qm_x_iload rfl) ?_
            refine qm_G.s1 rfl (qm_x_pushI 0 rfl) ?_
            refine qm_G.s1 rfl (qm_x_aload rfl) ?_
            refine qm_G.s1 rfl (qm_x_getfR (q := (some (0, 74, 0))) (hS 61 rfl) (hR 61 21 74 rfl rfl)) ?_
            refine qm_G.s1 rfl (qm_x_iload rfl) ?_
            refine qm_G.s1 rfl (qm_x_iald (v := (J 74 0 4)) (qm_arS hS rfl rfl) rfl (by decide) (by decide) (by decide) rfl) ?_
            refine qm_G.s1 rfl (qm_x_pushI 1 rfl) ?_
            refine qm_G.s1 rfl (qm_x_isub) ?_
            refine qm_G.cs rfl rfl rfl ?_
            refine qm_v_within11_t ⟨by omega, by omega⟩ ⟨by decide, by decide⟩ ⟨by omega, by omega⟩ (by omega) ⟨_, rfl, ?_⟩
            refine qm_G.s1 rfl (qm_x_if_ne_t ⟨by decide, by decide⟩ (by decide)) ?_
            refine qm_G.sp (lv1 := [(0, qm_R (some (0, 61, 0))), (1, qm_I (qm_i 4)), (2, qm_I (qm_i a2)), (3, qm_L (((qm_l a3) <<< ((qm_i 32).toInt64 &&& 63)) ||| ((qm_l a4) &&& (qm_l 4294967295))))]) rfl rfl (qm_x_aload rfl) ?_
            refine qm_G.s1 rfl (qm_x_getfR (q := (some (0, 73, 0))) (hS 61 rfl) (hR 61 20 73 rfl rfl)) ?_
            refine qm_G.s1 rfl (qm_x_iload rfl) ?_
            refine qm_G.s1 rfl (qm_x_iald (v := (J 73 0 4)) (qm_arS hS rfl rfl) rfl (by decide) (by decide) (by decide) rfl) ?_
            refine qm_G.s1 rfl (qm_x_istore (lv' := [(5, qm_I (qm_i (J 73 0 4))), (0, qm_R (some (0, 61, 0))), (1, qm_I (qm_i 4)), (2, qm_I (qm_i a2)), (3, qm_L (((qm_l a3) <<< ((qm_i 32).toInt64 &&& 63)) ||| ((qm_l a4) &&& (qm_l 4294967295))))]) rfl) ?_
            refine qm_G.s1 rfl (qm_x_aload rfl) ?_
            refine qm_G.s1 rfl (qm_x_getfR (q := (some (0, 75, 0))) (hS 61 rfl) (hR 61 22 75 rfl rfl)) ?_
            refine qm_G.s1 rfl (qm_x_pushI 60 rfl) ?_
            refine qm_G.s1 rfl (qm_x_iload rfl) ?_
            refine qm_G.s1 rfl (qm_x_imul) ?_
            refine qm_G.s1 rfl (qm_x_iload rfl) ?_
            refine qm_G.s1 rfl (qm_x_iadd) ?_
            refine qm_G.s1 rfl (qm_x_iload rfl) ?_
            refine qm_G.s1 rfl (qm_x_pushI 1 rfl) ?_
            refine qm_G.s1 rfl (qm_x_icmp_ne_t ⟨by omega, by omega⟩ ⟨by decide, by decide⟩ (by omega)) ?_
            refine qm_G.sp (lv1 := [(3, qm_L (((qm_l a3) <<< ((qm_i 32).toInt64 &&& 63)) ||| ((qm_l a4) &&& (qm_l 4294967295)))), (5, qm_I (qm_i (J 73 0 4)))]) rfl rfl (qm_x_iload rfl) ?_
            refine qm_G.s1 rfl (qm_x_pushI 2 rfl) ?_
            refine qm_G.s1 rfl (qm_x_icmp_ne_t ⟨by omega, by omega⟩ ⟨by decide, by decide⟩ (by omega)) ?_
            refine qm_G.sp (lv1 := [(3, qm_L (((qm_l a3) <<< ((qm_i 32).toInt64 &&& 63)) ||| ((qm_l a4) &&& (qm_l 4294967295)))), (5, qm_I (qm_i (J 73 0 4)))]) rfl rfl (qm_x_iload rfl) ?_
            refine qm_G.s1 rfl (qm_x_pushI 3 rfl) ?_
            refine qm_G.s1 rfl (qm_x_icmp_ne_t ⟨by omega, by omega⟩ ⟨by decide, by decide⟩ (by omega)) ?_
            refine qm_G.sp (lv1 := [(3, qm_L (((qm_l a3) <<< ((qm_i 32).toInt64 &&& 63)) ||| ((qm_l a4) &&& (qm_l 4294967295)))), (5, qm_I (qm_i (J 73 0 4)))]) rfl rfl (qm_x_iload rfl) ?_
            refine qm_G.s1 rfl (qm_x_pushI 4 rfl) ?_
            refine qm_G.s1 rfl (qm_x_icmp_ne_t ⟨by omega, by omega⟩ ⟨by decide, by decide⟩ (by omega)) ?_
            refine qm_G.sp (lv1 := [(3, qm_L (((qm_l a3) <<< ((qm_i 32).toInt64 &&& 63)) ||| ((qm_l a4) &&& (qm_l 4294967295))))]) rfl rfl (qm_x_lload rfl) ?_
            refine qm_G.s1 rfl (qm_x_pushL 0 rfl) ?_
            refine qm_G.s1 rfl (qm_x_lcmp_gt c152) ?_
            refine qm_G.s1 rfl (qm_x_if_eq_f ⟨by decide, by decide⟩ (by decide)) ?_
            refine qm_G.s1 rfl (qm_x_pushL 1 rfl) ?_
            refine qm_G.s1 rfl (qm_x_goto) ?_
            refine qm_G.sp (lv1 := []) rfl rfl (qm_x_last (qm_arS hS rfl rfl) rfl (by omega) (by omega) (by decide)) ?_
            refine qm_G.s1 rfl (qm_x_pushI 1 rfl) ?_
            refine qm_G.ret rfl rfl ⟨_, rfl, ?_⟩
            refine qm_G.s1 rfl (qm_x_icmp_eq_t ⟨by decide, by decide⟩ ⟨by decide, by decide⟩ (by decide)) ?_
            rw [show (Int.toNat ((60 * 4) + a2)) = 240 + (Int.toNat a2) by omega]
            exact ih _ _ _ _ _ _ (qm_U_itm4 (by omega) hI)
      · refine qm_G.s1 rfl (qm_x_if_ne_f ⟨by decide, by decide⟩ (by decide)) ?_
        refine qm_G.s1 rfl (qm_x_pushI (-13) rfl) ?_
        refine qm_G.ret rfl rfl ⟨_, rfl, ?_⟩
        refine qm_G.s1 rfl (qm_x_aload rfl) ?_
        refine qm_G.s1 rfl (qm_x_aload rfl) ?_
        refine qm_G.s1 rfl (qm_x_iload rfl) ?_
        refine qm_G.s1 rfl (qm_x_pushI 1 rfl) ?_
        refine qm_G.s1 rfl (qm_x_iadd) ?_
        refine qm_G.s1 rfl (qm_x_iald2v (v := 4) (by omega) (by omega) hX e1) ?_
        refine qm_G.s1 rfl (qm_x_aload rfl) ?_
        refine qm_G.s1 rfl (qm_x_iload rfl) ?_
        refine qm_G.s1 rfl (qm_x_pushI 2 rfl) ?_
        refine qm_G.s1 rfl (qm_x_iadd) ?_
        refine qm_G.s1 rfl (qm_x_iald2v (v := a2) (by omega) (by omega) hX e2) ?_
        refine qm_G.s1 rfl (qm_x_aload rfl) ?_
        refine qm_G.s1 rfl (qm_x_iload rfl) ?_
        refine qm_G.s1 rfl (qm_x_pushI 3 rfl) ?_
        refine qm_G.s1 rfl (qm_x_iadd) ?_
        refine qm_G.s1 rfl (qm_x_iald2v (v := a3) (by omega) (by omega) hX e3) ?_
        refine qm_G.s1 rfl (qm_x_i2l ⟨by omega, by omega⟩) ?_
        refine qm_G.s1 rfl (qm_x_pushI 32 rfl) ?_
        refine qm_G.s1 rfl (qm_x_lshl) ?_
        refine qm_G.s1 rfl (qm_x_aload rfl) ?_
        refine qm_G.s1 rfl (qm_x_iload rfl) ?_
        refine qm_G.s1 rfl (qm_x_pushI 4 rfl) ?_
        refine qm_G.s1 rfl (qm_x_iadd) ?_
        refine qm_G.s1 rfl (qm_x_iald2v (v := a4) (by omega) (by omega) hX e4) ?_
        refine qm_G.s1 rfl (qm_x_i2l ⟨by omega, by omega⟩) ?_
        refine qm_G.s1 rfl (qm_x_pushL 4294967295 rfl) ?_
        refine qm_G.s1 rfl (qm_x_land) ?_
        refine qm_G.s1 rfl (qm_x_lor) ?_
        refine qm_G.cm rfl rfl (hS 61 rfl) rfl ?_
        refine qm_C.go (cd := qm_P125) (lv := [(0, qm_R (some (0, 61, 0))), (1, qm_I (qm_i 4)), (2, qm_I (qm_i a2)), (3, qm_L (((qm_l a3) <<< ((qm_i 32).toInt64 &&& 63)) ||| ((qm_l a4) &&& (qm_l 4294967295))))]) rfl rfl ?_
        refine qm_G.s1 rfl (qm_x_iload rfl) ?_
        refine qm_G.cs rfl rfl rfl ?_
        refine qm_C.go (cd := qm_P86) (lv := [(0, qm_I (qm_i 4))]) rfl rfl ?_
        refine qm_G.s1 rfl (qm_x_iload rfl) ?_
        refine qm_G.s1 rfl (qm_x_pushI 0 rfl) ?_
        refine qm_G.s1 rfl (qm_x_pushI 5 rfl) ?_
        refine qm_G.cs rfl rfl rfl ?_
        refine qm_v_within11_t ⟨by decide, by decide⟩ ⟨by decide, by decide⟩ ⟨by decide, by decide⟩ (by decide) ⟨_, rfl, ?_⟩
        refine qm_G.ret rfl rfl ⟨_, rfl, ?_⟩
        refine qm_G.s1 rfl (qm_x_if_ne_t ⟨by decide, by decide⟩ (by decide)) ?_
        refine qm_G.sp (lv1 := [(0, qm_R (some (0, 61, 0))), (1, qm_I (qm_i 4)), (2, qm_I (qm_i a2)), (3, qm_L (((qm_l a3) <<< ((qm_i 32).toInt64 &&& 63)) ||| ((qm_l a4) &&& (qm_l 4294967295))))]) rfl rfl (qm_x_aload rfl) ?_
        refine qm_G.s1 rfl (qm_x_getfR (q := (some (0, 73, 0))) (hS 61 rfl) (hR 61 20 73 rfl rfl)) ?_
        refine qm_G.s1 rfl (qm_x_iload rfl) ?_
        refine qm_G.s1 rfl (qm_x_iald (v := (J 73 0 4)) (qm_arS hS rfl rfl) rfl (by decide) (by decide) (by decide) rfl) ?_
        refine qm_G.s1 rfl (qm_x_if_ne_t ⟨by omega, by omega⟩ (by omega)) ?_
        refine qm_G.sp (lv1 := [(0, qm_R (some (0, 61, 0))), (1, qm_I (qm_i 4)), (2, qm_I (qm_i a2)), (3, qm_L (((qm_l a3) <<< ((qm_i 32).toInt64 &&& 63)) ||| ((qm_l a4) &&& (qm_l 4294967295))))]) rfl rfl (qm_x_iload rfl) ?_
        refine qm_G.s1 rfl (qm_x_pushI 0 rfl) ?_
        refine qm_G.s1 rfl (qm_x_aload rfl) ?_
        refine qm_G.s1 rfl (qm_x_getfR (q := (some (0, 74, 0))) (hS 61 rfl) (hR 61 21 74 rfl rfl)) ?_
        refine qm_G.s1 rfl (qm_x_iload rfl) ?_
        refine qm_G.s1 rfl (qm_x_iald (v := (J 74 0 4)) (qm_arS hS rfl rfl) rfl (by decide) (by decide) (by decide) rfl) ?_
        refine qm_G.s1 rfl (qm_x_pushI 1 rfl) ?_
        refine qm_G.s1 rfl (qm_x_isub) ?_
        refine qm_G.cs rfl rfl rfl ?_
        refine qm_v_within11_f ⟨by omega, by omega⟩ ⟨by decide, by decide⟩ ⟨by omega, by omega⟩ (by omega) ⟨_, rfl, ?_⟩
        refine qm_G.s1 rfl (qm_x_if_ne_f ⟨by decide, by decide⟩ (by decide)) ?_
        refine qm_G.s1 rfl (qm_x_pushI (-13) rfl) ?_
        refine qm_G.ret rfl rfl ⟨_, rfl, ?_⟩
        refine qm_G.s1 rfl (qm_x_icmp_eq_t ⟨by decide, by decide⟩ ⟨by decide, by decide⟩ (by decide)) ?_
        exact ih _ _ _ _ _ _ hI.next
    · refine qm_G.s1 rfl (qm_x_pushI (-11) rfl) ?_
      refine qm_G.ret rfl rfl ⟨_, rfl, ?_⟩
      refine qm_G.s1 rfl (qm_x_aload rfl) ?_
      refine qm_G.s1 rfl (qm_x_aload rfl) ?_
      refine qm_G.s1 rfl (qm_x_iload rfl) ?_
      refine qm_G.s1 rfl (qm_x_pushI 1 rfl) ?_
      refine qm_G.s1 rfl (qm_x_iadd) ?_
      refine qm_G.s1 rfl (qm_x_iald2v (v := 4) (by omega) (by omega) hX e1) ?_
      refine qm_G.s1 rfl (qm_x_aload rfl) ?_
      refine qm_G.s1 rfl (qm_x_iload rfl) ?_
      refine qm_G.s1 rfl (qm_x_pushI 2 rfl) ?_
      refine qm_G.s1 rfl (qm_x_iadd) ?_
      refine qm_G.s1 rfl (qm_x_iald2v (v := a2) (by omega) (by omega) hX e2) ?_
      refine qm_G.s1 rfl (qm_x_aload rfl) ?_
      refine qm_G.s1 rfl (qm_x_iload rfl) ?_
      refine qm_G.s1 rfl (qm_x_pushI 3 rfl) ?_
      refine qm_G.s1 rfl (qm_x_iadd) ?_
      refine qm_G.s1 rfl (qm_x_iald2v (v := a3) (by omega) (by omega) hX e3) ?_
      refine qm_G.s1 rfl (qm_x_i2l ⟨by omega, by omega⟩) ?_
      refine qm_G.s1 rfl (qm_x_pushI 32 rfl) ?_
      refine qm_G.s1 rfl (qm_x_lshl) ?_
      refine qm_G.s1 rfl (qm_x_aload rfl) ?_
      refine qm_G.s1 rfl (qm_x_iload rfl) ?_
      refine qm_G.s1 rfl (qm_x_pushI 4 rfl) ?_
      refine qm_G.s1 rfl (qm_x_iadd) ?_
      refine qm_G.s1 rfl (qm_x_iald2v (v := a4) (by omega) (by omega) hX e4) ?_
      refine qm_G.s1 rfl (qm_x_i2l ⟨by omega, by omega⟩) ?_
      refine qm_G.s1 rfl (qm_x_pushL 4294967295 rfl) ?_
      refine qm_G.s1 rfl (qm_x_land) ?_
      refine qm_G.s1 rfl (qm_x_lor) ?_
      refine qm_G.cm rfl rfl (hS 61 rfl) rfl ?_
      refine qm_C.go (cd := qm_P125) (lv := [(0, qm_R (some (0, 61, 0))), (1, qm_I (qm_i 4)), (2, qm_I (qm_i a2)), (3, qm_L (((qm_l a3) <<< ((qm_i 32).toInt64 &&& 63)) ||| ((qm_l a4) &&& (qm_l 4294967295))))]) rfl rfl ?_
      refine qm_G.s1 rfl (qm_x_iload rfl) ?_
      refine qm_G.cs rfl rfl rfl ?_
      refine qm_C.go (cd := qm_P86) (lv := [(0, qm_I (qm_i 4))]) rfl rfl ?_
      refine qm_G.s1 rfl (qm_x_iload rfl) ?_
      refine qm_G.s1 rfl (qm_x_pushI 0 rfl) ?_
      refine qm_G.s1 rfl (qm_x_pushI 5 rfl) ?_
      refine qm_G.cs rfl rfl rfl ?_
      refine qm_v_within11_t ⟨by decide, by decide⟩ ⟨by decide, by decide⟩ ⟨by decide, by decide⟩ (by decide) ⟨_, rfl, ?_⟩
      refine qm_G.ret rfl rfl ⟨_, rfl, ?_⟩
      refine qm_G.s1 rfl (qm_x_if_ne_t ⟨by decide, by decide⟩ (by decide)) ?_
      refine qm_G.sp (lv1 := [(0, qm_R (some (0, 61, 0))), (1, qm_I (qm_i 4)), (2, qm_I (qm_i a2)), (3, qm_L (((qm_l a3) <<< ((qm_i 32).toInt64 &&& 63)) ||| ((qm_l a4) &&& (qm_l 4294967295))))]) rfl rfl (qm_x_aload rfl) ?_
      refine qm_G.s1 rfl (qm_x_getfR (q := (some (0, 73, 0))) (hS 61 rfl) (hR 61 20 73 rfl rfl)) ?_
      refine qm_G.s1 rfl (qm_x_iload rfl) ?_
      refine qm_G.s1 rfl (qm_x_iald (v := (J 73 0 4)) (qm_arS hS rfl rfl) rfl (by decide) (by decide) (by decide) rfl) ?_
      refine qm_G.s1 rfl (qm_x_if_ne_f ⟨by omega, by omega⟩ (by omega)) ?_
      refine qm_G.s1 rfl (qm_x_pushI (-11) rfl) ?_
      refine qm_G.ret rfl rfl ⟨_, rfl, ?_⟩
      refine qm_G.s1 rfl (qm_x_icmp_eq_t ⟨by decide, by decide⟩ ⟨by decide, by decide⟩ (by decide)) ?_
      exact ih _ _ _ _ _ _ hI.next
  · subst d1
    refine qm_G.sp (lv1 := [(0, qm_R (some (2, 0, 0))), (1, qm_R (some (0, 0, 0))), (2, qm_R (some (0, 61, 0))), (3, qm_I (qm_i z))]) rfl rfl (qm_x_aload rfl) ?_
    refine qm_G.s1 rfl (qm_x_aload rfl) ?_
    refine qm_G.s1 rfl (qm_x_iload rfl) ?_
    refine qm_G.s1 rfl (qm_x_pushI 1 rfl) ?_
    refine qm_G.s1 rfl (qm_x_iadd) ?_
    refine qm_G.s1 rfl (qm_x_iald2v (v := 5) (by omega) (by omega) hX e1) ?_
    refine qm_G.s1 rfl (qm_x_aload rfl) ?_
    refine qm_G.s1 rfl (qm_x_iload rfl) ?_
    refine qm_G.s1 rfl (qm_x_pushI 2 rfl) ?_
    refine qm_G.s1 rfl (qm_x_iadd) ?_
    refine qm_G.s1 rfl (qm_x_iald2v (v := a2) (by omega) (by omega) hX e2) ?_
    refine qm_G.s1 rfl (qm_x_aload rfl) ?_
    refine qm_G.s1 rfl (qm_x_iload rfl) ?_
    refine qm_G.s1 rfl (qm_x_pushI 3 rfl) ?_
    refine qm_G.s1 rfl (qm_x_iadd) ?_
    refine qm_G.s1 rfl (qm_x_iald2v (v := a3) (by omega) (by omega) hX e3) ?_
    refine qm_G.s1 rfl (qm_x_i2l ⟨by omega, by omega⟩) ?_
    refine qm_G.s1 rfl (qm_x_pushI 32 rfl) ?_
    refine qm_G.s1 rfl (qm_x_lshl) ?_
    refine qm_G.s1 rfl (qm_x_aload rfl) ?_
    refine qm_G.s1 rfl (qm_x_iload rfl) ?_
    refine qm_G.s1 rfl (qm_x_pushI 4 rfl) ?_
    refine qm_G.s1 rfl (qm_x_iadd) ?_
    refine qm_G.s1 rfl (qm_x_iald2v (v := a4) (by omega) (by omega) hX e4) ?_
    refine qm_G.s1 rfl (qm_x_i2l ⟨by omega, by omega⟩) ?_
    refine qm_G.s1 rfl (qm_x_pushL 4294967295 rfl) ?_
    refine qm_G.s1 rfl (qm_x_land) ?_
    refine qm_G.s1 rfl (qm_x_lor) ?_
    refine qm_G.cm rfl rfl (hS 0 rfl) rfl ?_
    refine qm_C.go (cd := qm_P114) (lv := [(0, qm_R (some (0, 0, 0))), (1, qm_I (qm_i 5)), (2, qm_I (qm_i a2)), (3, qm_L (((qm_l a3) <<< ((qm_i 32).toInt64 &&& 63)) ||| ((qm_l a4) &&& (qm_l 4294967295))))]) rfl rfl ?_
    refine qm_G.s1 rfl (qm_x_iload rfl) ?_
    refine qm_G.cs rfl rfl rfl ?_
    refine qm_C.go (cd := qm_P76) (lv := [(0, qm_I (qm_i 5))]) rfl rfl ?_
    refine qm_G.s1 rfl (qm_x_iload rfl) ?_
    refine qm_G.s1 rfl (qm_x_pushI 0 rfl) ?_
    refine qm_G.s1 rfl (qm_x_pushI 5 rfl) ?_
    refine qm_G.cs rfl rfl rfl ?_
    refine qm_v_within10_t ⟨by decide, by decide⟩ ⟨by decide, by decide⟩ ⟨by decide, by decide⟩ (by decide) ⟨_, rfl, ?_⟩
    refine qm_G.ret rfl rfl ⟨_, rfl, ?_⟩
    refine qm_G.s1 rfl (qm_x_if_ne_t ⟨by decide, by decide⟩ (by decide)) ?_
    refine qm_G.sp (lv1 := [(0, qm_R (some (0, 0, 0))), (1, qm_I (qm_i 5)), (2, qm_I (qm_i a2)), (3, qm_L (((qm_l a3) <<< ((qm_i 32).toInt64 &&& 63)) ||| ((qm_l a4) &&& (qm_l 4294967295))))]) rfl rfl (qm_x_aload rfl) ?_
    refine qm_G.s1 rfl (qm_x_getfR (q := (some (0, 46, 0))) (hS 0 rfl) (hR 0 5 46 rfl rfl)) ?_
    refine qm_G.s1 rfl (qm_x_iload rfl) ?_
    refine qm_G.s1 rfl (qm_x_aaldr (q := (some (0, 59, 0))) (hS 46 rfl) rfl rfl (by decide) (by decide) (hR 46 5 59 rfl rfl)) ?_
    refine qm_G.s1 rfl (qm_x_astore (lv' := [(5, qm_R (some (0, 59, 0))), (0, qm_R (some (0, 0, 0))), (1, qm_I (qm_i 5)), (2, qm_I (qm_i a2)), (3, qm_L (((qm_l a3) <<< ((qm_i 32).toInt64 &&& 63)) ||| ((qm_l a4) &&& (qm_l 4294967295))))]) rfl) ?_
    refine qm_G.s1 rfl (qm_x_aload rfl) ?_
    have f73_5 : 0 ≤ J 73 0 5 ∧ J 73 0 5 ≤ 5 := (hI.srt 5 (by decide)).2
    have f59_1 : J 59 0 1 = J 73 0 5 - 1 := (hI.srt 5 (by decide)).1
    refine qm_G.s1 rfl (qm_x_getfI (v := (J 59 0 1)) (hS 59 rfl) rfl) ?_
    refine qm_G.s1 rfl (qm_x_pushI (-1) rfl) ?_
    refine qm_y_icmp_ne rfl ⟨by omega, by omega⟩ ⟨by decide, by decide⟩ (fun c163 => ?_) (fun c163 => ?_)
    · refine qm_G.sp (lv1 := [(2, qm_I (qm_i a2)), (3, qm_L (((qm_l a3) <<< ((qm_i 32).toInt64 &&& 63)) ||| ((qm_l a4) &&& (qm_l 4294967295)))), (5, qm_R (some (0, 59, 0)))]) rfl rfl (qm_x_iload rfl) ?_
      refine qm_G.s1 rfl (qm_x_pushI 0 rfl) ?_
      refine qm_G.s1 rfl (qm_x_aload rfl) ?_
      have f74_5 : 0 ≤ J 74 0 5 ∧ J 74 0 5 ≤ 60 := ⟨(hI.len 5 (by decide)).2.1, (hI.len 5 (by decide)).2.2.1⟩
      have f59_2 : J 59 0 2 = J 74 0 5 := (hI.len 5 (by decide)).1
      refine qm_G.s1 rfl (qm_x_getfI (v := (J 59 0 2)) (hS 59 rfl) rfl) ?_
      refine qm_G.s1 rfl (qm_x_pushI 1 rfl) ?_
      refine qm_G.s1 rfl (qm_x_isub) ?_
      refine qm_G.cs rfl rfl rfl ?_
      refine qm_v_within10 ⟨by omega, by omega⟩ ⟨by decide, by decide⟩ ⟨by omega, by omega⟩ (fun c164 => ⟨_, rfl, ?_⟩) (fun c164 => ⟨_, rfl, ?_⟩)
      · refine qm_G.s1 rfl (qm_x_if_ne_t ⟨by decide, by decide⟩ (by decide)) ?_
        refine qm_G.sp (lv1 := [(2, qm_I (qm_i a2)), (3, qm_L (((qm_l a3) <<< ((qm_i 32).toInt64 &&& 63)) ||| ((qm_l a4) &&& (qm_l 4294967295)))), (5, qm_R (some (0, 59, 0)))]) rfl rfl (qm_x_aload rfl) ?_
        refine qm_G.s1 rfl (qm_x_getfR (q := (some (0, 60, 0))) (hS 59 rfl) (hR 59 0 60 rfl rfl)) ?_
        refine qm_G.s1 rfl (qm_x_iload rfl) ?_
        refine qm_G.s1 rfl (qm_x_aload rfl) ?_
        refine qm_G.s1 rfl (qm_x_lload rfl) ?_
        refine qm_G.cm rfl rfl (hS 59 rfl) rfl ?_
        refine qm_C.go (cd := qm_P49) (lv := [(0, qm_R (some (0, 59, 0))), (1, qm_L (((qm_l a3) <<< ((qm_i 32).toInt64 &&& 63)) ||| ((qm_l a4) &&& (qm_l 4294967295))))]) rfl rfl ?_
        refine qm_G.s1 rfl (qm_x_aload rfl) ?_
        refine qm_G.s1 rfl (qm_x_getfI (v := (J 59 0 1)) (hS 59 rfl) rfl) ?_
        rcases (show J 59 0 1 = 0 ∨ J 59 0 1 = 1 ∨ J 59 0 1 = 2 ∨ J 59 0 1 = 3 ∨ (J 59 0 1 < 0 ∨ 4 ≤ J 59 0 1) by omega) with c165 | c165 | c165 | c165 | c165
        · refine qm_G.s1 rfl (qm_x_tsweq (v := 0) (t := 36) c165 rfl) ?_
          refine qm_G.sp (lv1 := [(1, qm_L (((qm_l a3) <<< ((qm_i 32).toInt64 &&& 63)) ||| ((qm_l a4) &&& (qm_l 4294967295))))]) rfl rfl (qm_x_lload rfl) ?_
          refine qm_G.s1 rfl (qm_x_l2ir) ?_
          have g166 : qm_sm ((((qm_l a3) <<< ((qm_i 32).toInt64 &&& 63)) ||| ((qm_l a4) &&& (qm_l 4294967295))).toInt32.toInt) := qm_i_sml _
          refine qm_G.s1 rfl (qm_x_i2br) ?_
          have g167 : qm_sm ((qm_i ((((qm_l a3) <<< ((qm_i 32).toInt64 &&& 63)) ||| ((qm_l a4) &&& (qm_l 4294967295))).toInt32.toInt)).toInt8.toInt) := qm_sm8 _
          refine qm_G.s1 rfl (qm_x_i2l ⟨by omega, by omega⟩) ?_
          refine qm_G.ret rfl rfl ⟨_, rfl, ?_⟩
          refine qm_G.s1 rfl (qm_x_last (qm_arS hS rfl rfl) rfl (by omega) (by omega) (by decide)) ?_
          refine qm_G.s1 rfl (qm_x_pushI 1 rfl) ?_
          refine qm_G.ret rfl rfl ⟨_, rfl, ?_⟩
          refine qm_G.s1 rfl (qm_x_aload rfl) ?_
          refine qm_G.s1 rfl (qm_x_aload rfl) ?_
          refine qm_G.s1 rfl (qm_x_iload rfl) ?_
          refine qm_G.s1 rfl (qm_x_pushI 1 rfl) ?_
          refine qm_G.s1 rfl (qm_x_iadd) ?_
          refine qm_G.s1 rfl (qm_x_iald2v (v := 5) (by omega) (by omega) hX e1) ?_
          refine qm_G.s1 rfl (qm_x_aload rfl) ?_
          refine qm_G.s1 rfl (qm_x_iload rfl) ?_
          refine qm_G.s1 rfl (qm_x_pushI 2 rfl) ?_
          refine qm_G.s1 rfl (qm_x_iadd) ?_
          refine qm_G.s1 rfl (qm_x_iald2v (v := a2) (by omega) (by omega) hX e2) ?_
          refine qm_G.s1 rfl (qm_x_aload rfl) ?_
          refine qm_G.s1 rfl (qm_x_iload rfl) ?_
          refine qm_G.s1 rfl (qm_x_pushI 3 rfl) ?_
          refine qm_G.s1 rfl (qm_x_iadd) ?_
          refine qm_G.s1 rfl (qm_x_iald2v (v := a3) (by omega) (by omega) hX e3) ?_
          refine qm_G.s1 rfl (qm_x_i2l ⟨by omega, by omega⟩) ?_
          refine qm_G.s1 rfl (qm_x_pushI 32 rfl) ?_
          refine qm_G.s1 rfl (qm_x_lshl) ?_
          refine qm_G.s1 rfl (qm_x_aload rfl) ?_
          refine qm_G.s1 rfl (qm_x_iload rfl) ?_
          refine qm_G.s1 rfl (qm_x_pushI 4 rfl) ?_
          refine qm_G.s1 rfl (qm_x_iadd) ?_
          refine qm_G.s1 rfl (qm_x_iald2v (v := a4) (by omega) (by omega) hX e4) ?_
          refine qm_G.s1 rfl (qm_x_i2l ⟨by omega, by omega⟩) ?_
          refine qm_G.s1 rfl (qm_x_pushL 4294967295 rfl) ?_
          refine qm_G.s1 rfl (qm_x_land) ?_
          refine qm_G.s1 rfl (qm_x_lor) ?_
          refine qm_G.cm rfl rfl (hS 61 rfl) rfl ?_
          refine qm_C.go (cd := qm_P125) (lv := [(0, qm_R (some (0, 61, 0))), (1, qm_I (qm_i 5)), (2, qm_I (qm_i a2)), (3, qm_L (((qm_l a3) <<< ((qm_i 32).toInt64 &&& 63)) ||| ((qm_l a4) &&& (qm_l 4294967295))))]) rfl rfl ?_
          refine qm_G.s1 rfl (qm_x_iload rfl) ?_
          refine qm_G.cs rfl rfl rfl ?_
          refine qm_C.go (cd := qm_P86) (lv := [(0, qm_I (qm_i 5))]) rfl rfl ?_
          refine qm_G.s1 rfl (qm_x_iload rfl) ?_
          refine qm_G.s1 rfl (qm_x_pushI 0 rfl) ?_
          refine qm_G.s1 rfl (qm_x_pushI 5 rfl) ?_
          refine qm_G.cs rfl rfl rfl ?_
          refine qm_v_within11_t ⟨by decide, by decide⟩ ⟨by decide, by decide⟩ ⟨by decide, by decide⟩ (by decide) ⟨_, rfl, ?_⟩
          refine qm_G.ret rfl rfl ⟨_, rfl, ?_⟩
          refine qm_G.s1 rfl (qm_x_if_ne_t ⟨by decide, by decide⟩ (by decide)) ?_
          refine qm_G.sp (lv1 := [(0, qm_R (some (0, 61, 0))), (1, qm_I (qm_i 5)), (2, qm_I (qm_i a2)), (3, qm_L (((qm_l a3) <<< ((qm_i 32).toInt64 &&& 63)) ||| ((qm_l a4) &&& (qm_l 4294967295))))]) rfl rfl (qm_x_aload rfl) ?_
          refine qm_G.s1 rfl (qm_x_getfR (q := (some (0, 73, 0))) (hS 61 rfl) (hR 61 20 73 rfl rfl)) ?_
          refine qm_G.s1 rfl (qm_x_iload rfl) ?_
          refine qm_G.s1 rfl (qm_x_iald (v := (J 73 0 5)) (qm_arS hS rfl rfl) rfl (by decide) (by decide) (by decide) rfl) ?_
          refine qm_G.s1 rfl (qm_x_if_ne_t ⟨by omega, by omega⟩ (by omega)) ?_
          refine qm_G.sp (lv1 := [(0, qm_R (some (0, 61, 0))), (1, qm_I (qm_i 5)), (2, qm_I (qm_i a2)), (3, qm_L (((qm_l a3) <<< ((qm_i 32).toInt64 &&& 63)) ||| ((qm_l a4) &&& (qm_l 4294967295))))]) rfl rfl (qm_x_iload rfl) ?_
          refine qm_G.s1 rfl (qm_x_pushI 0 rfl) ?_
          refine qm_G.s1 rfl (qm_x_aload rfl) ?_
          refine qm_G.s1 rfl (qm_x_getfR (q := (some (0, 74, 0))) (hS 61 rfl) (hR 61 21 74 rfl rfl)) ?_
          refine qm_G.s1 rfl (qm_x_iload rfl) ?_
          refine qm_G.s1 rfl (qm_x_iald (v := (J 74 0 5)) (qm_arS hS rfl rfl) rfl (by decide) (by decide) (by decide) rfl) ?_
          refine qm_G.s1 rfl (qm_x_pushI 1 rfl) ?_
          refine qm_G.s1 rfl (qm_x_isub) ?_
          refine qm_G.cs rfl rfl rfl ?_
          refine qm_v_within11_t ⟨by omega, by omega⟩ ⟨by decide, by decide⟩ ⟨by omega, by omega⟩ (by omega) ⟨_, rfl, ?_⟩
          refine qm_G.s1 rfl (qm_x_if_ne_t ⟨by decide, by decide⟩ (by decide)) ?_
          refine qm_G.sp (lv1 := [(0, qm_R (some (0, 61, 0))), (1, qm_I (qm_i 5)), (2, qm_I (qm_i a2)), (3, qm_L (((qm_l a3) <<< ((qm_i 32).toInt64 &&& 63)) ||| ((qm_l a4) &&& (qm_l 4294967295))))]) rfl rfl (qm_x_aload rfl) ?_
          refine qm_G.s1 rfl (qm_x_getfR (q := (some (0, 73, 0))) (hS 61 rfl) (hR 61 20 73 rfl rfl)) ?_
          refine qm_G.s1 rfl (qm_x_iload rfl) ?_
          refine qm_G.s1 rfl (qm_x_iald (v := (J 73 0 5)) (qm_arS hS rfl rfl) rfl (by decide) (by decide) (by decide) rfl) ?_
          refine qm_G.s1 rfl (qm_x_istore (lv' := [(5, qm_I (qm_i (J 73 0 5))), (0, qm_R (some (0, 61, 0))), (1, qm_I (qm_i 5)), (2, qm_I (qm_i a2)), (3, qm_L (((qm_l a3) <<< ((qm_i 32).toInt64 &&& 63)) ||| ((qm_l a4) &&& (qm_l 4294967295))))]) rfl) ?_
          refine qm_G.s1 rfl (qm_x_aload rfl) ?_
          refine qm_G.s1 rfl (qm_x_getfR (q := (some (0, 75, 0))) (hS 61 rfl) (hR 61 22 75 rfl rfl)) ?_
          refine qm_G.s1 rfl (qm_x_pushI 60 rfl) ?_
          refine qm_G.s1 rfl (qm_x_iload rfl) ?_
          refine qm_G.s1 rfl (qm_x_imul) ?_
          refine qm_G.s1 rfl (qm_x_iload rfl) ?_
          refine qm_G.s1 rfl (qm_x_iadd) ?_
          refine qm_G.s1 rfl (qm_x_iload rfl) ?_
          refine qm_G.s1 rfl (qm_x_pushI 1 rfl) ?_
          refine qm_G.s1 rfl (qm_x_icmp_ne_f ⟨by omega, by omega⟩ ⟨by decide, by decide⟩ (by omega)) ?_
          refine qm_G.s1 rfl (qm_x_lload rfl) ?_
          refine qm_G.s1 rfl (qm_x_l2ir) ?_
          have g170 : qm_sm ((((qm_l a3) <<< ((qm_i 32).toInt64 &&& 63)) ||| ((qm_l a4) &&& (qm_l 4294967295))).toInt32.toInt) := qm_i_sml _
          refine qm_G.s1 rfl (qm_x_i2br) ?_
          have g171 : qm_sm ((qm_i ((((qm_l a3) <<< ((qm_i 32).toInt64 &&& 63)) ||| ((qm_l a4) &&& (qm_l 4294967295))).toInt32.toInt)).toInt8.toInt) := qm_sm8 _
          refine qm_G.s1 rfl (qm_x_i2l ⟨by omega, by omega⟩) ?_
          refine qm_G.s1 rfl (qm_x_goto) ?_
          refine qm_G.sp (lv1 := []) rfl rfl (qm_x_last (qm_arS hS rfl rfl) rfl (by omega) (by omega) (by decide)) ?_
          refine qm_G.s1 rfl (qm_x_pushI 1 rfl) ?_
          refine qm_G.ret rfl rfl ⟨_, rfl, ?_⟩
          refine qm_G.s1 rfl (qm_x_icmp_eq_t ⟨by decide, by decide⟩ ⟨by decide, by decide⟩ (by decide)) ?_
          rw [show (Int.toNat ((60 * 5) + a2)) = 300 + (Int.toNat a2) by omega]
          exact ih _ _ _ _ _ _ (qm_U_itm5 (by omega) hI)
        · refine qm_G.s1 rfl (qm_x_tsweq (v := 1) (t := 41) c165 rfl) ?_
          refine qm_G.sp (lv1 := [(1, qm_L (((qm_l a3) <<< ((qm_i 32).toInt64 &&& 63)) ||| ((qm_l a4) &&& (qm_l 4294967295))))]) rfl rfl (qm_x_lload rfl) ?_
          refine qm_G.s1 rfl (qm_x_l2ir) ?_
          have g172 : qm_sm ((((qm_l a3) <<< ((qm_i 32).toInt64 &&& 63)) ||| ((qm_l a4) &&& (qm_l 4294967295))).toInt32.toInt) := qm_i_sml _
          refine qm_G.s1 rfl (qm_x_i2sr) ?_
          have g173 : qm_sm ((qm_i ((((qm_l a3) <<< ((qm_i 32).toInt64 &&& 63)) ||| ((qm_l a4) &&& (qm_l 4294967295))).toInt32.toInt)).toInt16.toInt) := qm_sm16 _
          refine qm_G.s1 rfl (qm_x_i2l ⟨by omega, by omega⟩) ?_
          refine qm_G.ret rfl rfl ⟨_, rfl, ?_⟩
          refine qm_G.s1 rfl (qm_x_last (qm_arS hS rfl rfl) rfl (by omega) (by omega) (by decide)) ?_
          refine qm_G.s1 rfl (qm_x_pushI 1 rfl) ?_
          refine qm_G.ret rfl rfl ⟨_, rfl, ?_⟩
          refine qm_G.s1 rfl (qm_x_aload rfl) ?_
          refine qm_G.s1 rfl (qm_x_aload rfl) ?_
          refine qm_G.s1 rfl (qm_x_iload rfl) ?_
          refine qm_G.s1 rfl (qm_x_pushI 1 rfl) ?_
          refine qm_G.s1 rfl (qm_x_iadd) ?_
          refine qm_G.s1 rfl (qm_x_iald2v (v := 5) (by omega) (by omega) hX e1) ?_
          refine qm_G.s1 rfl (qm_x_aload rfl) ?_
          refine qm_G.s1 rfl (qm_x_iload rfl) ?_
          refine qm_G.s1 rfl (qm_x_pushI 2 rfl) ?_
          refine qm_G.s1 rfl (qm_x_iadd) ?_
          refine qm_G.s1 rfl (qm_x_iald2v (v := a2) (by omega) (by omega) hX e2) ?_
          refine qm_G.s1 rfl (qm_x_aload rfl) ?_
          refine qm_G.s1 rfl (qm_x_iload rfl) ?_
          refine qm_G.s1 rfl (qm_x_pushI 3 rfl) ?_
          refine qm_G.s1 rfl (qm_x_iadd) ?_
          refine qm_G.s1 rfl (qm_x_iald2v (v := a3) (by omega) (by omega) hX e3) ?_
          refine qm_G.s1 rfl (qm_x_i2l ⟨by omega, by omega⟩) ?_
          refine qm_G.s1 rfl (qm_x_pushI 32 rfl) ?_
          refine qm_G.s1 rfl (qm_x_lshl) ?_
          refine qm_G.s1 rfl (qm_x_aload rfl) ?_
          refine qm_G.s1 rfl (qm_x_iload rfl) ?_
          refine qm_G.s1 rfl (qm_x_pushI 4 rfl) ?_
          refine qm_G.s1 rfl (qm_x_iadd) ?_
          refine qm_G.s1 rfl (qm_x_iald2v (v := a4) (by omega) (by omega) hX e4) ?_
          refine qm_G.s1 rfl (qm_x_i2l ⟨by omega, by omega⟩) ?_
          refine qm_G.s1 rfl (qm_x_pushL 4294967295 rfl) ?_
          refine qm_G.s1 rfl (qm_x_land) ?_
          refine qm_G.s1 rfl (qm_x_lor) ?_
          refine qm_G.cm rfl rfl (hS 61 rfl) rfl ?_
          refine qm_C.go (cd := qm_P125) (lv := [(0, qm_R (some (0, 61, 0))), (1, qm_I (qm_i 5)), (2, qm_I (qm_i a2)), (3, qm_L (((qm_l a3) <<< ((qm_i 32).toInt64 &&& 63)) ||| ((qm_l a4) &&& (qm_l 4294967295))))]) rfl rfl ?_
          refine qm_G.s1 rfl (qm_x_iload rfl) ?_
          refine qm_G.cs rfl rfl rfl ?_
          refine qm_C.go (cd := qm_P86) (lv := [(0, qm_I (qm_i 5))]) rfl rfl ?_
          refine qm_G.s1 rfl (qm_x_iload rfl) ?_
          refine qm_G.s1 rfl (qm_x_pushI 0 rfl) ?_
          refine qm_G.s1 rfl (qm_x_pushI 5 rfl) ?_
          refine qm_G.cs rfl rfl rfl ?_
          refine qm_v_within11_t ⟨by decide, by decide⟩ ⟨by decide, by decide⟩ ⟨by decide, by decide⟩ (by decide) ⟨_, rfl, ?_⟩
          refine qm_G.ret rfl rfl ⟨_, rfl, ?_⟩
          refine qm_G.s1 rfl (qm_x_if_ne_t ⟨by decide, by decide⟩ (by decide)) ?_
          refine qm_G.sp (lv1 := [(0, qm_R (some (0, 61, 0))), (1, qm_I (qm_i 5)), (2, qm_I (qm_i a2)), (3, qm_L (((qm_l a3) <<< ((qm_i 32).toInt64 &&& 63)) ||| ((qm_l a4) &&& (qm_l 4294967295))))]) rfl rfl (qm_x_aload rfl) ?_
          refine qm_G.s1 rfl (qm_x_getfR (q := (some (0, 73, 0))) (hS 61 rfl) (hR 61 20 73 rfl rfl)) ?_
          refine qm_G.s1 rfl (qm_x_iload rfl) ?_
          refine qm_G.s1 rfl (qm_x_iald (v := (J 73 0 5)) (qm_arS hS rfl rfl) rfl (by decide) (by decide) (by decide) rfl) ?_
          refine qm_G.s1 rfl (qm_x_if_ne_t ⟨by omega, by omega⟩ (by omega)) ?_
          refine qm_G.sp (lv1 := [(0, qm_R (some (0, 61, 0))), (1, qm_I (qm_i 5)), (2, qm_I (qm_i a2)), (3, qm_L (((qm_l a3) <<< ((qm_i 32).toInt64 &&& 63)) ||| ((qm_l a4) &&& (qm_l 4294967295))))]) rfl rfl (qm_x_iload rfl) ?_
          refine qm_G.s1 rfl (qm_x_pushI 0 rfl) ?_
          refine qm_G.s1 rfl (qm_x_aload rfl) ?_
          refine qm_G.s1 rfl (qm_x_getfR (q := (some (0, 74, 0))) (hS 61 rfl) (hR 61 21 74 rfl rfl)) ?_
          refine qm_G.s1 rfl (qm_x_iload rfl) ?_
          refine qm_G.s1 rfl (qm_x_iald (v := (J 74 0 5)) (qm_arS hS rfl rfl) rfl (by decide) (by decide) (by decide) rfl) ?_
          refine qm_G.s1 rfl (qm_x_pushI 1 rfl) ?_
          refine qm_G.s1 rfl (qm_x_isub) ?_
          refine qm_G.cs rfl rfl rfl ?_
          refine qm_v_within11_t ⟨by omega, by omega⟩ ⟨by decide, by decide⟩ ⟨by omega, by omega⟩ (by omega) ⟨_, rfl, ?_⟩
          refine qm_G.s1 rfl (qm_x_if_ne_t ⟨by decide, by decide⟩ (by decide)) ?_
          refine qm_G.sp (lv1 := [(0, qm_R (some (0, 61, 0))), (1, qm_I (qm_i 5)), (2, qm_I (qm_i a2)), (3, qm_L (((qm_l a3) <<< ((qm_i 32).toInt64 &&& 63)) ||| ((qm_l a4) &&& (qm_l 4294967295))))]) rfl rfl (qm_x_aload rfl) ?_
          refine qm_G.s1 rfl (qm_x_getfR (q := (some (0, 73, 0))) (hS 61 rfl) (hR 61 20 73 rfl rfl)) ?_
          refine qm_G.s1 rfl (qm_x_iload rfl) ?_
          refine qm_G.s1 rfl (qm_x_iald (v := (J 73 0 5)) (qm_arS hS rfl rfl) rfl (by decide) (by decide) (by decide) rfl) ?_
          refine qm_G.s1 rfl (qm_x_istore (lv' := [(5, qm_I (qm_i (J 73 0 5))), (0, qm_R (some (0, 61, 0))), (1, qm_I (qm_i 5)), (2, qm_I (qm_i a2)), (3, qm_L (((qm_l a3) <<< ((qm_i 32).toInt64 &&& 63)) ||| ((qm_l a4) &&& (qm_l 4294967295))))]) rfl) ?_
          refine qm_G.s1 rfl (qm_x_aload rfl) ?_
          refine qm_G.s1 rfl (qm_x_getfR (q := (some (0, 75, 0))) (hS 61 rfl) (hR 61 22 75 rfl rfl)) ?_
          refine qm_G.s1 rfl (qm_x_pushI 60 rfl) ?_
          refine qm_G.s1 rfl (qm_x_iload rfl) ?_
          refine qm_G.s1 rfl (qm_x_imul) ?_
          refine qm_G.s1 rfl (qm_x_iload rfl) ?_
          refine qm_G.s1 rfl (qm_x_iadd) ?_
          refine qm_G.s1 rfl (qm_x_iload rfl) ?_
          refine qm_G.s1 rfl (qm_x_pushI 1 rfl) ?_
          refine qm_G.s1 rfl (qm_x_icmp_ne_t ⟨by omega, by omega⟩ ⟨by decide, by decide⟩ (by omega)) ?_
          refine qm_G.sp (lv1 := [(3, qm_L (((qm_l a3) <<< ((qm_i 32).toInt64 &&& 63)) ||| ((qm_l a4) &&& (qm_l 4294967295)))), (5, qm_I (qm_i (J 73 0 5)))]) rfl rfl (qm_x_iload rfl) ?_
          refine qm_G.s1 rfl (qm_x_pushI 2 rfl) ?_
          refine qm_G.s1 rfl (qm_x_icmp_ne_f ⟨by omega, by omega⟩ ⟨by decide, by decide⟩ (by omega)) ?_
          refine qm_G.s1 rfl (qm_x_lload rfl) ?_
          refine qm_G.s1 rfl (qm_x_l2ir) ?_
          have g176 : qm_sm ((((qm_l a3) <<< ((qm_i 32).toInt64 &&& 63)) ||| ((qm_l a4) &&& (qm_l 4294967295))).toInt32.toInt) := qm_i_sml _
          refine qm_G.s1 rfl (qm_x_i2sr) ?_
          have g177 : qm_sm ((qm_i ((((qm_l a3) <<< ((qm_i 32).toInt64 &&& 63)) ||| ((qm_l a4) &&& (qm_l 4294967295))).toInt32.toInt)).toInt16.toInt) := qm_sm16 _
          refine qm_G.s1 rfl (qm_x_i2l ⟨by omega, by omega⟩) ?_
          refine qm_G.s1 rfl (qm_x_goto) ?_
          refine qm_G.sp (lv1 := []) rfl rfl (qm_x_last (qm_arS hS rfl rfl) rfl (by omega) (by omega) (by decide)) ?_
          refine qm_G.s1 rfl (qm_x_pushI 1 rfl) ?_
          refine qm_G.ret rfl rfl ⟨_, rfl, ?_⟩
          refine qm_G.s1 rfl (qm_x_icmp_eq_t ⟨by decide, by decide⟩ ⟨by decide, by decide⟩ (by decide)) ?_
          rw [show (Int.toNat ((60 * 5) + a2)) = 300 + (Int.toNat a2) by omega]
          exact ih _ _ _ _ _ _ (qm_U_itm5 (by omega) hI)
        · refine qm_G.s1 rfl (qm_x_tsweq (v := 2) (t := 46) c165 rfl) ?_
          refine qm_G.sp (lv1 := [(1, qm_L (((qm_l a3) <<< ((qm_i 32).toInt64 &&& 63)) ||| ((qm_l a4) &&& (qm_l 4294967295))))]) rfl rfl (qm_x_lload rfl) ?_
          refine qm_G.s1 rfl (qm_x_l2ir) ?_
          have g178 : qm_sm ((((qm_l a3) <<< ((qm_i 32).toInt64 &&& 63)) ||| ((qm_l a4) &&& (qm_l 4294967295))).toInt32.toInt) := qm_i_sml _
          refine qm_G.s1 rfl (qm_x_i2l ⟨by omega, by omega⟩) ?_
          refine qm_G.ret rfl rfl ⟨_, rfl, ?_⟩
          refine qm_G.s1 rfl (qm_x_last (qm_arS hS rfl rfl) rfl (by omega) (by omega) (by decide)) ?_
          refine qm_G.s1 rfl (qm_x_pushI 1 rfl) ?_
          refine qm_G.ret rfl rfl ⟨_, rfl, ?_⟩
          refine qm_G.s1 rfl (qm_x_aload rfl) ?_
          refine qm_G.s1 rfl (qm_x_aload rfl) ?_
          refine qm_G.s1 rfl (qm_x_iload rfl) ?_
          refine qm_G.s1 rfl (qm_x_pushI 1 rfl) ?_
          refine qm_G.s1 rfl (qm_x_iadd) ?_
          refine qm_G.s1 rfl (qm_x_iald2v (v := 5) (by omega) (by omega) hX e1) ?_
          refine qm_G.s1 rfl (qm_x_aload rfl) ?_
          refine qm_G.s1 rfl (qm_x_iload rfl) ?_
          refine qm_G.s1 rfl (qm_x_pushI 2 rfl) ?_
          refine qm_G.s1 rfl (qm_x_iadd) ?_
          refine qm_G.s1 rfl (qm_x_iald2v (v := a2) (by omega) (by omega) hX e2) ?_
          refine qm_G.s1 rfl (qm_x_aload rfl) ?_
          refine qm_G.s1 rfl (qm_x_iload rfl) ?_
          refine qm_G.s1 rfl (qm_x_pushI 3 rfl) ?_
          refine qm_G.s1 rfl (qm_x_iadd) ?_
          refine qm_G.s1 rfl (qm_x_iald2v (v := a3) (by omega) (by omega) hX e3) ?_
          refine qm_G.s1 rfl (qm_x_i2l ⟨by omega, by omega⟩) ?_
          refine qm_G.s1 rfl (qm_x_pushI 32 rfl) ?_
          refine qm_G.s1 rfl (qm_x_lshl) ?_
          refine qm_G.s1 rfl (qm_x_aload rfl) ?_
          refine qm_G.s1 rfl (qm_x_iload rfl) ?_
          refine qm_G.s1 rfl (qm_x_pushI 4 rfl) ?_
          refine qm_G.s1 rfl (qm_x_iadd) ?_
          refine qm_G.s1 rfl (qm_x_iald2v (v := a4) (by omega) (by omega) hX e4) ?_
          refine qm_G.s1 rfl (qm_x_i2l ⟨by omega, by omega⟩) ?_
          refine qm_G.s1 rfl (qm_x_pushL 4294967295 rfl) ?_
          refine qm_G.s1 rfl (qm_x_land) ?_
          refine qm_G.s1 rfl (qm_x_lor) ?_
          refine qm_G.cm rfl rfl (hS 61 rfl) rfl ?_
          refine qm_C.go (cd := qm_P125) (lv := [(0, qm_R (some (0, 61, 0))), (1, qm_I (qm_i 5)), (2, qm_I (qm_i a2)), (3, qm_L (((qm_l a3) <<< ((qm_i 32).toInt64 &&& 63)) ||| ((qm_l a4) &&& (qm_l 4294967295))))]) rfl rfl ?_
          refine qm_G.s1 rfl (qm_x_iload rfl) ?_
          refine qm_G.cs rfl rfl rfl ?_
          refine qm_C.go (cd := qm_P86) (lv := [(0, qm_I (qm_i 5))]) rfl rfl ?_
          refine qm_G.s1 rfl (qm_x_iload rfl) ?_
          refine qm_G.s1 rfl (qm_x_pushI 0 rfl) ?_
          refine qm_G.s1 rfl (qm_x_pushI 5 rfl) ?_
          refine qm_G.cs rfl rfl rfl ?_
          refine qm_v_within11_t ⟨by decide, by decide⟩ ⟨by decide, by decide⟩ ⟨by decide, by decide⟩ (by decide) ⟨_, rfl, ?_⟩
          refine qm_G.ret rfl rfl ⟨_, rfl, ?_⟩
          refine qm_G.s1 rfl (qm_x_if_ne_t ⟨by decide, by decide⟩ (by decide)) ?_
          refine qm_G.sp (lv1 := [(0, qm_R (some (0, 61, 0))), (1, qm_I (qm_i 5)), (2, qm_I (qm_i a2)), (3, qm_L (((qm_l a3) <<< ((qm_i 32).toInt64 &&& 63)) ||| ((qm_l a4) &&& (qm_l 4294967295))))]) rfl rfl (qm_x_aload rfl) ?_
          refine qm_G.s1 rfl (qm_x_getfR (q := (some (0, 73, 0))) (hS 61 rfl) (hR 61 20 73 rfl rfl)) ?_
          refine qm_G.s1 rfl (qm_x_iload rfl) ?_
          refine qm_G.s1 rfl (qm_x_iald (v := (J 73 0 5)) (qm_arS hS rfl rfl) rfl (by decide) (by decide) (by decide) rfl) ?_
          refine qm_G.s1 rfl (qm_x_if_ne_t ⟨by omega, by omega⟩ (by omega)) ?_
          refine qm_G.sp (lv1 := [(0, qm_R (some (0, 61, 0))), (1, qm_I (qm_i 5)), (2, qm_I (qm_i a2)), (3, qm_L (((qm_l a3) <<< ((qm_i 32).toInt64 &&& 63)) ||| ((qm_l a4) &&& (qm_l 4294967295))))]) rfl rfl (qm_x_iload rfl) ?_
          refine qm_G.s1 rfl (qm_x_pushI 0 rfl) ?_
          refine qm_G.s1 rfl (qm_x_aload rfl) ?_
          refine qm_G.s1 rfl (qm_x_getfR (q := (some (0, 74, 0))) (hS 61 rfl) (hR 61 21 74 rfl rfl)) ?_
          refine qm_G.s1 rfl (qm_x_iload rfl) ?_
          refine qm_G.s1 rfl (qm_x_iald (v := (J 74 0 5)) (qm_arS hS rfl rfl) rfl (by decide) (by decide) (by decide) rfl) ?_
          refine qm_G.s1 rfl (qm_x_pushI 1 rfl) ?_
          refine qm_G.s1 rfl (qm_x_isub) ?_
          refine qm_G.cs rfl rfl rfl ?_
          refine qm_v_within11_t ⟨by omega, by omega⟩ ⟨by decide, by decide⟩ ⟨by omega, by omega⟩ (by omega) ⟨_, rfl, ?_⟩
          refine qm_G.s1 rfl (qm_x_if_ne_t ⟨by decide, by decide⟩ (by decide)) ?_
          refine qm_G.sp (lv1 := [(0, qm_R (some (0, 61, 0))), (1, qm_I (qm_i 5)), (2, qm_I (qm_i a2)), (3, qm_L (((qm_l a3) <<< ((qm_i 32).toInt64 &&& 63)) ||| ((qm_l a4) &&& (qm_l 4294967295))))]) rfl rfl (qm_x_aload rfl) ?_
          refine qm_G.s1 rfl (qm_x_getfR (q := (some (0, 73, 0))) (hS 61 rfl) (hR 61 20 73 rfl rfl)) ?_
          refine qm_G.s1 rfl (qm_x_iload rfl) ?_
          refine qm_G.s1 rfl (qm_x_iald (v := (J 73 0 5)) (qm_arS hS rfl rfl) rfl (by decide) (by decide) (by decide) rfl) ?_
          refine qm_G.s1 rfl (qm_x_istore (lv' := [(5, qm_I (qm_i (J 73 0 5))), (0, qm_R (some (0, 61, 0))), (1, qm_I (qm_i 5)), (2, qm_I (qm_i a2)), (3, qm_L (((qm_l a3) <<< ((qm_i 32).toInt64 &&& 63)) ||| ((qm_l a4) &&& (qm_l 4294967295))))]) rfl) ?_
          refine qm_G.s1 rfl (qm_x_aload rfl) ?_
          refine qm_G.s1 rfl (qm_x_getfR (q := (some (0, 75, 0))) (hS 61 rfl) (hR 61 22 75 rfl rfl)) ?_
          refine qm_G.s1 rfl (qm_x_pushI 60 rfl) ?_
          refine qm_G.s1 rfl (qm_x_iload rfl) ?_
          refine qm_G.s1 rfl (qm_x_imul) ?_
          refine qm_G.s1 rfl (qm_x_iload rfl) ?_
          refine qm_G.s1 rfl (qm_x_iadd) ?_
          refine qm_G.s1 rfl (qm_x_iload rfl) ?_
          refine qm_G.s1 rfl (qm_x_pushI 1 rfl) ?_
          refine qm_G.s1 rfl (qm_x_icmp_ne_t ⟨by omega, by omega⟩ ⟨by decide, by decide⟩ (by omega)) ?_
          refine qm_G.sp (lv1 := [(3, qm_L (((qm_l a3) <<< ((qm_i 32).toInt64 &&& 63)) ||| ((qm_l a4) &&& (qm_l 4294967295)))), (5, qm_I (qm_i (J 73 0 5)))]) rfl rfl (qm_x_iload rfl) ?_
          refine qm_G.s1 rfl (qm_x_pushI 2 rfl) ?_
          refine qm_G.s1 rfl (qm_x_icmp_ne_t ⟨by omega, by omega⟩ ⟨by decide, by decide⟩ (by omega)) ?_
          refine qm_G.sp (lv1 := [(3, qm_L (((qm_l a3) <<< ((qm_i 32).toInt64 &&& 63)) ||| ((qm_l a4) &&& (qm_l 4294967295)))), (5, qm_I (qm_i (J 73 0 5)))]) rfl rfl (qm_x_iload rfl) ?_
          refine qm_G.s1 rfl (qm_x_pushI 3 rfl) ?_
          refine qm_G.s1 rfl (qm_x_icmp_ne_f ⟨by omega, by omega⟩ ⟨by decide, by decide⟩ (by omega)) ?_
          refine qm_G.s1 rfl (qm_x_lload rfl) ?_
          refine qm_G.s1 rfl (qm_x_l2ir) ?_
          have g181 : qm_sm ((((qm_l a3) <<< ((qm_i 32).toInt64 &&& 63)) ||| ((qm_l a4) &&& (qm_l 4294967295))).toInt32.toInt) := qm_i_sml _
          refine qm_G.s1 rfl (qm_x_i2l ⟨by omega, by omega⟩) ?_
          refine qm_G.s1 rfl (qm_x_goto) ?_
          refine qm_G.sp (lv1 := []) rfl rfl (qm_x_last (qm_arS hS rfl rfl) rfl (by omega) (by omega) (by decide)) ?_
          refine qm_G.s1 rfl (qm_x_pushI 1 rfl) ?_
          refine qm_G.ret rfl rfl ⟨_, rfl, ?_⟩
          refine qm_G.s1 rfl (qm_x_icmp_eq_t ⟨by decide, by decide⟩ ⟨by decide, by decide⟩ (by decide)) ?_
          rw [show (Int.toNat ((60 * 5) + a2)) = 300 + (Int.toNat a2) by omega]
          exact ih _ _ _ _ _ _ (qm_U_itm5 (by omega) hI)
        · refine qm_G.s1 rfl (qm_x_tsweq (v := 3) (t := 50) c165 rfl) ?_
          refine qm_G.sp (lv1 := [(1, qm_L (((qm_l a3) <<< ((qm_i 32).toInt64 &&& 63)) ||| ((qm_l a4) &&& (qm_l 4294967295))))]) rfl rfl (qm_x_lload rfl) ?_
          refine qm_G.ret rfl rfl ⟨_, rfl, ?_⟩
          refine qm_G.s1 rfl (qm_x_last (qm_arS hS rfl rfl) rfl (by omega) (by omega) (by decide)) ?_
          refine qm_G.s1 rfl (qm_x_pushI 1 rfl) ?_
          refine qm_G.ret rfl rfl ⟨_, rfl, ?_⟩
          refine qm_G.s1 rfl (qm_x_aload rfl) ?_
          refine qm_G.s1 rfl (qm_x_aload rfl) ?_
          refine qm_G.s1 rfl (qm_x_iload rfl) ?_
          refine qm_G.s1 rfl (qm_x_pushI 1 rfl) ?_
          refine qm_G.s1 rfl (qm_x_iadd) ?_
          refine qm_G.s1 rfl (qm_x_iald2v (v := 5) (by omega) (by omega) hX e1) ?_
          refine qm_G.s1 rfl (qm_x_aload rfl) ?_
          refine qm_G.s1 rfl (qm_x_iload rfl) ?_
          refine qm_G.s1 rfl (qm_x_pushI 2 rfl) ?_
          refine qm_G.s1 rfl (qm_x_iadd) ?_
          refine qm_G.s1 rfl (qm_x_iald2v (v := a2) (by omega) (by omega) hX e2) ?_
          refine qm_G.s1 rfl (qm_x_aload rfl) ?_
          refine qm_G.s1 rfl (qm_x_iload rfl) ?_
          refine qm_G.s1 rfl (qm_x_pushI 3 rfl) ?_
          refine qm_G.s1 rfl (qm_x_iadd) ?_
          refine qm_G.s1 rfl (qm_x_iald2v (v := a3) (by omega) (by omega) hX e3) ?_
          refine qm_G.s1 rfl (qm_x_i2l ⟨by omega, by omega⟩) ?_
          refine qm_G.s1 rfl (qm_x_pushI 32 rfl) ?_
          refine qm_G.s1 rfl (qm_x_lshl) ?_
          refine qm_G.s1 rfl (qm_x_aload rfl) ?_
          refine qm_G.s1 rfl (qm_x_iload rfl) ?_
          refine qm_G.s1 rfl (qm_x_pushI 4 rfl) ?_
          refine qm_G.s1 rfl (qm_x_iadd) ?_
          refine qm_G.s1 rfl (qm_x_iald2v (v := a4) (by omega) (by omega) hX e4) ?_
          refine qm_G.s1 rfl (qm_x_i2l ⟨by omega, by omega⟩) ?_
          refine qm_G.s1 rfl (qm_x_pushL 4294967295 rfl) ?_
          refine qm_G.s1 rfl (qm_x_land) ?_
          refine qm_G.s1 rfl (qm_x_lor) ?_
          refine qm_G.cm rfl rfl (hS 61 rfl) rfl ?_
          refine qm_C.go (cd := qm_P125) (lv := [(0, qm_R (some (0, 61, 0))), (1, qm_I (qm_i 5)), (2, qm_I (qm_i a2)), (3, qm_L (((qm_l a3) <<< ((qm_i 32).toInt64 &&& 63)) ||| ((qm_l a4) &&& (qm_l 4294967295))))]) rfl rfl ?_
          refine qm_G.s1 rfl (qm_x_iload rfl) ?_
          refine qm_G.cs rfl rfl rfl ?_
          refine qm_C.go (cd := qm_P86) (lv := [(0, qm_I (qm_i 5))]) rfl rfl ?_
          refine qm_G.s1 rfl (qm_x_iload rfl) ?_
          refine qm_G.s1 rfl (qm_x_pushI 0 rfl) ?_
          refine qm_G.s1 rfl (qm_x_pushI 5 rfl) ?_
          refine qm_G.cs rfl rfl rfl ?_
          refine qm_v_within11_t ⟨by decide, by decide⟩ ⟨by decide, by decide⟩ ⟨by decide, by decide⟩ (by decide) ⟨_, rfl, ?_⟩
          refine qm_G.ret rfl rfl ⟨_, rfl, ?_⟩
          refine qm_G.s1 rfl (qm_x_if_ne_t ⟨by decide, by decide⟩ (by decide)) ?_
          refine qm_G.sp (lv1 := [(0, qm_R (some (0, 61, 0))), (1, qm_I (qm_i 5)), (2, qm_I (qm_i a2)), (3, qm_L (((qm_l a3) <<< ((qm_i 32).toInt64 &&& 63)) ||| ((qm_l a4) &&& (qm_l 4294967295))))]) rfl rfl (qm_x_aload rfl) ?_
          refine qm_G.s1 rfl (qm_x_getfR (q := (some (0, 73, 0))) (hS 61 rfl) (hR 61 20 73 rfl rfl)) ?_
          refine qm_G.s1 rfl (qm_x_iload rfl) ?_
          refine qm_G.s1 rfl (qm_x_iald (v := (J 73 0 5)) (qm_arS hS rfl rfl) rfl (by decide) (by decide) (by decide) rfl) ?_
          refine qm_G.s1 rfl (qm_x_if_ne_t ⟨by omega, by omega⟩ (by omega)) ?_
          refine qm_G.sp (lv1 := [(0, qm_R (some (0, 61, 0))), (1, qm_I (qm_i 5)), (2, qm_I (qm_i a2)), (3, qm_L (((qm_l a3) <<< ((qm_i 32).toInt64 &&& 63)) ||| ((qm_l a4) &&& (qm_l 4294967295))))]) rfl rfl (qm_x_iload rfl) ?_
          refine qm_G.s1 rfl (qm_x_pushI 0 rfl) ?_
          refine qm_G.s1 rfl (qm_x_aload rfl) ?_
          refine qm_G.s1 rfl (qm_x_getfR (q := (some (0, 74, 0))) (hS 61 rfl) (hR 61 21 74 rfl rfl)) ?_
          refine qm_G.s1 rfl (qm_x_iload rfl) ?_
          refine qm_G.s1 rfl (qm_x_iald (v := (J 74 0 5)) (qm_arS hS rfl rfl) rfl (by decide) (by decide) (by decide) rfl) ?_
          refine qm_G.s1 rfl (qm_x_pushI 1 rfl) ?_
          refine qm_G.s1 rfl (qm_x_isub) ?_
          refine qm_G.cs rfl rfl rfl ?_
          refine qm_v_within11_t ⟨by omega, by omega⟩ ⟨by decide, by decide⟩ ⟨by omega, by omega⟩ (by omega) ⟨_, rfl, ?_⟩
          refine qm_G.s1 rfl (qm_x_if_ne_t ⟨by decide, by decide⟩ (by decide)) ?_
          refine qm_G.sp (lv1 := [(0, qm_R (some (0, 61, 0))), (1, qm_I (qm_i 5)), (2, qm_I (qm_i a2)), (3, qm_L (((qm_l a3) <<< ((qm_i 32).toInt64 &&& 63)) ||| ((qm_l a4) &&& (qm_l 4294967295))))]) rfl rfl (qm_x_aload rfl) ?_
          refine qm_G.s1 rfl (qm_x_getfR (q := (some (0, 73, 0))) (hS 61 rfl) (hR 61 20 73 rfl rfl)) ?_
          refine qm_G.s1 rfl (qm_x_iload rfl) ?_
          refine qm_G.s1 rfl (qm_x_iald (v := (J 73 0 5)) (qm_arS hS rfl rfl) rfl (by decide) (by decide) (by decide) rfl) ?_
          refine qm_G.s1 rfl (qm_x_istore (lv' := [(5, qm_I (qm_i (J 73 0 5))), (0, qm_R (some (0, 61, 0))), (1, qm_I (qm_i 5)), (2, qm_I (qm_i a2)), (3, qm_L (((qm_l a3) <<< ((qm_i 32).toInt64 &&& 63)) ||| ((qm_l a4) &&& (qm_l 4294967295))))]) rfl) ?_
          refine qm_G.s1 rfl (qm_x_aload rfl) ?_
          refine qm_G.s1 rfl (qm_x_getfR (q := (some (0, 75, 0))) (hS 61 rfl) (hR 61 22 75 rfl rfl)) ?_
          refine qm_G.s1 rfl (qm_x_pushI 60 rfl) ?_
          refine qm_G.s1 rfl (qm_x_iload rfl) ?_
          refine qm_G.s1 rfl (qm_x_imul) ?_
          refine qm_G.s1 rfl (qm_x_iload rfl) ?_
          refine qm_G.s1 rfl (qm_x_iadd) ?_
          refine qm_G.s1 rfl (qm_x_iload rfl) ?_
          refine qm_G.s1 rfl (qm_x_pushI 1 rfl) ?_
          refine qm_G.s1 rfl (qm_x_icmp_ne_t ⟨by omega, by omega⟩ ⟨by decide, by decide⟩ (by omega)) ?_
          refine qm_G.sp (lv1 := [(3, qm_L (((qm_l a3) <<< ((qm_i 32).toInt64 &&& 63)) ||| ((qm_l a4) &&& (qm_l 4294967295)))), (5, qm_I (qm_i (J 73 0 5)))]) rfl rfl (qm_x_iload rfl) ?_
          refine qm_G.s1 rfl (qm_x_pushI 2 rfl) ?_
          refine qm_G.s1 rfl (qm_x_icmp_ne_t ⟨by omega, by omega⟩ ⟨by decide, by decide⟩ (by omega)) ?_
          refine qm_G.sp (lv1 := [(3, qm_L (((qm_l a3) <<< ((qm_i 32).toInt64 &&& 63)) ||| ((qm_l a4) &&& (qm_l 4294967295)))), (5, qm_I (qm_i (J 73 0 5)))]) rfl rfl (qm_x_iload rfl) ?_
          refine qm_G.s1 rfl (qm_x_pushI 3 rfl) ?_
          refine qm_G.s1 rfl (qm_x_icmp_ne_t ⟨by omega, by omega⟩ ⟨by decide, by decide⟩ (by omega)) ?_
          refine qm_G.sp (lv1 := [(3, qm_L (((qm_l a3) <<< ((qm_i 32).toInt64 &&& 63)) ||| ((qm_l a4) &&& (qm_l 4294967295)))), (5, qm_I (qm_i (J 73 0 5)))]) rfl rfl (qm_x_iload rfl) ?_
          refine qm_G.s1 rfl (qm_x_pushI 4 rfl) ?_
          refine qm_G.s1 rfl (qm_x_icmp_ne_f ⟨by omega, by omega⟩ ⟨by decide, by decide⟩ (by omega)) ?_
          refine qm_G.s1 rfl (qm_x_lload rfl) ?_
          refine qm_G.s1 rfl (qm_x_goto) ?_
          refine qm_G.sp (lv1 := []) rfl rfl (qm_x_last (qm_arS hS rfl rfl) rfl (by omega) (by omega) (by decide)) ?_
          refine qm_G.s1 rfl (qm_x_pushI 1 rfl) ?_
          refine qm_G.ret rfl rfl ⟨_, rfl, ?_⟩
          refine qm_G.s1 rfl (qm_x_icmp_eq_t ⟨by decide, by decide⟩ ⟨by decide, by decide⟩ (by decide)) ?_
          rw [show (Int.toNat ((60 * 5) + a2)) = 300 + (Int.toNat a2) by omega]
          exact ih _ _ _ _ _ _ (qm_U_itm5 (by omega) hI)
        · refine qm_G.s1 rfl (qm_x_tswd (m := 4) rfl ⟨by omega, by omega⟩ (by omega) (by omega) (by decide)) ?_
          refine qm_G.sp (lv1 := [(1, qm_L (((qm_l a3) <<< ((qm_i 32).toInt64 &&& 63)) ||| ((qm_l a4) &&& (qm_l 4294967295))))]) rfl rfl (qm_x_lload rfl) ?_
          refine qm_G.s1 rfl (qm_x_pushL 0 rfl) ?_
          refine qm_y_lcmpr rfl (fun c184 => ?_) (fun c184 => ?_) (fun c184 => ?_)
          · refine qm_G.s1 rfl (qm_x_if_eq_f ⟨by decide, by decide⟩ (by decide)) ?_
            refine qm_G.s1 rfl (qm_x_pushL 1 rfl) ?_
            refine qm_G.s1 rfl (qm_x_goto) ?_
            refine qm_G.ret rfl rfl ⟨_, rfl, ?_⟩
            refine qm_G.s1 rfl (qm_x_last (qm_arS hS rfl rfl) rfl (by omega) (by omega) (by decide)) ?_
            refine qm_G.s1 rfl (qm_x_pushI 1 rfl) ?_
            refine qm_G.ret rfl rfl ⟨_, rfl, ?_⟩
            refine qm_G.s1 rfl (qm_x_aload rfl) ?_
            refine qm_G.s1 rfl (qm_x_aload rfl) ?_
            refine qm_G.s1 rfl (qm_x_iload rfl) ?_
            refine qm_G.s1 rfl (qm_x_pushI 1 rfl) ?_
            refine qm_G.s1 rfl (qm_x_iadd) ?_
            refine qm_G.s1 rfl (qm_x_iald2v (v := 5) (by omega) (by omega) hX e1) ?_
            refine qm_G.s1 rfl (qm_x_aload rfl) ?_
            refine qm_G.s1 rfl (qm_x_iload rfl) ?_
            refine qm_G.s1 rfl (qm_x_pushI 2 rfl) ?_
            refine qm_G.s1 rfl (qm_x_iadd) ?_
            refine qm_G.s1 rfl (qm_x_iald2v (v := a2) (by omega) (by omega) hX e2) ?_
            refine qm_G.s1 rfl (qm_x_aload rfl) ?_
            refine qm_G.s1 rfl (qm_x_iload rfl) ?_
            refine qm_G.s1 rfl (qm_x_pushI 3 rfl) ?_
            refine qm_G.s1 rfl (qm_x_iadd) ?_
            refine qm_G.s1 rfl (qm_x_iald2v (v := a3) (by omega) (by omega) hX e3) ?_
            refine qm_G.s1 rfl (qm_x_i2l ⟨by omega, by omega⟩) ?_
            refine qm_G.s1 rfl (qm_x_pushI 32 rfl) ?_
            refine qm_G.s1 rfl (qm_x_lshl) ?_
            refine qm_G.s1 rfl (qm_x_aload rfl) ?_
            refine qm_G.s1 rfl (qm_x_iload rfl) ?_
            refine qm_G.s1 rfl (qm_x_pushI 4 rfl) ?_
            refine qm_G.s1 rfl (qm_x_iadd) ?_
            refine qm_G.s1 rfl (qm_x_iald2v (v := a4) (by omega) (by omega) hX e4) ?_
            refine qm_G.s1 rfl (qm_x_i2l ⟨by omega, by omega⟩) ?_
            refine qm_G.s1 rfl (qm_x_pushL 4294967295 rfl) ?_
            refine qm_G.s1 rfl (qm_x_land) ?_
            refine qm_G.s1 rfl (qm_x_lor) ?_
            refine qm_G.cm rfl rfl (hS 61 rfl) rfl ?_
            refine qm_C.go (cd := qm_P125) (lv := [(0, qm_R (some (0, 61, 0))), (1, qm_I (qm_i 5)), (2, qm_I (qm_i a2)), (3, qm_L (((qm_l a3) <<< ((qm_i 32).toInt64 &&& 63)) ||| ((qm_l a4) &&& (qm_l 4294967295))))]) rfl rfl ?_
            refine qm_G.s1 rfl (qm_x_iload rfl) ?_
            refine qm_G.cs rfl rfl rfl ?_
            refine qm_C.go (cd := qm_P86) (lv := [(0, qm_I (qm_i 5))]) rfl rfl ?_
            refine qm_G.s1 rfl (qm_x_iload rfl) ?_
            refine qm_G.s1 rfl (qm_x_pushI 0 rfl) ?_
            refine qm_G.s1 rfl (qm_x_pushI 5 rfl) ?_
            refine qm_G.cs rfl rfl rfl ?_
            refine qm_v_within11_t ⟨by decide, by decide⟩ ⟨by decide, by decide⟩ ⟨by decide, by decide⟩ (by decide) ⟨_, rfl, ?_⟩
            refine qm_G.ret rfl rfl ⟨_, rfl, ?_⟩
            refine qm_G.s1 rfl (qm_x_if_ne_t ⟨by decide, by decide⟩ (by decide)) ?_
            refine qm_G.sp (lv1 := [(0, qm_R (some (0, 61, 0))), (1, qm_I (qm_i 5)), (2, qm_I (qm_i a2)), (3, qm_L (((qm_l a3) <<< ((qm_i 32).toInt64 &&& 63)) ||| ((qm_l a4) &&& (qm_l 4294967295))))]) rfl rfl (qm_x_aload rfl) ?_
            refine qm_G.s1 rfl (qm_x_getfR (q := (some (0, 73, 0))) (hS 61 rfl) (hR 61 20 73 rfl rfl)) ?_
            refine qm_G.s1 rfl (qm_x_iload rfl) ?_
            refine qm_G.s1 rfl (qm_x_iald (v := (J 73 0 5)) (qm_arS hS rfl rfl) rfl (by decide) (by decide) (by decide) rfl) ?_
            refine qm_G.s1 rfl (qm_x_if_ne_t ⟨by omega, by omega⟩ (by omega)) ?_
            refine qm_G.sp (lv1 := [(0, qm_R (some (0, 61, 0))), (1, qm_I (qm_i 5)), (2, qm_I (qm_i a2)), (3, qm_L (((qm_l a3) <<< ((qm_i 32).toInt64 &&& 63)) ||| ((qm_l a4) &&& (qm_l 4294967295))))]) rfl rfl (qm_x_iload rfl) ?_
            refine qm_G.s1 rfl (qm_x_pushI 0 rfl) ?_
            refine qm_G.s1 rfl (qm_x_aload rfl) ?_
            refine qm_G.s1 rfl (qm_x_getfR (q := (some (0, 74, 0))) (hS 61 rfl) (hR 61 21 74 rfl rfl)) ?_
            refine qm_G.s1 rfl (qm_x_iload rfl) ?_
            refine qm_G.s1 rfl (qm_x_iald (v := (J 74 0 5)) (qm_arS hS rfl rfl) rfl (by decide) (by decide) (by decide) rfl) ?_
            refine qm_G.s1 rfl (qm_x_pushI 1 rfl) ?_
            refine qm_G.s1 rfl (qm_x_isub) ?_
            refine qm_G.cs rfl rfl rfl ?_
            refine qm_v_within11_t ⟨by omega, by omega⟩ ⟨by decide, by decide⟩ ⟨by omega, by omega⟩ (by omega) ⟨_, rfl, ?_⟩
            refine qm_G.s1 rfl (qm_x_if_ne_t ⟨by decide, by decide⟩ (by decide)) ?_
            refine qm_G.sp (lv1 := [(0, qm_R (some (0, 61, 0))), (1, qm_I (qm_i 5)), (2, qm_I (qm_i a2)), (3, qm_L (((qm_l a3) <<< ((qm_i 32).toInt64 &&& 63)) ||| ((qm_l a4) &&& (qm_l 4294967295))))]) rfl rfl (qm_x_aload rfl) ?_
            refine qm_G.s1 rfl (qm_x_getfR (q := (some (0, 73, 0))) (hS 61 rfl) (hR 61 20 73 rfl rfl)) ?_
            refine qm_G.s1 rfl (qm_x_iload rfl) ?_
            refine qm_G.s1 rfl (qm_x_iald (v := (J 73 0 5)) (qm_arS hS rfl rfl) rfl (by decide) (by decide) (by decide) rfl) ?_
            refine qm_G.s1 rfl (qm_x_istore (lv' := [(5, qm_I (qm_i (J 73 0 5))), (0, qm_R (some (0, 61, 0))), (1, qm_I (qm_i 5)), (2, qm_I (qm_i a2)), (3, qm_L (((qm_l a3) <<< ((qm_i 32).toInt64 &&& 63)) ||| ((qm_l a4) &&& (qm_l 4294967295))))]) rfl) ?_
            refine qm_G.s1 rfl (qm_x_aload rfl) ?_
            refine qm_G.s1 rfl (qm_x_getfR (q := (some (0, 75, 0))) (hS 61 rfl) (hR 61 22 75 rfl rfl)) ?_
            refine qm_G.s1 rfl (qm_x_pushI 60 rfl) ?_
            refine qm_G.s1 rfl (qm_x_iload rfl) ?_
            refine qm_G.s1 rfl (qm_x_imul) ?_
            refine qm_G.s1 rfl (qm_x_iload rfl) ?_
            refine qm_G.s1 rfl (qm_x_iadd) ?_
            refine qm_G.s1 rfl (qm_x_iload rfl) ?_
            refine qm_G.s1 rfl (qm_x_pushI 1 rfl) ?_
            refine qm_G.s1 rfl (qm_x_icmp_ne_t ⟨by omega, by omega⟩ ⟨by decide, by decide⟩ (by omega)) ?_
            refine qm_G.sp (lv1 := [(3, qm_L (((qm_l a3) <<< ((qm_i 32).toInt64 &&& 63)) ||| ((qm_l a4) &&& (qm_l 4294967295)))), (5, qm_I (qm_i (J 73 0 5)))]) rfl rfl (qm_x_iload rfl) ?_
            refine qm_G.s1 rfl (qm_x_pushI 2 rfl) ?_
            refine qm_G.s1 rfl (qm_x_icmp_ne_t ⟨by omega, by omega⟩ ⟨by decide, by decide⟩ (by omega)) ?_
            refine qm_G.sp (lv1 := [(3, qm_L (((qm_l a3) <<< ((qm_i 32).toInt64 &&& 63)) ||| ((qm_l a4) &&& (qm_l 4294967295)))), (5, qm_I (qm_i (J 73 0 5)))]) rfl rfl (qm_x_iload rfl) ?_
            refine qm_G.s1 rfl (qm_x_pushI 3 rfl) ?_
            refine qm_G.s1 rfl (qm_x_icmp_ne_t ⟨by omega, by omega⟩ ⟨by decide, by decide⟩ (by omega)) ?_
            refine qm_G.sp (lv1 := [(3, qm_L (((qm_l a3) <<< ((qm_i 32).toInt64 &&& 63)) ||| ((qm_l a4) &&& (qm_l 4294967295)))), (5, qm_I (qm_i (J 73 0 5)))]) rfl rfl (qm_x_iload rfl) ?_
            refine qm_G.s1 rfl (qm_x_pushI 4 rfl) ?_
            refine qm_G.s1 rfl (qm_x_icmp_ne_t ⟨by omega, by omega⟩ ⟨by decide, by decide⟩ (by omega)) ?_
            refine qm_G.sp (lv1 := [(3, qm_L (((qm_l a3) <<< ((qm_i 32).toInt64 &&& 63)) ||| ((qm_l a4) &&& (qm_l 4294967295))))]) rfl rfl (qm_x_lload rfl) ?_
            refine qm_G.s1 rfl (qm_x_pushL 0 rfl) ?_
            refine qm_G.s1 rfl (qm_x_lcmp_lt c184) ?_
            refine qm_G.s1 rfl (qm_x_if_eq_f ⟨by decide, by decide⟩ (by decide)) ?_
            refine qm_G.s1 rfl (qm_x_pushL 1 rfl) ?_
            refine qm_G.s1 rfl (qm_x_goto) ?_
            refine qm_G.sp (lv1 := []) rfl rfl (qm_x_last (qm_arS hS rfl rfl) rfl (by omega) (by omega) (by decide)) ?_
            refine qm_G.s1 rfl (qm_x_pushI 1 rfl) ?_
            refine qm_G.ret rfl rfl ⟨_, rfl, ?_⟩
            refine qm_G.s1 rfl (qm_x_icmp_eq_t ⟨by decide, by decide⟩ ⟨by decide, by decide⟩ (by decide)) ?_
            rw [show (Int.toNat ((60 * 5) + a2)) = 300 + (Int.toNat a2) by omega]
            exact ih _ _ _ _ _ _ (qm_U_itm5 (by omega) hI)
          · refine qm_G.s1 rfl (qm_x_if_eq_t ⟨by decide, by decide⟩ (by decide)) ?_
            refine qm_G.sp (lv1 := []) rfl rfl (qm_x_pushL 0 rfl) ?_
            refine qm_G.ret rfl rfl ⟨_, rfl, ?_⟩
            refine qm_G.s1 rfl (qm_x_last (qm_arS hS rfl rfl) rfl (by omega) (by omega) (by decide)) ?_
            refine qm_G.s1 rfl (qm_x_pushI 1 rfl) ?_
            refine qm_G.ret rfl rfl ⟨_, rfl, ?_⟩
            refine qm_G.s1 rfl (qm_x_aload rfl) ?_
            refine qm_G.s1 rfl (qm_x_aload rfl) ?_
            refine qm_G.s1 rfl (qm_x_iload rfl) ?_
            refine qm_G.s1 rfl (qm_x_pushI 1 rfl) ?_
            refine qm_G.s1 rfl (qm_x_iadd) ?_
            refine qm_G.s1 rfl (qm_x_iald2v (v := 5) (by omega) (by omega) hX e1) ?_
            refine qm_G.s1 rfl (qm_x_aload rfl) ?_
            refine qm_G.s1 rfl (qm_x_iload rfl) ?_
            refine qm_G.s1 rfl (qm_x_pushI 2 rfl) ?_
            refine qm_G.s1 rfl (qm_x_iadd) ?_
            refine qm_G.s1 rfl (qm_x_iald2v (v := a2) (by omega) (by omega) hX e2) ?_
            refine qm_G.s1 rfl (qm_x_aload rfl) ?_
            refine qm_G.s1 rfl (qm_x_iload rfl) ?_
            refine qm_G.s1 rfl (qm_x_pushI 3 rfl) ?_
            refine qm_G.s1 rfl (qm_x_iadd) ?_
            refine qm_G.s1 rfl (qm_x_iald2v (v := a3) (by omega) (by omega) hX e3) ?_
            refine qm_G.s1 rfl (qm_x_i2l ⟨by omega, by omega⟩) ?_
            refine qm_G.s1 rfl (qm_x_pushI 32 rfl) ?_
            refine qm_G.s1 rfl (qm_x_lshl) ?_
            refine qm_G.s1 rfl (qm_x_aload rfl) ?_
            refine qm_G.s1 rfl (qm_x_iload rfl) ?_
            refine qm_G.s1 rfl (qm_x_pushI 4 rfl) ?_
            refine qm_G.s1 rfl (qm_x_iadd) ?_
            refine qm_G.s1 rfl (qm_x_iald2v (v := a4) (by omega) (by omega) hX e4) ?_
            refine qm_G.s1 rfl (qm_x_i2l ⟨by omega, by omega⟩) ?_
            refine qm_G.s1 rfl (qm_x_pushL 4294967295 rfl) ?_
            refine qm_G.s1 rfl (qm_x_land) ?_
            refine qm_G.s1 rfl (qm_x_lor) ?_
            refine qm_G.cm rfl rfl (hS 61 rfl) rfl ?_
            refine qm_C.go (cd := qm_P125) (lv := [(0, qm_R (some (0, 61, 0))), (1, qm_I (qm_i 5)), (2, qm_I (qm_i a2)), (3, qm_L (((qm_l a3) <<< ((qm_i 32).toInt64 &&& 63)) ||| ((qm_l a4) &&& (qm_l 4294967295))))]) rfl rfl ?_
            refine qm_G.s1 rfl (qm_x_iload rfl) ?_
            refine qm_G.cs rfl rfl rfl ?_
            refine qm_C.go (cd := qm_P86) (lv := [(0, qm_I (qm_i 5))]) rfl rfl ?_
            refine qm_G.s1 rfl (qm_x_iload rfl) ?_
            refine qm_G.s1 rfl (qm_x_pushI 0 rfl) ?_
            refine qm_G.s1 rfl (qm_x_pushI 5 rfl) ?_
            refine qm_G.cs rfl rfl rfl ?_
            refine qm_v_within11_t ⟨by decide, by decide⟩ ⟨by decide, by decide⟩ ⟨by decide, by decide⟩ (by decide) ⟨_, rfl, ?_⟩
            refine qm_G.ret rfl rfl ⟨_, rfl, ?_⟩
            refine qm_G.s1 rfl (qm_x_if_ne_t ⟨by decide, by decide⟩ (by decide)) ?_
            refine qm_G.sp (lv1 := [(0, qm_R (some (0, 61, 0))), (1, qm_I (qm_i 5)), (2, qm_I (qm_i a2)), (3, qm_L (((qm_l a3) <<< ((qm_i 32).toInt64 &&& 63)) ||| ((qm_l a4) &&& (qm_l 4294967295))))]) rfl rfl (qm_x_aload rfl) ?_
            refine qm_G.s1 rfl (qm_x_getfR (q := (some (0, 73, 0))) (hS 61 rfl) (hR 61 20 73 rfl rfl)) ?_
            refine qm_G.s1 rfl (qm_x_iload rfl) ?_
            refine qm_G.s1 rfl (qm_x_iald (v := (J 73 0 5)) (qm_arS hS rfl rfl) rfl (by decide) (by decide) (by decide) rfl) ?_
            refine qm_G.s1 rfl (qm_x_if_ne_t ⟨by omega, by omega⟩ (by omega)) ?_
            refine qm_G.sp (lv1 := [(0, qm_R (some (0, 61, 0))), (1, qm_I (qm_i 5)), (2, qm_I (qm_i a2)), (3, qm_L (((qm_l a3) <<< ((qm_i 32).toInt64 &&& 63)) ||| ((qm_l a4) &&& (qm_l 4294967295))))]) rfl rfl (qm_x_iload rfl) ?_
            refine qm_G.s1 rfl (qm_x_pushI 0 rfl) ?_
            refine qm_G.s1 rfl (qm_x_aload rfl) ?_
            refine qm_G.s1 rfl (qm_x_getfR (q := (some (0, 74, 0))) (hS 61 rfl) (hR 61 21 74 rfl rfl)) ?_
            refine qm_G.s1 rfl (qm_x_iload rfl) ?_
            refine qm_G.s1 rfl (qm_x_iald (v := (J 74 0 5)) (qm_arS hS rfl rfl) rfl (by decide) (by decide) (by decide) rfl) ?_
            refine qm_G.s1 rfl (qm_x_pushI 1 rfl) ?_
            refine qm_G.s1 rfl (qm_x_isub) ?_
            refine qm_G.cs rfl rfl rfl ?_
            refine qm_v_within11_t ⟨by omega, by omega⟩ ⟨by decide, by decide⟩ ⟨by omega, by omega⟩ (by omega) ⟨_, rfl, ?_⟩
            refine qm_G.s1 rfl (qm_x_if_ne_t ⟨by decide, by decide⟩ (by decide)) ?_
            refine qm_G.sp (lv1 := [(0, qm_R (some (0, 61, 0))), (1, qm_I (qm_i 5)), (2, qm_I (qm_i a2)), (3, qm_L (((qm_l a3) <<< ((qm_i 32).toInt64 &&& 63)) ||| ((qm_l a4) &&& (qm_l 4294967295))))]) rfl rfl (qm_x_aload rfl) ?_
            refine qm_G.s1 rfl (qm_x_getfR (q := (some (0, 73, 0))) (hS 61 rfl) (hR 61 20 73 rfl rfl)) ?_
            refine qm_G.s1 rfl (qm_x_iload rfl) ?_
            refine qm_G.s1 rfl (qm_x_iald (v := (J 73 0 5)) (qm_arS hS rfl rfl) rfl (by decide) (by decide) (by decide) rfl) ?_
            refine qm_G.s1 rfl (qm_x_istore (lv' := [(5, qm_I (qm_i (J 73 0 5))), (0, qm_R (some (0, 61, 0))), (1, qm_I (qm_i 5)), (2, qm_I (qm_i a2)), (3, qm_L (((qm_l a3) <<< ((qm_i 32).toInt64 &&& 63)) ||| ((qm_l a4) &&& (qm_l 4294967295))))]) rfl) ?_
            refine qm_G.s1 rfl (qm_x_aload rfl) ?_
            refine qm_G.s1 rfl (qm_x_getfR (q := (some (0, 75, 0))) (hS 61 rfl) (hR 61 22 75 rfl rfl)) ?_
            refine qm_G.s1 rfl (qm_x_pushI 60 rfl) ?_
            refine qm_G.s1 rfl (qm_x_iload rfl) ?_
            refine qm_G.s1 rfl (qm_x_imul) ?_
            refine qm_G.s1 rfl (qm_x_iload rfl) ?_
            refine qm_G.s1 rfl (qm_x_iadd) ?_
            refine qm_G.s1 rfl (qm_x_iload rfl) ?_
            refine qm_G.s1 rfl (qm_x_pushI 1 rfl) ?_
            refine qm_G.s1 rfl (qm_x_icmp_ne_t ⟨by omega, by omega⟩ ⟨by decide, by decide⟩ (by omega)) ?_
            refine qm_G.sp (lv1 := [(3, qm_L (((qm_l a3) <<< ((qm_i 32).toInt64 &&& 63)) ||| ((qm_l a4) &&& (qm_l 4294967295)))), (5, qm_I (qm_i (J 73 0 5)))]) rfl rfl (qm_x_iload rfl) ?_
            refine qm_G.s1 rfl (qm_x_pushI 2 rfl) ?_
            refine qm_G.s1 rfl (qm_x_icmp_ne_t ⟨by omega, by omega⟩ ⟨by decide, by decide⟩ (by omega)) ?_
            refine qm_G.sp (lv1 := [(3, qm_L (((qm_l a3) <<< ((qm_i 32).toInt64 &&& 63)) ||| ((qm_l a4) &&& (qm_l 4294967295)))), (5, qm_I (qm_i (J 73 0 5)))]) rfl rfl (qm_x_iload rfl) ?_
            refine qm_G.s1 rfl (qm_x_pushI 3 rfl) ?_
            refine qm_G.s1 rfl (qm_x_icmp_ne_t ⟨by omega, by omega⟩ ⟨by decide, by decide⟩ (by omega)) ?_
            refine qm_G.sp (lv1 := [(3, qm_L (((qm_l a3) <<< ((qm_i 32).toInt64 &&& 63)) ||| ((qm_l a4) &&& (qm_l 4294967295)))), (5, qm_I (qm_i (J 73 0 5)))]) rfl rfl (qm_x_iload rfl) ?_
            refine qm_G.s1 rfl (qm_x_pushI 4 rfl) ?_
            refine qm_G.s1 rfl (qm_x_icmp_ne_t ⟨by omega, by omega⟩ ⟨by decide, by decide⟩ (by omega)) ?_
            refine qm_G.sp (lv1 := [(3, qm_L (((qm_l a3) <<< ((qm_i 32).toInt64 &&& 63)) ||| ((qm_l a4) &&& (qm_l 4294967295))))]) rfl rfl (qm_x_lload rfl) ?_
            refine qm_G.s1 rfl (qm_x_pushL 0 rfl) ?_
            refine qm_G.s1 rfl (qm_x_lcmp_eq c184) ?_
            refine qm_G.s1 rfl (qm_x_if_eq_t ⟨by decide, by decide⟩ (by decide)) ?_
            refine qm_G.sp (lv1 := []) rfl rfl (qm_x_pushL 0 rfl) ?_
            refine qm_G.sp (lv1 := []) rfl rfl (qm_x_last (qm_arS hS rfl rfl) rfl (by omega) (by omega) (by decide)) ?_
            refine qm_G.s1 rfl (qm_x_pushI 1 rfl) ?_
            refine qm_G.ret rfl rfl ⟨_, rfl, ?_⟩
            refine qm_G.s1 rfl (qm_x_icmp_eq_t ⟨by decide, by decide⟩ ⟨by decide, by decide⟩ (by decide)) ?_
            rw [show (Int.toNat ((60 * 5) + a2)) = 300 + (Int.toNat a2) by omega]
            exact ih _ _ _ _ _ _ (qm_U_itm5 (by omega) hI)
          · refine qm_G.s1 rfl (qm_x_if_eq_f ⟨by decide, by decide⟩ (by decide)) ?_
            refine qm_G.s1 rfl (qm_x_pushL 1 rfl) ?_
            refine qm_G.s1 rfl (qm_x_goto) ?_
            refine qm_G.ret rfl rfl ⟨_, rfl, ?_⟩
            refine qm_G.s1 rfl (qm_x_last (qm_arS hS rfl rfl) rfl (by omega) (by omega) (by decide)) ?_
            refine qm_G.s1 rfl (qm_x_pushI 1 rfl) ?_
            refine qm_G.ret rfl rfl ⟨_, rfl, ?_⟩
            refine qm_G.s1 rfl (qm_x_aload rfl) ?_
            refine qm_G.s1 rfl (qm_x_aload rfl) ?_
            refine qm_G.s1 rfl (qm_x_iload rfl) ?_
            refine qm_G.s1 rfl (qm_x_pushI 1 rfl) ?_
            refine qm_G.s1 rfl (qm_x_iadd) ?_
            refine qm_G.s1 rfl (qm_x_iald2v (v := 5) (by omega) (by omega) hX e1) ?_
            refine qm_G.s1 rfl (qm_x_aload rfl) ?_
            refine qm_G.s1 rfl (qm_x_iload rfl) ?_
            refine qm_G.s1 rfl (qm_x_pushI 2 rfl) ?_
            refine qm_G.s1 rfl (qm_x_iadd) ?_
            refine qm_G.s1 rfl (qm_x_iald2v (v := a2) (by omega) (by omega) hX e2) ?_
            refine qm_G.s1 rfl (qm_x_aload rfl) ?_
            refine qm_G.s1 rfl (qm_x_iload rfl) ?_
            refine qm_G.s1 rfl (qm_x_pushI 3 rfl) ?_
            refine qm_G.s1 rfl (qm_x_iadd) ?_
            refine qm_G.s1 rfl (qm_x_iald2v (v := a3) (by omega) (by omega) hX e3) ?_
            refine qm_G.s1 rfl (qm_x_i2l ⟨by omega, by omega⟩) ?_
            refine qm_G.s1 rfl (qm_x_pushI 32 rfl) ?_
            refine qm_G.s1 rfl (qm_x_lshl) ?_
            refine qm_G.s1 rfl (qm_x_aload rfl) ?_
            refine qm_G.s1 rfl (qm_x_iload rfl) ?_
            refine qm_G.s1 rfl (qm_x_pushI 4 rfl) ?_
            refine qm_G.s1 rfl (qm_x_iadd) ?_
            refine qm_G.s1 rfl (qm_x_iald2v (v := a4) (by omega) (by omega) hX e4) ?_
            refine qm_G.s1 rfl (qm_x_i2l ⟨by omega, by omega⟩) ?_
            refine qm_G.s1 rfl (qm_x_pushL 4294967295 rfl) ?_
            refine qm_G.s1 rfl (qm_x_land) ?_
            refine qm_G.s1 rfl (qm_x_lor) ?_
            refine qm_G.cm rfl rfl (hS 61 rfl) rfl ?_
            refine qm_C.go (cd := qm_P125) (lv := [(0, qm_R (some (0, 61, 0))), (1, qm_I (qm_i 5)), (2, qm_I (qm_i a2)), (3, qm_L (((qm_l a3) <<< ((qm_i 32).toInt64 &&& 63)) ||| ((qm_l a4) &&& (qm_l 4294967295))))]) rfl rfl ?_
            refine qm_G.s1 rfl (qm_x_iload rfl) ?_
            refine qm_G.cs rfl rfl rfl ?_
            refine qm_C.go (cd := qm_P86) (lv := [(0, qm_I (qm_i 5))]) rfl rfl ?_
            refine qm_G.s1 rfl (qm_x_iload rfl) ?_
            refine qm_G.s1 rfl (qm_x_pushI 0 rfl) ?_
            refine qm_G.s1 rfl (qm_x_pushI 5 rfl) ?_
            refine qm_G.cs rfl rfl rfl ?_
            refine qm_v_within11_t ⟨by decide, by decide⟩ ⟨by decide, by decide⟩ ⟨by decide, by decide⟩ (by decide) ⟨_, rfl, ?_⟩
            refine qm_G.ret rfl rfl ⟨_, rfl, ?_⟩
            refine qm_G.s1 rfl (qm_x_if_ne_t ⟨by decide, by decide⟩ (by decide)) ?_
            refine qm_G.sp (lv1 := [(0, qm_R (some (0, 61, 0))), (1, qm_I (qm_i 5)), (2, qm_I (qm_i a2)), (3, qm_L (((qm_l a3) <<< ((qm_i 32).toInt64 &&& 63)) ||| ((qm_l a4) &&& (qm_l 4294967295))))]) rfl rfl (qm_x_aload rfl) ?_
            refine qm_G.s1 rfl (qm_x_getfR (q := (some (0, 73, 0))) (hS 61 rfl) (hR 61 20 73 rfl rfl)) ?_
            refine qm_G.s1 rfl (qm_x_iload rfl) ?_
            refine qm_G.s1 rfl (qm_x_iald (v := (J 73 0 5)) (qm_arS hS rfl rfl) rfl (by decide) (by decide) (by decide) rfl) ?_
            refine qm_G.s1 rfl (qm_x_if_ne_t ⟨by omega, by omega⟩ (by omega)) ?_
            refine qm_G.sp (lv1 := [(0, qm_R (some (0, 61, 0))), (1, qm_I (qm_i 5)), (2, qm_I (qm_i a2)), (3, qm_L (((qm_l a3) <<< ((qm_i 32).toInt64 &&& 63)) ||| ((qm_l a4) &&& (qm_l 4294967295))))]) rfl rfl (qm_x_iload rfl) ?_
            refine qm_G.s1 rfl (qm_x_pushI 0 rfl) ?_
            refine qm_G.s1 rfl (qm_x_aload rfl) ?_
            refine qm_G.s1 rfl (qm_x_getfR (q := (some (0, 74, 0))) (hS 61 rfl) (hR 61 21 74 rfl rfl)) ?_
            refine qm_G.s1 rfl (qm_x_iload rfl) ?_
            refine qm_G.s1 rfl (qm_x_iald (v := (J 74 0 5)) (qm_arS hS rfl rfl) rfl (by decide) (by decide) (by decide) rfl) ?_
            refine qm_G.s1 rfl (qm_x_pushI 1 rfl) ?_
            refine qm_G.s1 rfl (qm_x_isub) ?_
            refine qm_G.cs rfl rfl rfl ?_
            refine qm_v_within11_t ⟨by omega, by omega⟩ ⟨by decide, by decide⟩ ⟨by omega, by omega⟩ (by omega) ⟨_, rfl, ?_⟩
            refine qm_G.s1 rfl (qm_x_if_ne_t ⟨by decide, by decide⟩ (by decide)) ?_
            refine qm_G.sp (lv1 := [(0, qm_R (some (0, 61, 0))), (1, qm_I (qm_i 5)), (2, qm_I (qm_i a2)), (3, qm_L (((qm_l a3) <<< ((qm_i 32).toInt64 &&& 63)) ||| ((qm_l a4) &&& (qm_l 4294967295))))]) rfl rfl (qm_x_aload rfl) ?_
            refine qm_G.s1 rfl (qm_x_getfR (q := (some (0, 73, 0))) (hS 61 rfl) (hR 61 20 73 rfl rfl)) ?_
            refine qm_G.s1 rfl (qm_x_iload rfl) ?_
            refine qm_G.s1 rfl (qm_x_iald (v := (J 73 0 5)) (qm_arS hS rfl rfl) rfl (by decide) (by decide) (by decide) rfl) ?_
            refine qm_G.s1 rfl (qm_x_istore (lv' := [(5, qm_I (qm_i (J 73 0 5))), (0, qm_R (some (0, 61, 0))), (1, qm_I (qm_i 5)), (2, qm_I (qm_i a2)), (3, qm_L (((qm_l a3) <<< ((qm_i 32).toInt64 &&& 63)) ||| ((qm_l a4) &&& (qm_l 4294967295))))]) rfl) ?_
            refine qm_G.s1 rfl (qm_x_aload rfl) ?_
            refine qm_G.s1 rfl (qm_x_getfR (q := (some (0, 75, 0))) (hS 61 rfl) (hR 61 22 75 rfl rfl)) ?_
            refine qm_G.s1 rfl (qm_x_pushI 60 rfl) ?_
            refine qm_G.s1 rfl (qm_x_iload rfl) ?_
            refine qm_G.s1 rfl (qm_x_imul) ?_
            refine qm_G.s1 rfl (qm_x_iload rfl) ?_
            refine qm_G.s1 rfl (qm_x_iadd) ?_
            refine qm_G.s1 rfl (qm_x_iload rfl) ?_
            refine qm_G.s1 rfl (qm_x_pushI 1 rfl) ?_
            refine qm_G.s1 rfl (qm_x_icmp_ne_t ⟨by omega, by omega⟩ ⟨by decide, by decide⟩ (by omega)) ?_
            refine qm_G.sp (lv1 := [(3, qm_L (((qm_l a3) <<< ((qm_i 32).toInt64 &&& 63)) ||| ((qm_l a4) &&& (qm_l 4294967295)))), (5, qm_I (qm_i (J 73 0 5)))]) rfl rfl (qm_x_iload rfl) ?_
            refine qm_G.s1 rfl (qm_x_pushI 2 rfl) ?_
            refine qm_G.s1 rfl (qm_x_icmp_ne_t ⟨by omega, by omega⟩ ⟨by decide, by decide⟩ (by omega)) ?_
            refine qm_G.sp (lv1 := [(3, qm_L (((qm_l a3) <<< ((qm_i 32).toInt64 &&& 63)) ||| ((qm_l a4) &&& (qm_l 4294967295)))), (5, qm_I (qm_i (J 73 0 5)))]) rfl rfl (qm_x_iload rfl) ?_
            refine qm_G.s1 rfl (qm_x_pushI 3 rfl) ?_
            refine qm_G.s1 rfl (qm_x_icmp_ne_t ⟨by omega, by omega⟩ ⟨by decide, by decide⟩ (by omega)) ?_
            refine qm_G.sp (lv1 := [(3, qm_L (((qm_l a3) <<< ((qm_i 32).toInt64 &&& 63)) ||| ((qm_l a4) &&& (qm_l 4294967295)))), (5, qm_I (qm_i (J 73 0 5)))]) rfl rfl (qm_x_iload rfl) ?_
            refine qm_G.s1 rfl (qm_x_pushI 4 rfl) ?_
            refine qm_G.s1 rfl (qm_x_icmp_ne_t ⟨by omega, by omega⟩ ⟨by decide, by decide⟩ (by omega)) ?_
            refine qm_G.sp (lv1 := [(3, qm_L (((qm_l a3) <<< ((qm_i 32).toInt64 &&& 63)) ||| ((qm_l a4) &&& (qm_l 4294967295))))]) rfl rfl (qm_x_lload rfl) ?_
            refine qm_G.s1 rfl (qm_x_pushL 0 rfl) ?_
            refine qm_G.s1 rfl (qm_x_lcmp_gt c184) ?_
            refine qm_G.s1 rfl (qm_x_if_eq_f ⟨by decide, by decide⟩ (by decide)) ?_
            refine qm_G.s1 rfl (qm_x_pushL 1 rfl) ?_
            refine qm_G.s1 rfl (qm_x_goto) ?_
            refine qm_G.sp (lv1 := []) rfl rfl (qm_x_last (qm_arS hS rfl rfl) rfl (by omega) (by omega) (by decide)) ?_
            refine qm_G.s1 rfl (qm_x_pushI 1 rfl) ?_
            refine qm_G.ret rfl rfl ⟨_, rfl, ?_⟩
            refine qm_G.s1 rfl (qm_x_icmp_eq_t ⟨by decide, by decide⟩ ⟨by decide, by decide⟩ (by decide)) ?_
            rw [show (Int.toNat ((60 * 5) + a2)) = 300 + (Int.toNat a2) by omega]
            exact ih _ _ _ _ _ _ (qm_U_itm5 (by omega) hI)
      · refine qm_G.s1 rfl (qm_x_if_ne_f ⟨by decide, by decide⟩ (by decide)) ?_
        refine qm_G.s1 rfl (qm_x_pushI (-13) rfl) ?_
        refine qm_G.ret rfl rfl ⟨_, rfl, ?_⟩
        refine qm_G.s1 rfl (qm_x_aload rfl) ?_
        refine qm_G.s1 rfl (qm_x_aload rfl) ?_
        refine qm_G.s1 rfl (qm_x_iload rfl) ?_
        refine qm_G.s1 rfl (qm_x_pushI 1 rfl) ?_
        refine qm_G.s1 rfl (qm_x_iadd) ?_
        refine qm_G.s1 rfl (qm_x_iald2v (v := 5) (by omega) (by omega) hX e1) ?_
        refine qm_G.s1 rfl (qm_x_aload rfl) ?_
        refine qm_G.s1 rfl (qm_x_iload rfl) ?_
        refine qm_G.s1 rfl (qm_x_pushI 2 rfl) ?_
        refine qm_G.s1 rfl (qm_x_iadd) ?_
        refine qm_G.s1 rfl (qm_x_iald2v (v := a2) (by omega) (by omega) hX e2) ?_
        refine qm_G.s1 rfl (qm_x_aload rfl) ?_
        refine qm_G.s1 rfl (qm_x_iload rfl) ?_
        refine qm_G.s1 rfl (qm_x_pushI 3 rfl) ?_
        refine qm_G.s1 rfl (qm_x_iadd) ?_
        refine qm_G.s1 rfl (qm_x_iald2v (v := a3) (by omega) (by omega) hX e3) ?_
        refine qm_G.s1 rfl (qm_x_i2l ⟨by omega, by omega⟩) ?_
        refine qm_G.s1 rfl (qm_x_pushI 32 rfl) ?_
        refine qm_G.s1 rfl (qm_x_lshl) ?_
        refine qm_G.s1 rfl (qm_x_aload rfl) ?_
        refine qm_G.s1 rfl (qm_x_iload rfl) ?_
        refine qm_G.s1 rfl (qm_x_pushI 4 rfl) ?_
        refine qm_G.s1 rfl (qm_x_iadd) ?_
        refine qm_G.s1 rfl (qm_x_iald2v (v := a4) (by omega) (by omega) hX e4) ?_
        refine qm_G.s1 rfl (qm_x_i2l ⟨by omega, by omega⟩) ?_
        refine qm_G.s1 rfl (qm_x_pushL 4294967295 rfl) ?_
        refine qm_G.s1 rfl (qm_x_land) ?_
        refine qm_G.s1 rfl (qm_x_lor) ?_
        refine qm_G.cm rfl rfl (hS 61 rfl) rfl ?_
        refine qm_C.go (cd := qm_P125) (lv := [(0, qm_R (some (0, 61, 0))), (1, qm_I (qm_i 5)), (2, qm_I (qm_i a2)), (3, qm_L (((qm_l a3) <<< ((qm_i 32).toInt64 &&& 63)) ||| ((qm_l a4) &&& (qm_l 4294967295))))]) rfl rfl ?_
        refine qm_G.s1 rfl (qm_x_iload rfl) ?_
        refine qm_G.cs rfl rfl rfl ?_
        refine qm_C.go (cd := qm_P86) (lv := [(0, qm_I (qm_i 5))]) rfl rfl ?_
        refine qm_G.s1 rfl (qm_x_iload rfl) ?_
        refine qm_G.s1 rfl (qm_x_pushI 0 rfl) ?_
        refine qm_G.s1 rfl (qm_x_pushI 5 rfl) ?_
        refine qm_G.cs rfl rfl rfl ?_
        refine qm_v_within11_t ⟨by decide, by decide⟩ ⟨by decide, by decide⟩ ⟨by decide, by decide⟩ (by decide) ⟨_, rfl, ?_⟩
        refine qm_G.ret rfl rfl ⟨_, rfl, ?_⟩
        refine qm_G.s1 rfl (qm_x_if_ne_t ⟨by decide, by decide⟩ (by decide)) ?_
        refine qm_G.sp (lv1 := [(0, qm_R (some (0, 61, 0))), (1, qm_I (qm_i 5)), (2, qm_I (qm_i a2)), (3, qm_L (((qm_l a3) <<< ((qm_i 32).toInt64 &&& 63)) ||| ((qm_l a4) &&& (qm_l 4294967295))))]) rfl rfl (qm_x_aload rfl) ?_
        refine qm_G.s1 rfl (qm_x_getfR (q := (some (0, 73, 0))) (hS 61 rfl) (hR 61 20 73 rfl rfl)) ?_
        refine qm_G.s1 rfl (qm_x_iload rfl) ?_
        refine qm_G.s1 rfl (qm_x_iald (v := (J 73 0 5)) (qm_arS hS rfl rfl) rfl (by decide) (by decide) (by decide) rfl) ?_
        refine qm_G.s1 rfl (qm_x_if_ne_t ⟨by omega, by omega⟩ (by omega)) ?_
        refine qm_G.sp (lv1 := [(0, qm_R (some (0, 61, 0))), (1, qm_I (qm_i 5)), (2, qm_I (qm_i a2)), (3, qm_L (((qm_l a3) <<< ((qm_i 32).toInt64 &&& 63)) ||| ((qm_l a4) &&& (qm_l 4294967295))))]) rfl rfl (qm_x_iload rfl) ?_
        refine qm_G.s1 rfl (qm_x_pushI 0 rfl) ?_
        refine qm_G.s1 rfl (qm_x_aload rfl) ?_
        refine qm_G.s1 rfl (qm_x_getfR (q := (some (0, 74, 0))) (hS 61 rfl) (hR 61 21 74 rfl rfl)) ?_
        refine qm_G.s1 rfl (qm_x_iload rfl) ?_
        refine qm_G.s1 rfl (qm_x_iald (v := (J 74 0 5)) (qm_arS hS rfl rfl) rfl (by decide) (by decide) (by decide) rfl) ?_
        refine qm_G.s1 rfl (qm_x_pushI 1 rfl) ?_
        refine qm_G.s1 rfl (qm_x_isub) ?_
        refine qm_G.cs rfl rfl rfl ?_
        refine qm_v_within11_f ⟨by omega, by omega⟩ ⟨by decide, by decide⟩ ⟨by omega, by omega⟩ (by omega) ⟨_, rfl, ?_⟩
        refine qm_G.s1 rfl (qm_x_if_ne_f ⟨by decide, by decide⟩ (by decide)) ?_
        refine qm_G.s1 rfl (qm_x_pushI (-13) rfl) ?_
        refine qm_G.ret rfl rfl ⟨_, rfl, ?_⟩
        refine qm_G.s1 rfl (qm_x_icmp_eq_t ⟨by decide, by decide⟩ ⟨by decide, by decide⟩ (by decide)) ?_
        exact ih _ _ _ _ _ _ hI.next
    · refine qm_G.s1 rfl (qm_x_pushI (-11) rfl) ?_
      refine qm_G.ret rfl rfl ⟨_, rfl, ?_⟩
      refine qm_G.s1 rfl (qm_x_aload rfl) ?_
      refine qm_G.s1 rfl (qm_x_aload rfl) ?_
      refine qm_G.s1 rfl (qm_x_iload rfl) ?_
      refine qm_G.s1 rfl (qm_x_pushI 1 rfl) ?_
      refine qm_G.s1 rfl (qm_x_iadd) ?_
      refine qm_G.s1 rfl (qm_x_iald2v (v := 5) (by omega) (by omega) hX e1) ?_
      refine qm_G.s1 rfl (qm_x_aload rfl) ?_
      refine qm_G.s1 rfl (qm_x_iload rfl) ?_
      refine qm_G.s1 rfl (qm_x_pushI 2 rfl) ?_
      refine qm_G.s1 rfl (qm_x_iadd) ?_
      refine qm_G.s1 rfl (qm_x_iald2v (v := a2) (by omega) (by omega) hX e2) ?_
      refine qm_G.s1 rfl (qm_x_aload rfl) ?_
      refine qm_G.s1 rfl (qm_x_iload rfl) ?_
      refine qm_G.s1 rfl (qm_x_pushI 3 rfl) ?_
      refine qm_G.s1 rfl (qm_x_iadd) ?_
      refine qm_G.s1 rfl (qm_x_iald2v (v := a3) (by omega) (by omega) hX e3) ?_
      refine qm_G.s1 rfl (qm_x_i2l ⟨by omega, by omega⟩) ?_
      refine qm_G.s1 rfl (qm_x_pushI 32 rfl) ?_
      refine qm_G.s1 rfl (qm_x_lshl) ?_
      refine qm_G.s1 rfl (qm_x_aload rfl) ?_
      refine qm_G.s1 rfl (qm_x_iload rfl) ?_
      refine qm_G.s1 rfl (qm_x_pushI 4 rfl) ?_
      refine qm_G.s1 rfl (qm_x_iadd) ?_
      refine qm_G.s1 rfl (qm_x_iald2v (v := a4) (by omega) (by omega) hX e4) ?_
      refine qm_G.s1 rfl (qm_x_i2l ⟨by omega, by omega⟩) ?_
      refine qm_G.s1 rfl (qm_x_pushL 4294967295 rfl) ?_
      refine qm_G.s1 rfl (qm_x_land) ?_
      refine qm_G.s1 rfl (qm_x_lor) ?_
      refine qm_G.cm rfl rfl (hS 61 rfl) rfl ?_
      refine qm_C.go (cd := qm_P125) (lv := [(0, qm_R (some (0, 61, 0))), (1, qm_I (qm_i 5)), (2, qm_I (qm_i a2)), (3, qm_L (((qm_l a3) <<< ((qm_i 32).toInt64 &&& 63)) ||| ((qm_l a4) &&& (qm_l 4294967295))))]) rfl rfl ?_
      refine qm_G.s1 rfl (qm_x_iload rfl) ?_
      refine qm_G.cs rfl rfl rfl ?_
      refine qm_C.go (cd := qm_P86) (lv := [(0, qm_I (qm_i 5))]) rfl rfl ?_
      refine qm_G.s1 rfl (qm_x_iload rfl) ?_
      refine qm_G.s1 rfl (qm_x_pushI 0 rfl) ?_
      refine qm_G.s1 rfl (qm_x_pushI 5 rfl) ?_
      refine qm_G.cs rfl rfl rfl ?_
      refine qm_v_within11_t ⟨by decide, by decide⟩ ⟨by decide, by decide⟩ ⟨by decide, by decide⟩ (by decide) ⟨_, rfl, ?_⟩
      refine qm_G.ret rfl rfl ⟨_, rfl, ?_⟩
      refine qm_G.s1 rfl (qm_x_if_ne_t ⟨by decide, by decide⟩ (by decide)) ?_
      refine qm_G.sp (lv1 := [(0, qm_R (some (0, 61, 0))), (1, qm_I (qm_i 5)), (2, qm_I (qm_i a2)), (3, qm_L (((qm_l a3) <<< ((qm_i 32).toInt64 &&& 63)) ||| ((qm_l a4) &&& (qm_l 4294967295))))]) rfl rfl (qm_x_aload rfl) ?_
      refine qm_G.s1 rfl (qm_x_getfR (q := (some (0, 73, 0))) (hS 61 rfl) (hR 61 20 73 rfl rfl)) ?_
      refine qm_G.s1 rfl (qm_x_iload rfl) ?_
      refine qm_G.s1 rfl (qm_x_iald (v := (J 73 0 5)) (qm_arS hS rfl rfl) rfl (by decide) (by decide) (by decide) rfl) ?_
      refine qm_G.s1 rfl (qm_x_if_ne_f ⟨by omega, by omega⟩ (by omega)) ?_
      refine qm_G.s1 rfl (qm_x_pushI (-11) rfl) ?_
      refine qm_G.ret rfl rfl ⟨_, rfl, ?_⟩
      refine qm_G.s1 rfl (qm_x_icmp_eq_t ⟨by decide, by decide⟩ ⟨by decide, by decide⟩ (by decide)) ?_
      exact ih _ _ _ _ _ _ hI.next
  · refine qm_G.sp (lv1 := [(0, qm_R (some (2, 0, 0))), (1, qm_R (some (0, 0, 0))), (2, qm_R (some (0, 61, 0))), (3, qm_I (qm_i z))]) rfl rfl (qm_x_aload rfl) ?_
    refine qm_G.s1 rfl (qm_x_aload rfl) ?_
    refine qm_G.s1 rfl (qm_x_iload rfl) ?_
    refine qm_G.s1 rfl (qm_x_pushI 1 rfl) ?_
    refine qm_G.s1 rfl (qm_x_iadd) ?_
    refine qm_G.s1 rfl (qm_x_iald2v (v := a1) (by omega) (by omega) hX e1) ?_
    refine qm_G.s1 rfl (qm_x_aload rfl) ?_
    refine qm_G.s1 rfl (qm_x_iload rfl) ?_
    refine qm_G.s1 rfl (qm_x_pushI 2 rfl) ?_
    refine qm_G.s1 rfl (qm_x_iadd) ?_
    refine qm_G.s1 rfl (qm_x_iald2v (v := a2) (by omega) (by omega) hX e2) ?_
    refine qm_G.s1 rfl (qm_x_aload rfl) ?_
    refine qm_G.s1 rfl (qm_x_iload rfl) ?_
    refine qm_G.s1 rfl (qm_x_pushI 3 rfl) ?_
    refine qm_G.s1 rfl (qm_x_iadd) ?_
    refine qm_G.s1 rfl (qm_x_iald2v (v := a3) (by omega) (by omega) hX e3) ?_
    refine qm_G.s1 rfl (qm_x_i2l ⟨by omega, by omega⟩) ?_
    refine qm_G.s1 rfl (qm_x_pushI 32 rfl) ?_
    refine qm_G.s1 rfl (qm_x_lshl) ?_
    refine qm_G.s1 rfl (qm_x_aload rfl) ?_
    refine qm_G.s1 rfl (qm_x_iload rfl) ?_
    refine qm_G.s1 rfl (qm_x_pushI 4 rfl) ?_
    refine qm_G.s1 rfl (qm_x_iadd) ?_
    refine qm_G.s1 rfl (qm_x_iald2v (v := a4) (by omega) (by omega) hX e4) ?_
    refine qm_G.s1 rfl (qm_x_i2l ⟨by omega, by omega⟩) ?_
    refine qm_G.s1 rfl (qm_x_pushL 4294967295 rfl) ?_
    refine qm_G.s1 rfl (qm_x_land) ?_
    refine qm_G.s1 rfl (qm_x_lor) ?_
    refine qm_G.cm rfl rfl (hS 0 rfl) rfl ?_
    refine qm_C.go (cd := qm_P114) (lv := [(0, qm_R (some (0, 0, 0))), (1, qm_I (qm_i a1)), (2, qm_I (qm_i a2)), (3, qm_L (((qm_l a3) <<< ((qm_i 32).toInt64 &&& 63)) ||| ((qm_l a4) &&& (qm_l 4294967295))))]) rfl rfl ?_
    refine qm_G.s1 rfl (qm_x_iload rfl) ?_
    refine qm_G.cs rfl rfl rfl ?_
    refine qm_C.go (cd := qm_P76) (lv := [(0, qm_I (qm_i a1))]) rfl rfl ?_
    refine qm_G.s1 rfl (qm_x_iload rfl) ?_
    refine qm_G.s1 rfl (qm_x_pushI 0 rfl) ?_
    refine qm_G.s1 rfl (qm_x_pushI 5 rfl) ?_
    refine qm_G.cs rfl rfl rfl ?_
    refine qm_v_within10_f ⟨by omega, by omega⟩ ⟨by decide, by decide⟩ ⟨by decide, by decide⟩ (by omega) ⟨_, rfl, ?_⟩
    refine qm_G.ret rfl rfl ⟨_, rfl, ?_⟩
    refine qm_G.s1 rfl (qm_x_if_ne_f ⟨by decide, by decide⟩ (by decide)) ?_
    refine qm_G.s1 rfl (qm_x_pushI (-1) rfl) ?_
    refine qm_G.ret rfl rfl ⟨_, rfl, ?_⟩
    refine qm_G.s1 rfl (qm_x_aload rfl) ?_
    refine qm_G.s1 rfl (qm_x_aload rfl) ?_
    refine qm_G.s1 rfl (qm_x_iload rfl) ?_
    refine qm_G.s1 rfl (qm_x_pushI 1 rfl) ?_
    refine qm_G.s1 rfl (qm_x_iadd) ?_
    refine qm_G.s1 rfl (qm_x_iald2v (v := a1) (by omega) (by omega) hX e1) ?_
    refine qm_G.s1 rfl (qm_x_aload rfl) ?_
    refine qm_G.s1 rfl (qm_x_iload rfl) ?_
    refine qm_G.s1 rfl (qm_x_pushI 2 rfl) ?_
    refine qm_G.s1 rfl (qm_x_iadd) ?_
    refine qm_G.s1 rfl (qm_x_iald2v (v := a2) (by omega) (by omega) hX e2) ?_
    refine qm_G.s1 rfl (qm_x_aload rfl) ?_
    refine qm_G.s1 rfl (qm_x_iload rfl) ?_
    refine qm_G.s1 rfl (qm_x_pushI 3 rfl) ?_
    refine qm_G.s1 rfl (qm_x_iadd) ?_
    refine qm_G.s1 rfl (qm_x_iald2v (v := a3) (by omega) (by omega) hX e3) ?_
    refine qm_G.s1 rfl (qm_x_i2l ⟨by omega, by omega⟩) ?_
    refine qm_G.s1 rfl (qm_x_pushI 32 rfl) ?_
    refine qm_G.s1 rfl (qm_x_lshl) ?_
    refine qm_G.s1 rfl (qm_x_aload rfl) ?_
    refine qm_G.s1 rfl (qm_x_iload rfl) ?_
    refine qm_G.s1 rfl (qm_x_pushI 4 rfl) ?_
    refine qm_G.s1 rfl (qm_x_iadd) ?_
    refine qm_G.s1 rfl (qm_x_iald2v (v := a4) (by omega) (by omega) hX e4) ?_
    refine qm_G.s1 rfl (qm_x_i2l ⟨by omega, by omega⟩) ?_
    refine qm_G.s1 rfl (qm_x_pushL 4294967295 rfl) ?_
    refine qm_G.s1 rfl (qm_x_land) ?_
    refine qm_G.s1 rfl (qm_x_lor) ?_
    refine qm_G.cm rfl rfl (hS 61 rfl) rfl ?_
    refine qm_C.go (cd := qm_P125) (lv := [(0, qm_R (some (0, 61, 0))), (1, qm_I (qm_i a1)), (2, qm_I (qm_i a2)), (3, qm_L (((qm_l a3) <<< ((qm_i 32).toInt64 &&& 63)) ||| ((qm_l a4) &&& (qm_l 4294967295))))]) rfl rfl ?_
    refine qm_G.s1 rfl (qm_x_iload rfl) ?_
    refine qm_G.cs rfl rfl rfl ?_
    refine qm_C.go (cd := qm_P86) (lv := [(0, qm_I (qm_i a1))]) rfl rfl ?_
    refine qm_G.s1 rfl (qm_x_iload rfl) ?_
    refine qm_G.s1 rfl (qm_x_pushI 0 rfl) ?_
    refine qm_G.s1 rfl (qm_x_pushI 5 rfl) ?_
    refine qm_G.cs rfl rfl rfl ?_
    refine qm_v_within11_f ⟨by omega, by omega⟩ ⟨by decide, by decide⟩ ⟨by decide, by decide⟩ (by omega) ⟨_, rfl, ?_⟩
    refine qm_G.ret rfl rfl ⟨_, rfl, ?_⟩
    refine qm_G.s1 rfl (qm_x_if_ne_f ⟨by decide, by decide⟩ (by decide)) ?_
    refine qm_G.s1 rfl (qm_x_pushI (-1) rfl) ?_
    refine qm_G.ret rfl rfl ⟨_, rfl, ?_⟩
    refine qm_G.s1 rfl (qm_x_icmp_eq_t ⟨by decide, by decide⟩ ⟨by decide, by decide⟩ (by decide)) ?_
    exact ih _ _ _ _ _ _ hI.next
